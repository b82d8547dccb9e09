def ys816 : ySp := (186, 4, (0, [], [], [], [(0, (2, yc 70, yc 0)), (1, (0, yc 133, yc 0)), (2, (0, yc 0, yc 0)), (3, (0, yc 4, yc 0))], []), [(3, [(0, 0, 400), (1, 0, 400), (2, 1, 2147483647)], [], [(yc 70, yc 8, (0, (1, 0, 0), yc 0)), (yc 70, yc 1, (0, (1, 1, 0), yc 0)), (yc 70, yc 9, (0, (1, 2, 0), yc 0))], [], [(0, yc 0, yc 0)]), (4, [(0, 0, 4000), (1, 0, 400), (2, 0, 400), (3, 0, 4)], [], [(yc 70, yc 9, (0, (1, 0, 0), yc 0)), (yc 70, yc 8, (0, (1, 1, 0), yc 0)), (yc 70, yc 1, (0, (1, 2, 0), yc 0)), (yc 70, yc 10, (0, (1, 3, 0), yc 0))], [], [(0, yc 1, yc 0)])], [(70, 70, 8), (70, 70, 9), (70, 70, 10), (76, 76, 133)])
def yx816 : yCx := ([ys778], ys816.2.2.2.2, yFP, zm186.2.2.1, zm186.2.2.2.1, zc186, 0, ys816.2.2.2.1, [], [])
theorem yw816 : ywf ys816.2.2.1 = true := by decide +kernel
theorem yk816 : yver yx816 ys816.2.2.1 4000 = true := by decide +kernel
theorem yt816 {E : zHp → Prop} (h : yXt E) : yTs E ys816 := yver_s (x := yx816) h.1 (yal_c (yt778 h) yw778 (yal_n)) yg186 yk816
def ys817 : ySp := (186, 4, (0, [], [], [], [(0, (2, yc 70, yc 0)), (1, (0, yc 134, yc 0)), (2, (0, yc 1, yc 0)), (3, (0, yc 20, yc 0))], []), [(3, [(0, 0, 400), (1, 0, 400), (2, 1, 2147483647)], [], [(yc 70, yc 8, (0, (1, 0, 0), yc 0)), (yc 70, yc 1, (0, (1, 1, 0), yc 0)), (yc 70, yc 9, (0, (1, 2, 0), yc 0))], [], [(0, yc 0, yc 0)]), (4, [(0, 0, 4000), (1, 1, 400), (2, 0, 400), (3, 1, 20)], [], [(yc 70, yc 9, (0, (1, 0, 0), yc 0)), (yc 70, yc 8, (0, (1, 1, 0), yc 0)), (yc 70, yc 1, (0, (1, 2, 0), yc 0)), (yc 70, yc 10, (0, (1, 3, 0), yc 0))], [], [(0, yc 1, yc 0)])], [(70, 70, 8), (70, 70, 9), (70, 70, 10), (76, 76, 134)])
def yx817 : yCx := ([ys772], ys817.2.2.2.2, yFP, zm186.2.2.1, zm186.2.2.2.1, zc186, 0, ys817.2.2.2.1, [], [])
theorem yw817 : ywf ys817.2.2.1 = true := by decide +kernel
theorem yk817 : yver yx817 ys817.2.2.1 4000 = true := by decide +kernel
theorem yt817 {E : zHp → Prop} (h : yXt E) : yTs E ys817 := yver_s (x := yx817) h.1 (yal_c (yt772 h) yw772 (yal_n)) yg186 yk817
def ys818 : ySp := (186, 4, (0, [], [], [], [(0, (2, yc 70, yc 0)), (1, (0, yc 135, yc 0)), (2, (0, yc 1, yc 0)), (3, (0, yc 50, yc 0))], []), [(3, [(0, 0, 400), (1, 0, 400), (2, 1, 2147483647)], [], [(yc 70, yc 8, (0, (1, 0, 0), yc 0)), (yc 70, yc 1, (0, (1, 1, 0), yc 0)), (yc 70, yc 9, (0, (1, 2, 0), yc 0))], [], [(0, yc 0, yc 0)]), (4, [(0, 0, 4000), (1, 1, 400), (2, 0, 400), (3, 1, 50)], [], [(yc 70, yc 9, (0, (1, 0, 0), yc 0)), (yc 70, yc 8, (0, (1, 1, 0), yc 0)), (yc 70, yc 1, (0, (1, 2, 0), yc 0)), (yc 70, yc 10, (0, (1, 3, 0), yc 0))], [], [(0, yc 1, yc 0)])], [(70, 70, 8), (70, 70, 9), (70, 70, 10), (76, 76, 135)])
def yx818 : yCx := ([ys805], ys818.2.2.2.2, yFP, zm186.2.2.1, zm186.2.2.2.1, zc186, 0, ys818.2.2.2.1, [], [])
theorem yw818 : ywf ys818.2.2.1 = true := by decide +kernel
theorem yk818 : yver yx818 ys818.2.2.1 4000 = true := by decide +kernel
theorem yt818 {E : zHp → Prop} (h : yXt E) : yTs E ys818 := yver_s (x := yx818) h.1 (yal_c (yt805 h) yw805 (yal_n)) yg186 yk818
def ys819 : ySp := (186, 4, (1, [(0, (-1), 5)], [], [], [(0, (2, yc 70, yc 0)), (1, (0, yc 128, yc 0)), (2, (0, yc 0, yc 0)), (3, (0, (1, 0, 0), yc 0))], []), [(4, [(1, 0, 400), (2, 0, 400), (3, 1, 2147483647)], [], [(yc 70, yc 8, (0, (1, 1, 0), yc 0)), (yc 70, yc 1, (0, (1, 2, 0), yc 0)), (yc 70, yc 9, (0, (1, 3, 0), yc 0))], [], [(0, yc 0, yc 0)]), (5, [(0, 0, 5), (1, 0, 4000), (2, 0, 400), (3, 0, 400), (4, 0, 5)], [([(1, 0)], 0)], [(yc 70, yc 9, (0, (1, 1, 0), yc 0)), (yc 70, yc 8, (0, (1, 2, 0), yc 0)), (yc 70, yc 1, (0, (1, 3, 0), yc 0)), (yc 70, yc 10, (0, (1, 4, 0), yc 0))], [], [(0, yc 1, yc 0)])], [(70, 70, 8), (70, 70, 9), (70, 70, 10), (76, 76, 128)])
def yx819 : yCx := ([ys776], ys819.2.2.2.2, yFP, zm186.2.2.1, zm186.2.2.2.1, zc186, 1, ys819.2.2.2.1, [], [])
theorem yw819 : ywf ys819.2.2.1 = true := by decide +kernel
theorem yk819 : yver yx819 ys819.2.2.1 4000 = true := by decide +kernel
theorem yt819 {E : zHp → Prop} (h : yXt E) : yTs E ys819 := yver_s (x := yx819) h.1 (yal_c (yt776 h) yw776 (yal_n)) yg186 yk819
def ys820 : ySp := (186, 4, (0, [], [], [], [(0, (2, yc 70, yc 0)), (1, (0, yc 129, yc 0)), (2, (0, yc 0, yc 0)), (3, (0, yc 4, yc 0))], []), [(3, [(0, 0, 400), (1, 0, 400), (2, 1, 2147483647)], [], [(yc 70, yc 8, (0, (1, 0, 0), yc 0)), (yc 70, yc 1, (0, (1, 1, 0), yc 0)), (yc 70, yc 9, (0, (1, 2, 0), yc 0))], [], [(0, yc 0, yc 0)]), (4, [(0, 0, 4000), (1, 0, 400), (2, 0, 400), (3, 0, 4)], [], [(yc 70, yc 9, (0, (1, 0, 0), yc 0)), (yc 70, yc 8, (0, (1, 1, 0), yc 0)), (yc 70, yc 1, (0, (1, 2, 0), yc 0)), (yc 70, yc 10, (0, (1, 3, 0), yc 0))], [], [(0, yc 1, yc 0)])], [(70, 70, 8), (70, 70, 9), (70, 70, 10), (76, 76, 129)])
def yx820 : yCx := ([ys778], ys820.2.2.2.2, yFP, zm186.2.2.1, zm186.2.2.2.1, zc186, 0, ys820.2.2.2.1, [], [])
theorem yw820 : ywf ys820.2.2.1 = true := by decide +kernel
theorem yk820 : yver yx820 ys820.2.2.1 4000 = true := by decide +kernel
theorem yt820 {E : zHp → Prop} (h : yXt E) : yTs E ys820 := yver_s (x := yx820) h.1 (yal_c (yt778 h) yw778 (yal_n)) yg186 yk820
def ys821 : ySp := (186, 4, (0, [], [], [], [(0, (2, yc 70, yc 0)), (1, (0, yc 130, yc 0)), (2, (0, yc 1, yc 0)), (3, (0, yc 20, yc 0))], []), [(3, [(0, 0, 400), (1, 0, 400), (2, 1, 2147483647)], [], [(yc 70, yc 8, (0, (1, 0, 0), yc 0)), (yc 70, yc 1, (0, (1, 1, 0), yc 0)), (yc 70, yc 9, (0, (1, 2, 0), yc 0))], [], [(0, yc 0, yc 0)]), (4, [(0, 0, 4000), (1, 1, 400), (2, 0, 400), (3, 1, 20)], [], [(yc 70, yc 9, (0, (1, 0, 0), yc 0)), (yc 70, yc 8, (0, (1, 1, 0), yc 0)), (yc 70, yc 1, (0, (1, 2, 0), yc 0)), (yc 70, yc 10, (0, (1, 3, 0), yc 0))], [], [(0, yc 1, yc 0)])], [(70, 70, 8), (70, 70, 9), (70, 70, 10), (76, 76, 130)])
def yx821 : yCx := ([ys772], ys821.2.2.2.2, yFP, zm186.2.2.1, zm186.2.2.2.1, zc186, 0, ys821.2.2.2.1, [], [])
theorem yw821 : ywf ys821.2.2.1 = true := by decide +kernel
theorem yk821 : yver yx821 ys821.2.2.1 4000 = true := by decide +kernel
theorem yt821 {E : zHp → Prop} (h : yXt E) : yTs E ys821 := yver_s (x := yx821) h.1 (yal_c (yt772 h) yw772 (yal_n)) yg186 yk821
def ys822 : ySp := (186, 4, (0, [], [], [], [(0, (2, yc 70, yc 0)), (1, (0, yc 131, yc 0)), (2, (0, yc 1, yc 0)), (3, (0, yc 50, yc 0))], []), [(3, [(0, 0, 400), (1, 0, 400), (2, 1, 2147483647)], [], [(yc 70, yc 8, (0, (1, 0, 0), yc 0)), (yc 70, yc 1, (0, (1, 1, 0), yc 0)), (yc 70, yc 9, (0, (1, 2, 0), yc 0))], [], [(0, yc 0, yc 0)]), (4, [(0, 0, 4000), (1, 1, 400), (2, 0, 400), (3, 1, 50)], [], [(yc 70, yc 9, (0, (1, 0, 0), yc 0)), (yc 70, yc 8, (0, (1, 1, 0), yc 0)), (yc 70, yc 1, (0, (1, 2, 0), yc 0)), (yc 70, yc 10, (0, (1, 3, 0), yc 0))], [], [(0, yc 1, yc 0)])], [(70, 70, 8), (70, 70, 9), (70, 70, 10), (76, 76, 131)])
def yx822 : yCx := ([ys805], ys822.2.2.2.2, yFP, zm186.2.2.1, zm186.2.2.2.1, zc186, 0, ys822.2.2.2.1, [], [])
theorem yw822 : ywf ys822.2.2.1 = true := by decide +kernel
theorem yk822 : yver yx822 ys822.2.2.1 4000 = true := by decide +kernel
theorem yt822 {E : zHp → Prop} (h : yXt E) : yTs E ys822 := yver_s (x := yx822) h.1 (yal_c (yt805 h) yw805 (yal_n)) yg186 yk822
def ys823 : ySp := (186, 4, (1, [(0, (-1), 5)], [], [], [(0, (2, yc 70, yc 0)), (1, (0, yc 124, yc 0)), (2, (0, yc 0, yc 0)), (3, (0, (1, 0, 0), yc 0))], []), [(4, [(1, 0, 400), (2, 0, 400), (3, 1, 2147483647)], [], [(yc 70, yc 8, (0, (1, 1, 0), yc 0)), (yc 70, yc 1, (0, (1, 2, 0), yc 0)), (yc 70, yc 9, (0, (1, 3, 0), yc 0))], [], [(0, yc 0, yc 0)]), (5, [(0, 0, 5), (1, 0, 4000), (2, 0, 400), (3, 0, 400), (4, 0, 5)], [([(1, 0)], 0)], [(yc 70, yc 9, (0, (1, 1, 0), yc 0)), (yc 70, yc 8, (0, (1, 2, 0), yc 0)), (yc 70, yc 1, (0, (1, 3, 0), yc 0)), (yc 70, yc 10, (0, (1, 4, 0), yc 0))], [], [(0, yc 1, yc 0)])], [(70, 70, 8), (70, 70, 9), (70, 70, 10), (76, 76, 124)])
def yx823 : yCx := ([ys776], ys823.2.2.2.2, yFP, zm186.2.2.1, zm186.2.2.2.1, zc186, 1, ys823.2.2.2.1, [], [])
theorem yw823 : ywf ys823.2.2.1 = true := by decide +kernel
theorem yk823 : yver yx823 ys823.2.2.1 4000 = true := by decide +kernel
theorem yt823 {E : zHp → Prop} (h : yXt E) : yTs E ys823 := yver_s (x := yx823) h.1 (yal_c (yt776 h) yw776 (yal_n)) yg186 yk823
def ys824 : ySp := (186, 4, (0, [], [], [], [(0, (2, yc 70, yc 0)), (1, (0, yc 125, yc 0)), (2, (0, yc 0, yc 0)), (3, (0, yc 4, yc 0))], []), [(3, [(0, 0, 400), (1, 0, 400), (2, 1, 2147483647)], [], [(yc 70, yc 8, (0, (1, 0, 0), yc 0)), (yc 70, yc 1, (0, (1, 1, 0), yc 0)), (yc 70, yc 9, (0, (1, 2, 0), yc 0))], [], [(0, yc 0, yc 0)]), (4, [(0, 0, 4000), (1, 0, 400), (2, 0, 400), (3, 0, 4)], [], [(yc 70, yc 9, (0, (1, 0, 0), yc 0)), (yc 70, yc 8, (0, (1, 1, 0), yc 0)), (yc 70, yc 1, (0, (1, 2, 0), yc 0)), (yc 70, yc 10, (0, (1, 3, 0), yc 0))], [], [(0, yc 1, yc 0)])], [(70, 70, 8), (70, 70, 9), (70, 70, 10), (76, 76, 125)])
def yx824 : yCx := ([ys778], ys824.2.2.2.2, yFP, zm186.2.2.1, zm186.2.2.2.1, zc186, 0, ys824.2.2.2.1, [], [])
theorem yw824 : ywf ys824.2.2.1 = true := by decide +kernel
theorem yk824 : yver yx824 ys824.2.2.1 4000 = true := by decide +kernel
theorem yt824 {E : zHp → Prop} (h : yXt E) : yTs E ys824 := yver_s (x := yx824) h.1 (yal_c (yt778 h) yw778 (yal_n)) yg186 yk824
def ys825 : ySp := (186, 4, (0, [], [], [], [(0, (2, yc 70, yc 0)), (1, (0, yc 126, yc 0)), (2, (0, yc 1, yc 0)), (3, (0, yc 20, yc 0))], []), [(3, [(0, 0, 400), (1, 0, 400), (2, 1, 2147483647)], [], [(yc 70, yc 8, (0, (1, 0, 0), yc 0)), (yc 70, yc 1, (0, (1, 1, 0), yc 0)), (yc 70, yc 9, (0, (1, 2, 0), yc 0))], [], [(0, yc 0, yc 0)]), (4, [(0, 0, 4000), (1, 1, 400), (2, 0, 400), (3, 1, 20)], [], [(yc 70, yc 9, (0, (1, 0, 0), yc 0)), (yc 70, yc 8, (0, (1, 1, 0), yc 0)), (yc 70, yc 1, (0, (1, 2, 0), yc 0)), (yc 70, yc 10, (0, (1, 3, 0), yc 0))], [], [(0, yc 1, yc 0)])], [(70, 70, 8), (70, 70, 9), (70, 70, 10), (76, 76, 126)])
def yx825 : yCx := ([ys772], ys825.2.2.2.2, yFP, zm186.2.2.1, zm186.2.2.2.1, zc186, 0, ys825.2.2.2.1, [], [])
theorem yw825 : ywf ys825.2.2.1 = true := by decide +kernel
theorem yk825 : yver yx825 ys825.2.2.1 4000 = true := by decide +kernel
theorem yt825 {E : zHp → Prop} (h : yXt E) : yTs E ys825 := yver_s (x := yx825) h.1 (yal_c (yt772 h) yw772 (yal_n)) yg186 yk825
def ys826 : ySp := (186, 4, (0, [], [], [], [(0, (2, yc 70, yc 0)), (1, (0, yc 127, yc 0)), (2, (0, yc 1, yc 0)), (3, (0, yc 50, yc 0))], []), [(3, [(0, 0, 400), (1, 0, 400), (2, 1, 2147483647)], [], [(yc 70, yc 8, (0, (1, 0, 0), yc 0)), (yc 70, yc 1, (0, (1, 1, 0), yc 0)), (yc 70, yc 9, (0, (1, 2, 0), yc 0))], [], [(0, yc 0, yc 0)]), (4, [(0, 0, 4000), (1, 1, 400), (2, 0, 400), (3, 1, 50)], [], [(yc 70, yc 9, (0, (1, 0, 0), yc 0)), (yc 70, yc 8, (0, (1, 1, 0), yc 0)), (yc 70, yc 1, (0, (1, 2, 0), yc 0)), (yc 70, yc 10, (0, (1, 3, 0), yc 0))], [], [(0, yc 1, yc 0)])], [(70, 70, 8), (70, 70, 9), (70, 70, 10), (76, 76, 127)])
def yx826 : yCx := ([ys805], ys826.2.2.2.2, yFP, zm186.2.2.1, zm186.2.2.2.1, zc186, 0, ys826.2.2.2.1, [], [])
theorem yw826 : ywf ys826.2.2.1 = true := by decide +kernel
theorem yk826 : yver yx826 ys826.2.2.1 4000 = true := by decide +kernel
theorem yt826 {E : zHp → Prop} (h : yXt E) : yTs E ys826 := yver_s (x := yx826) h.1 (yal_c (yt805 h) yw805 (yal_n)) yg186 yk826
def ys827 : ySp := (192, 3, (1, [(0, 0, 399)], [], [], [(0, (2, yc 70, yc 0)), (1, (0, (1, 0, 0), yc 0))], []), [(2, [(1, 1, 2147483647)], [], [(yc 70, yc 9, (0, (1, 1, 0), yc 0))], [], [(0, yc 0, yc 0)]), (5, [(1, 0, 4000), (2, 1, 400), (3, 0, 400), (4, 1, 50)], [], [(yc 70, yc 9, (0, (1, 1, 0), yc 0)), (yc 70, yc 8, (0, (1, 2, 0), yc 0)), (yc 70, yc 1, (0, (1, 3, 0), yc 0)), (yc 70, yc 10, (0, (1, 4, 0), yc 0))], [], [(0, yc 1, yc 0)])], [(70, 70, 8), (70, 70, 9), (70, 70, 10), (76, 76, 3), (76, 76, 124), (76, 76, 125), (76, 76, 126), (76, 76, 127), (76, 76, 128), (76, 76, 129), (76, 76, 130), (76, 76, 131), (76, 76, 132), (76, 76, 133), (76, 76, 134), (76, 76, 135), (76, 76, 136), (76, 76, 137), (76, 76, 138), (76, 76, 139), (76, 76, 140), (76, 76, 141), (76, 76, 142), (76, 76, 143), (76, 76, 144), (76, 76, 145), (76, 76, 146), (76, 76, 147)])
def yx827 : yCx := ([ys764, ys765, ys802, ys803, ys806, ys808, ys809, ys810, ys812, ys813, ys814, ys816, ys817, ys818, ys820, ys821, ys822, ys824, ys825, ys826, ys801, ys807, ys811, ys815, ys819, ys823], ys827.2.2.2.2, yFP, zm192.2.2.1, zm192.2.2.2.1, zc192, 1, ys827.2.2.2.1, [], [(0, 1, 76, 3)])
theorem yw827 : ywf ys827.2.2.1 = true := by decide +kernel
theorem yk827 : yver yx827 ys827.2.2.1 4000 = true := by decide +kernel
theorem yt827 {E : zHp → Prop} (h : yXt E) : yTs E ys827 := yver_s (x := yx827) h.1 (yal_c (yt764 h) yw764 (yal_c (yt765 h) yw765 (yal_c (yt802 h) yw802 (yal_c (yt803 h) yw803 (yal_c (yt806 h) yw806 (yal_c (yt808 h) yw808 (yal_c (yt809 h) yw809 (yal_c (yt810 h) yw810 (yal_c (yt812 h) yw812 (yal_c (yt813 h) yw813 (yal_c (yt814 h) yw814 (yal_c (yt816 h) yw816 (yal_c (yt817 h) yw817 (yal_c (yt818 h) yw818 (yal_c (yt820 h) yw820 (yal_c (yt821 h) yw821 (yal_c (yt822 h) yw822 (yal_c (yt824 h) yw824 (yal_c (yt825 h) yw825 (yal_c (yt826 h) yw826 (yal_c (yt801 h) yw801 (yal_c (yt807 h) yw807 (yal_c (yt811 h) yw811 (yal_c (yt815 h) yw815 (yal_c (yt819 h) yw819 (yal_c (yt823 h) yw823 (yal_n))))))))))))))))))))))))))) yg192 yk827
def ys828 : ySp := (186, 4, (1, [(0, 82, 117)], [], [], [(0, (2, yc 70, yc 0)), (1, (0, (1, 0, 0), yc 0)), (2, (0, yc 0, yc 0)), (3, (0, yc 9, yc 0))], []), [(4, [(1, 0, 400), (2, 0, 400), (3, 1, 2147483647)], [], [(yc 70, yc 8, (0, (1, 1, 0), yc 0)), (yc 70, yc 1, (0, (1, 2, 0), yc 0)), (yc 70, yc 9, (0, (1, 3, 0), yc 0))], [], [(0, yc 0, yc 0)]), (5, [(1, 0, 4000), (2, 0, 400), (3, 0, 400), (4, 0, 9)], [], [(yc 70, yc 9, (0, (1, 1, 0), yc 0)), (yc 70, yc 8, (0, (1, 2, 0), yc 0)), (yc 70, yc 1, (0, (1, 3, 0), yc 0)), (yc 70, yc 10, (0, (1, 4, 0), yc 0))], [], [(0, yc 1, yc 0)])], [(70, 70, 8), (70, 70, 9), (70, 70, 10), (76, 76, 1000)])
def yx828 : yCx := ([ys781], ys828.2.2.2.2, yFP, zm186.2.2.1, zm186.2.2.2.1, zc186, 1, ys828.2.2.2.1, [], [])
theorem yw828 : ywf ys828.2.2.1 = true := by decide +kernel
theorem yk828 : yver yx828 ys828.2.2.1 4000 = true := by decide +kernel
theorem yt828 {E : zHp → Prop} (h : yXt E) : yTs E ys828 := yver_s (x := yx828) h.1 (yal_c (yt781 h) yw781 (yal_n)) yg186 yk828
def ys829 : ySp := (191, 1, (0, [], [], [], [(0, (2, yc 70, yc 0))], []), [(5, [(0, 0, 5), (1, 0, 5), (2, 0, 400), (3, 0, 400), (4, 1, 2147483647)], [], [(yc 70, yc 17, (0, (1, 0, 0), yc 0)), (yc 70, yc 18, (0, (1, 1, 0), yc 0)), (yc 70, yc 8, (0, (1, 2, 0), yc 0)), (yc 70, yc 1, (0, (1, 3, 0), yc 0)), (yc 70, yc 9, (0, (1, 4, 0), yc 0))], [], [(0, yc 0, yc 0)]), (6, [(0, 0, 5), (1, 0, 5), (2, 0, 4000), (3, 0, 400), (4, 0, 400), (5, 0, 9)], [], [(yc 70, yc 17, (0, (1, 0, 0), yc 0)), (yc 70, yc 18, (0, (1, 1, 0), yc 0)), (yc 70, yc 9, (0, (1, 2, 0), yc 0)), (yc 70, yc 8, (0, (1, 3, 0), yc 0)), (yc 70, yc 1, (0, (1, 4, 0), yc 0)), (yc 70, yc 10, (0, (1, 5, 0), yc 0))], [], [(0, yc 1, yc 0)])], [(70, 70, 8), (70, 70, 9), (70, 70, 10), (70, 70, 17), (70, 70, 18), (76, 76, 1000)])
def yx829 : yCx := ([ys828, ys799], ys829.2.2.2.2, yFP, zm191.2.2.1, zm191.2.2.2.1, zc191, 0, ys829.2.2.2.1, [], [])
theorem yw829 : ywf ys829.2.2.1 = true := by decide +kernel
theorem yk829 : yver yx829 ys829.2.2.1 4000 = true := by decide +kernel
theorem yt829 {E : zHp → Prop} (h : yXt E) : yTs E ys829 := yver_s (x := yx829) h.1 (yal_c (yt828 h) yw828 (yal_c (yt799 h) yw799 (yal_n))) yg191 yk829
def ys830 : ySp := (193, 2, (1, [(0, 0, 399)], [], [], [(0, (2, yc 70, yc 0)), (1, (0, (1, 0, 0), yc 0))], []), [(3, [(1, 0, 400), (2, 1, 2147483647)], [], [(yc 70, yc 1, (0, (1, 1, 0), yc 0)), (yc 70, yc 9, (0, (1, 2, 0), yc 0))], [], [(0, yc 0, yc 0)]), (5, [(1, 0, 4000), (2, 0, 400), (3, 0, 400), (4, 0, 50)], [], [(yc 70, yc 9, (0, (1, 1, 0), yc 0)), (yc 70, yc 8, (0, (1, 2, 0), yc 0)), (yc 70, yc 1, (0, (1, 3, 0), yc 0)), (yc 70, yc 10, (0, (1, 4, 0), yc 0))], [], [(0, yc 1, yc 0)])], [(70, 70, 8), (70, 70, 9), (70, 70, 10), (70, 70, 17), (70, 70, 18), (76, 76, 1000)])
def yx830 : yCx := ([ys764, ys762, ys774, ys798, ys800, ys829, ys827], ys830.2.2.2.2, yFP, zm193.2.2.1, zm193.2.2.2.1, zc193, 1, ys830.2.2.2.1, [], [])
theorem yw830 : ywf ys830.2.2.1 = true := by decide +kernel
theorem yk830 : yver yx830 ys830.2.2.1 4000 = true := by decide +kernel
theorem yt830 {E : zHp → Prop} (h : yXt E) : yTs E ys830 := yver_s (x := yx830) h.1 (yal_c (yt764 h) yw764 (yal_c (yt762 h) yw762 (yal_c (yt774 h) yw774 (yal_c (yt798 h) yw798 (yal_c (yt800 h) yw800 (yal_c (yt829 h) yw829 (yal_c (yt827 h) yw827 (yal_n)))))))) yg193 yk830
def ys831 : ySp := (163, 3, (3, [(0, 0, 4), (1, 0, 400), (2, 0, 2147483647)], [], [(yc 70, yc 9, (0, (1, 2, 0), yc 0))], [(0, (2, yc 70, yc 0)), (1, (0, (1, 0, 0), yc 0)), (2, (0, (1, 1, 0), yc 0))], []), [(4, [(3, 1, 2147483647)], [], [(yc 70, yc 9, (0, (1, 3, 0), yc 0))], [], [(0, yc 0, yc 0)])], [(70, 70, 9)])
def yx831 : yCx := ([], ys831.2.2.2.2, yFP, zm163.2.2.1, zm163.2.2.2.1, zc163, 3, ys831.2.2.2.1, [], [])
theorem yw831 : ywf ys831.2.2.1 = true := by decide +kernel
theorem yk831 : yver yx831 ys831.2.2.1 4000 = true := by decide +kernel
theorem yt831 {E : zHp → Prop} (h : yXt E) : yTs E ys831 := yver_s (x := yx831) h.1 (yal_n) yg163 yk831
def ys832 : ySp := (187, 3, (1, [(0, 0, 400)], [], [], [(0, (2, yc 70, yc 0)), (1, (0, (1, 0, 0), yc 0))], []), [(2, [(1, 1, 2147483647)], [], [(yc 70, yc 9, (0, (1, 1, 0), yc 0))], [], [(0, yc 0, yc 0)]), (5, [(1, 0, 4000), (2, 1, 400), (3, 0, 400), (4, 1, 20)], [], [(yc 70, yc 9, (0, (1, 1, 0), yc 0)), (yc 70, yc 8, (0, (1, 2, 0), yc 0)), (yc 70, yc 1, (0, (1, 3, 0), yc 0)), (yc 70, yc 10, (0, (1, 4, 0), yc 0))], [], [(0, yc 1, yc 0)])], [(70, 70, 8), (70, 70, 9), (70, 70, 10), (76, 76, 0), (76, 76, 1)])
def yx832 : yCx := ([ys831, ys765, ys770, ys773], ys832.2.2.2.2, yFP, zm187.2.2.1, zm187.2.2.2.1, zc187, 1, ys832.2.2.2.1, [], [])
theorem yw832 : ywf ys832.2.2.1 = true := by decide +kernel
theorem yk832 : yver yx832 ys832.2.2.1 4000 = true := by decide +kernel
theorem yt832 {E : zHp → Prop} (h : yXt E) : yTs E ys832 := yver_s (x := yx832) h.1 (yal_c (yt831 h) yw831 (yal_c (yt765 h) yw765 (yal_c (yt770 h) yw770 (yal_c (yt773 h) yw773 (yal_n))))) yg187 yk832
def ys833 : ySp := (188, 3, (1, [(0, 0, 400)], [], [], [(0, (2, yc 70, yc 0)), (1, (0, (1, 0, 0), yc 0))], []), [(2, [(1, 1, 2147483647)], [], [(yc 70, yc 9, (0, (1, 1, 0), yc 0))], [], [(0, yc 0, yc 0)]), (5, [(1, 0, 4000), (2, 0, 400), (3, 0, 400), (4, 0, 9)], [], [(yc 70, yc 9, (0, (1, 1, 0), yc 0)), (yc 70, yc 8, (0, (1, 2, 0), yc 0)), (yc 70, yc 1, (0, (1, 3, 0), yc 0)), (yc 70, yc 10, (0, (1, 4, 0), yc 0))], [], [(0, yc 1, yc 0)])], [(70, 70, 8), (70, 70, 9), (70, 70, 10), (76, 76, 2), (76, 76, 10), (76, 76, 11), (76, 76, 12), (76, 76, 13), (76, 76, 14), (76, 76, 15), (76, 76, 16), (76, 76, 17), (76, 76, 18), (76, 76, 19), (76, 76, 20), (76, 76, 21), (76, 76, 22), (76, 76, 23), (76, 76, 24), (76, 76, 25), (76, 76, 26), (76, 76, 27), (76, 76, 28), (76, 76, 29), (76, 76, 30), (76, 76, 31), (76, 76, 32), (76, 76, 33), (76, 76, 34), (76, 76, 35), (76, 76, 36), (76, 76, 37), (76, 76, 38), (76, 76, 39), (76, 76, 40), (76, 76, 41), (76, 76, 42), (76, 76, 43), (76, 76, 44), (76, 76, 45)])
def yx833 : yCx := ([ys831, ys765, ys779, ys782, ys784, ys785, ys787, ys788, ys790, ys791, ys793, ys794, ys796, ys797, ys777, ys783, ys786, ys789, ys792, ys795], ys833.2.2.2.2, yFP, zm188.2.2.1, zm188.2.2.2.1, zc188, 1, ys833.2.2.2.1, [], [(0, 1, 76, 2)])
theorem yw833 : ywf ys833.2.2.1 = true := by decide +kernel
theorem yk833 : yver yx833 ys833.2.2.1 4000 = true := by decide +kernel
theorem yt833 {E : zHp → Prop} (h : yXt E) : yTs E ys833 := yver_s (x := yx833) h.1 (yal_c (yt831 h) yw831 (yal_c (yt765 h) yw765 (yal_c (yt779 h) yw779 (yal_c (yt782 h) yw782 (yal_c (yt784 h) yw784 (yal_c (yt785 h) yw785 (yal_c (yt787 h) yw787 (yal_c (yt788 h) yw788 (yal_c (yt790 h) yw790 (yal_c (yt791 h) yw791 (yal_c (yt793 h) yw793 (yal_c (yt794 h) yw794 (yal_c (yt796 h) yw796 (yal_c (yt797 h) yw797 (yal_c (yt777 h) yw777 (yal_c (yt783 h) yw783 (yal_c (yt786 h) yw786 (yal_c (yt789 h) yw789 (yal_c (yt792 h) yw792 (yal_c (yt795 h) yw795 (yal_n))))))))))))))))))))) yg188 yk833
def ys834 : ySp := (192, 3, (1, [(0, 0, 400)], [], [], [(0, (2, yc 70, yc 0)), (1, (0, (1, 0, 0), yc 0))], []), [(2, [(1, 1, 2147483647)], [], [(yc 70, yc 9, (0, (1, 1, 0), yc 0))], [], [(0, yc 0, yc 0)]), (5, [(1, 0, 4000), (2, 1, 400), (3, 0, 400), (4, 1, 50)], [], [(yc 70, yc 9, (0, (1, 1, 0), yc 0)), (yc 70, yc 8, (0, (1, 2, 0), yc 0)), (yc 70, yc 1, (0, (1, 3, 0), yc 0)), (yc 70, yc 10, (0, (1, 4, 0), yc 0))], [], [(0, yc 1, yc 0)])], [(70, 70, 8), (70, 70, 9), (70, 70, 10), (76, 76, 3), (76, 76, 124), (76, 76, 125), (76, 76, 126), (76, 76, 127), (76, 76, 128), (76, 76, 129), (76, 76, 130), (76, 76, 131), (76, 76, 132), (76, 76, 133), (76, 76, 134), (76, 76, 135), (76, 76, 136), (76, 76, 137), (76, 76, 138), (76, 76, 139), (76, 76, 140), (76, 76, 141), (76, 76, 142), (76, 76, 143), (76, 76, 144), (76, 76, 145), (76, 76, 146), (76, 76, 147)])
def yx834 : yCx := ([ys831, ys765, ys802, ys803, ys806, ys808, ys809, ys810, ys812, ys813, ys814, ys816, ys817, ys818, ys820, ys821, ys822, ys824, ys825, ys826, ys801, ys807, ys811, ys815, ys819, ys823], ys834.2.2.2.2, yFP, zm192.2.2.1, zm192.2.2.2.1, zc192, 1, ys834.2.2.2.1, [], [(0, 1, 76, 3)])
theorem yw834 : ywf ys834.2.2.1 = true := by decide +kernel
theorem yk834 : yver yx834 ys834.2.2.1 4000 = true := by decide +kernel
theorem yt834 {E : zHp → Prop} (h : yXt E) : yTs E ys834 := yver_s (x := yx834) h.1 (yal_c (yt831 h) yw831 (yal_c (yt765 h) yw765 (yal_c (yt802 h) yw802 (yal_c (yt803 h) yw803 (yal_c (yt806 h) yw806 (yal_c (yt808 h) yw808 (yal_c (yt809 h) yw809 (yal_c (yt810 h) yw810 (yal_c (yt812 h) yw812 (yal_c (yt813 h) yw813 (yal_c (yt814 h) yw814 (yal_c (yt816 h) yw816 (yal_c (yt817 h) yw817 (yal_c (yt818 h) yw818 (yal_c (yt820 h) yw820 (yal_c (yt821 h) yw821 (yal_c (yt822 h) yw822 (yal_c (yt824 h) yw824 (yal_c (yt825 h) yw825 (yal_c (yt826 h) yw826 (yal_c (yt801 h) yw801 (yal_c (yt807 h) yw807 (yal_c (yt811 h) yw811 (yal_c (yt815 h) yw815 (yal_c (yt819 h) yw819 (yal_c (yt823 h) yw823 (yal_n))))))))))))))))))))))))))) yg192 yk834
def ys835 : ySp := (193, 2, (1, [(0, 0, 400)], [], [], [(0, (2, yc 70, yc 0)), (1, (0, (1, 0, 0), yc 0))], []), [(3, [(1, 0, 400), (2, 1, 2147483647)], [], [(yc 70, yc 1, (0, (1, 1, 0), yc 0)), (yc 70, yc 9, (0, (1, 2, 0), yc 0))], [], [(0, yc 0, yc 0)]), (5, [(1, 0, 4000), (2, 0, 400), (3, 0, 400), (4, 0, 50)], [], [(yc 70, yc 9, (0, (1, 1, 0), yc 0)), (yc 70, yc 8, (0, (1, 2, 0), yc 0)), (yc 70, yc 1, (0, (1, 3, 0), yc 0)), (yc 70, yc 10, (0, (1, 4, 0), yc 0))], [], [(0, yc 1, yc 0)])], [(70, 70, 8), (70, 70, 9), (70, 70, 10), (70, 70, 17), (70, 70, 18), (76, 76, 1000)])
def yx835 : yCx := ([ys831, ys762, ys832, ys833, ys800, ys829, ys834], ys835.2.2.2.2, yFP, zm193.2.2.1, zm193.2.2.2.1, zc193, 1, ys835.2.2.2.1, [], [])
theorem yw835 : ywf ys835.2.2.1 = true := by decide +kernel
theorem yk835 : yver yx835 ys835.2.2.1 4000 = true := by decide +kernel
theorem yt835 {E : zHp → Prop} (h : yXt E) : yTs E ys835 := yver_s (x := yx835) h.1 (yal_c (yt831 h) yw831 (yal_c (yt762 h) yw762 (yal_c (yt832 h) yw832 (yal_c (yt833 h) yw833 (yal_c (yt800 h) yw800 (yal_c (yt829 h) yw829 (yal_c (yt834 h) yw834 (yal_n)))))))) yg193 yk835
def ys836 : ySp := (195, 3, (0, [], [], [(yc 70, yc 11, (0, yc 6, yc 0)), (yc 70, yc 14, (0, yc 0, yc 0))], [(0, (2, yc 70, yc 0))], []), [(3, [(0, 0, 1), (1, 0, 400), (2, 1, 2147483647)], [], [(yc 70, yc 11, (0, yc 6, yc 0)), (yc 70, yc 14, (0, (1, 0, 0), yc 0)), (yc 70, yc 1, (0, (1, 1, 0), yc 0)), (yc 70, yc 9, (0, (1, 2, 0), yc 0))], [], [(0, yc 0, yc 0)]), (4, [(0, 0, 4000), (1, 0, 400), (2, 0, 400), (3, 0, 50)], [], [(yc 70, yc 11, (0, yc 6, yc 0)), (yc 70, yc 14, (0, yc 1, yc 0)), (yc 70, yc 9, (0, (1, 0, 0), yc 0)), (yc 70, yc 8, (0, (1, 1, 0), yc 0)), (yc 70, yc 1, (0, (1, 2, 0), yc 0)), (yc 70, yc 10, (0, (1, 3, 0), yc 0))], [], [(0, yc 1, yc 0)])], [(70, 70, 8), (70, 70, 9), (70, 70, 10), (70, 70, 14), (70, 70, 17), (70, 70, 18), (76, 76, 1000)])
def yx836 : yCx := ([ys768, ys764, ys759, ys830, ys835, ys763], ys836.2.2.2.2, yFP, zm195.2.2.1, zm195.2.2.2.1, zc195, 0, ys836.2.2.2.1, [], [])
theorem yw836 : ywf ys836.2.2.1 = true := by decide +kernel
theorem yk836 : yver yx836 ys836.2.2.1 4000 = true := by decide +kernel
theorem yt836 {E : zHp → Prop} (h : yXt E) : yTs E ys836 := yver_s (x := yx836) h.1 (yal_c (yt768 h) yw768 (yal_c (yt764 h) yw764 (yal_c (yt759 h) yw759 (yal_c (yt830 h) yw830 (yal_c (yt835 h) yw835 (yal_c (yt763 h) yw763 (yal_n))))))) yg195 yk836
def ys837 : ySp := (195, 3, (1, [(0, 0, 40)], [], [(yc 70, yc 11, (0, yc 6, yc 0)), (yc 70, yc 14, (0, (1, 0, 0), yc 0))], [(0, (2, yc 70, yc 0))], []), [(5, [(1, 0, 40), (2, 0, 400), (3, 0, 400), (4, 1, 2147483647)], [], [(yc 70, yc 11, (0, yc 6, yc 0)), (yc 70, yc 14, (0, (1, 1, 0), yc 0)), (yc 70, yc 8, (0, (1, 2, 0), yc 0)), (yc 70, yc 1, (0, (1, 3, 0), yc 0)), (yc 70, yc 9, (0, (1, 4, 0), yc 0))], [], [(0, yc 0, yc 0)]), (5, [(0, 0, 39), (1, 0, 4000), (2, 0, 400), (3, 0, 400), (4, 0, 50)], [], [(yc 70, yc 11, (0, yc 6, yc 0)), (yc 70, yc 14, (0, (1, 0, 1), yc 0)), (yc 70, yc 9, (0, (1, 1, 0), yc 0)), (yc 70, yc 8, (0, (1, 2, 0), yc 0)), (yc 70, yc 1, (0, (1, 3, 0), yc 0)), (yc 70, yc 10, (0, (1, 4, 0), yc 0))], [], [(0, yc 1, yc 0)])], [(70, 70, 8), (70, 70, 9), (70, 70, 10), (70, 70, 14), (70, 70, 17), (70, 70, 18), (76, 76, 1000)])
def yx837 : yCx := ([ys768, ys764, ys831, ys759, ys830, ys835, ys763], ys837.2.2.2.2, yFP, zm195.2.2.1, zm195.2.2.2.1, zc195, 1, ys837.2.2.2.1, [], [])
theorem yw837 : ywf ys837.2.2.1 = true := by decide +kernel
theorem yk837 : yver yx837 ys837.2.2.1 4000 = true := by decide +kernel
theorem yt837 {E : zHp → Prop} (h : yXt E) : yTs E ys837 := yver_s (x := yx837) h.1 (yal_c (yt768 h) yw768 (yal_c (yt764 h) yw764 (yal_c (yt831 h) yw831 (yal_c (yt759 h) yw759 (yal_c (yt830 h) yw830 (yal_c (yt835 h) yw835 (yal_c (yt763 h) yw763 (yal_n)))))))) yg195 yk837
def ys839 : ySp := (53, 1, (1, [(0, 0, 2147483647)], [], [(yc 2, yc 0, (2, yc 1, yc 0)), (yc 2, yc 4, (0, (1, 0, 0), yc 0))], [(0, (2, yc 2, yc 0))], []), [(3, [(1, 0, 400), (2, 0, 400)], [([(1, 1), ((-1), 2)], 0)], [(yc 2, yc 0, (2, yc 1, yc 0)), (yc 2, yc 4, (0, (1, 0, 0), yc 0)), (yc 2, yc 2, (0, (1, 1, 0), yc 0)), (yc 2, yc 1, (0, (1, 2, 0), yc 0))], [], [(0, yc (-1), yc 0)]), (4, [(1, 0, 255), (2, 0, 399), (3, 1, 400)], [([(1, 3), ((-1), 2)], (-1))], [(yc 2, yc 0, (2, yc 1, yc 0)), (yc 2, yc 4, (0, (1, 0, 0), yc 0)), (yc 2, yc 2, (0, (1, 2, 0), yc 0)), (yc 2, yc 1, (0, (1, 3, 0), yc 0))], [], [(0, (1, 1, 0), yc 0)])], [(2, 2, 2)])
def yx839 : yCx := ([], ys839.2.2.2.2, yFP, zm53.2.2.1, zm53.2.2.2.1, zc53, 1, ys839.2.2.2.1, [(0, (2, [(0, 0, 2147483647), (1, 0, 400)], [], [(yc 2, yc 0, (2, yc 1, yc 0)), (yc 2, yc 4, (0, (1, 0, 0), yc 0)), (yc 2, yc 2, (0, (1, 1, 0), yc 0))], [(0, (2, yc 2, yc 0))], []), ([((-1), 1)], 400))], [])
theorem yw839 : ywf ys839.2.2.1 = true := by decide +kernel
theorem yk839 : yver yx839 ys839.2.2.1 4000 = true := by decide +kernel
theorem yt839 {E : zHp → Prop} (h : yXt E) : yTs E ys839 := yver_s (x := yx839) h.1 (yal_n) yg53 yk839
def ys840 : ySp := (283, 1, (0, [], [], [], [(0, (2, yc 1002, yc 0))], []), [(0, [], [], [], [], [(0, yc 0, yc 0)])], [])
def yx840 : yCx := ([], ys840.2.2.2.2, yFP, zm283.2.2.1, zm283.2.2.2.1, zc283, 0, ys840.2.2.2.1, [], [])
theorem yw840 : ywf ys840.2.2.1 = true := by decide +kernel
theorem yk840 : yver yx840 ys840.2.2.1 4000 = true := by decide +kernel
theorem yt840 {E : zHp → Prop} (h : yXt E) : yTs E ys840 := yver_s (x := yx840) h.1 (yal_n) yg283 yk840
def ys841 : ySp := (281, 1, (0, [], [], [], [(0, (2, yc 1002, yc 0))], []), [(0, [], [], [], [], [(0, yc 5, yc 0)])], [])
def yx841 : yCx := ([ys840], ys841.2.2.2.2, yFP, zm281.2.2.1, zm281.2.2.2.1, zc281, 0, ys841.2.2.2.1, [], [])
theorem yw841 : ywf ys841.2.2.1 = true := by decide +kernel
theorem yk841 : yver yx841 ys841.2.2.1 4000 = true := by decide +kernel
theorem yt841 {E : zHp → Prop} (h : yXt E) : yTs E ys841 := yver_s (x := yx841) h.1 (yal_c (yt840 h) yw840 (yal_n)) yg281 yk841
def ys842 : ySp := (284, 1, (0, [], [], [], [(0, (2, yc 1002, yc 0))], []), [(0, [], [], [], [], [(0, yc 1, yc 0)])], [])
def yx842 : yCx := ([], ys842.2.2.2.2, yFP, zm284.2.2.1, zm284.2.2.2.1, zc284, 0, ys842.2.2.2.1, [], [])
theorem yw842 : ywf ys842.2.2.1 = true := by decide +kernel
theorem yk842 : yver yx842 ys842.2.2.1 4000 = true := by decide +kernel
theorem yt842 {E : zHp → Prop} (h : yXt E) : yTs E ys842 := yver_s (x := yx842) h.1 (yal_n) yg284 yk842
def ys843 : ySp := (293, 3, (0, [], [], [], [(0, (0, yc 0, yc 0)), (1, (0, yc 5, yc 0)), (2, (7, yc 0, yc 0))], []), [(0, [], [], [], [], [(0, yc 0, yc 0)])], [])
def yx843 : yCx := ([], ys843.2.2.2.2, yFP, zm293.2.2.1, zm293.2.2.2.1, zc293, 0, ys843.2.2.2.1, [], [])
theorem yw843 : ywf ys843.2.2.1 = true := by decide +kernel
theorem yk843 : yver yx843 ys843.2.2.1 4000 = true := by decide +kernel
theorem yt843 {E : zHp → Prop} (h : yXt E) : yTs E ys843 := yver_s (x := yx843) h.1 (yal_n) yg293 yk843
def ys844 : ySp := (285, 2, (0, [], [], [], [(0, (0, yc 0, yc 0)), (1, (0, yc 5, yc 0))], []), [(0, [], [], [], [], [])], [])
def yx844 : yCx := ([ys843], ys844.2.2.2.2, yFP, zm285.2.2.1, zm285.2.2.2.1, zc285, 0, ys844.2.2.2.1, [], [])
theorem yw844 : ywf ys844.2.2.1 = true := by decide +kernel
theorem yk844 : yver yx844 ys844.2.2.1 4000 = true := by decide +kernel
theorem yt844 {E : zHp → Prop} (h : yXt E) : yTs E ys844 := yver_s (x := yx844) h.1 (yal_c (yt843 h) yw843 (yal_n)) yg285 yk844
def ys845 : ySp := (286, 2, (0, [], [], [], [(0, (2, yc 1021, yc 0)), (1, (0, yc 0, yc 0))], []), [(0, [], [], [], [], [(0, yc 108, yc 0)])], [])
def yx845 : yCx := ([ys844], ys845.2.2.2.2, yFP, zm286.2.2.1, zm286.2.2.2.1, zc286, 0, ys845.2.2.2.1, [], [])
theorem yw845 : ywf ys845.2.2.1 = true := by decide +kernel
theorem yk845 : yver yx845 ys845.2.2.1 4000 = true := by decide +kernel
theorem yt845 {E : zHp → Prop} (h : yXt E) : yTs E ys845 := yver_s (x := yx845) h.1 (yal_c (yt844 h) yw844 (yal_n)) yg286 yk845
def ys846 : ySp := (282, 2, (0, [], [], [], [(0, (2, yc 1002, yc 0)), (1, (0, yc 0, yc 0))], []), [(0, [], [], [], [], [(0, yc 108, yc 0)])], [])
def yx846 : yCx := ([ys842, ys845], ys846.2.2.2.2, yFP, zm282.2.2.1, zm282.2.2.2.1, zc282, 0, ys846.2.2.2.1, [], [])
theorem yw846 : ywf ys846.2.2.1 = true := by decide +kernel
theorem yk846 : yver yx846 ys846.2.2.1 4000 = true := by decide +kernel
theorem yt846 {E : zHp → Prop} (h : yXt E) : yTs E ys846 := yver_s (x := yx846) h.1 (yal_c (yt842 h) yw842 (yal_c (yt845 h) yw845 (yal_n))) yg282 yk846
def ys847 : ySp := (293, 3, (0, [], [], [], [(0, (0, yc 1, yc 0)), (1, (0, yc 5, yc 0)), (2, (7, yc 0, yc 0))], []), [(0, [], [], [], [], [(0, yc 1, yc 0)])], [])
def yx847 : yCx := ([], ys847.2.2.2.2, yFP, zm293.2.2.1, zm293.2.2.2.1, zc293, 0, ys847.2.2.2.1, [], [])
theorem yw847 : ywf ys847.2.2.1 = true := by decide +kernel
theorem yk847 : yver yx847 ys847.2.2.1 4000 = true := by decide +kernel
theorem yt847 {E : zHp → Prop} (h : yXt E) : yTs E ys847 := yver_s (x := yx847) h.1 (yal_n) yg293 yk847
def ys848 : ySp := (285, 2, (0, [], [], [], [(0, (0, yc 1, yc 0)), (1, (0, yc 5, yc 0))], []), [(0, [], [], [], [], [])], [])
def yx848 : yCx := ([ys847], ys848.2.2.2.2, yFP, zm285.2.2.1, zm285.2.2.2.1, zc285, 0, ys848.2.2.2.1, [], [])
theorem yw848 : ywf ys848.2.2.1 = true := by decide +kernel
theorem yk848 : yver yx848 ys848.2.2.1 4000 = true := by decide +kernel
theorem yt848 {E : zHp → Prop} (h : yXt E) : yTs E ys848 := yver_s (x := yx848) h.1 (yal_c (yt847 h) yw847 (yal_n)) yg285 yk848
def ys849 : ySp := (286, 2, (0, [], [], [], [(0, (2, yc 1021, yc 0)), (1, (0, yc 1, yc 0))], []), [(0, [], [], [], [], [(0, yc 101, yc 0)])], [])
def yx849 : yCx := ([ys848], ys849.2.2.2.2, yFP, zm286.2.2.1, zm286.2.2.2.1, zc286, 0, ys849.2.2.2.1, [], [])
theorem yw849 : ywf ys849.2.2.1 = true := by decide +kernel
theorem yk849 : yver yx849 ys849.2.2.1 4000 = true := by decide +kernel
theorem yt849 {E : zHp → Prop} (h : yXt E) : yTs E ys849 := yver_s (x := yx849) h.1 (yal_c (yt848 h) yw848 (yal_n)) yg286 yk849
def ys850 : ySp := (282, 2, (0, [], [], [], [(0, (2, yc 1002, yc 0)), (1, (0, yc 1, yc 0))], []), [(0, [], [], [], [], [(0, yc 101, yc 0)])], [])
def yx850 : yCx := ([ys842, ys849], ys850.2.2.2.2, yFP, zm282.2.2.1, zm282.2.2.2.1, zc282, 0, ys850.2.2.2.1, [], [])
theorem yw850 : ywf ys850.2.2.1 = true := by decide +kernel
theorem yk850 : yver yx850 ys850.2.2.1 4000 = true := by decide +kernel
theorem yt850 {E : zHp → Prop} (h : yXt E) : yTs E ys850 := yver_s (x := yx850) h.1 (yal_c (yt842 h) yw842 (yal_c (yt849 h) yw849 (yal_n))) yg282 yk850
def ys851 : ySp := (293, 3, (0, [], [], [], [(0, (0, yc 2, yc 0)), (1, (0, yc 5, yc 0)), (2, (7, yc 0, yc 0))], []), [(0, [], [], [], [], [(0, yc 2, yc 0)])], [])
def yx851 : yCx := ([], ys851.2.2.2.2, yFP, zm293.2.2.1, zm293.2.2.2.1, zc293, 0, ys851.2.2.2.1, [], [])
theorem yw851 : ywf ys851.2.2.1 = true := by decide +kernel
theorem yk851 : yver yx851 ys851.2.2.1 4000 = true := by decide +kernel
theorem yt851 {E : zHp → Prop} (h : yXt E) : yTs E ys851 := yver_s (x := yx851) h.1 (yal_n) yg293 yk851
def ys852 : ySp := (285, 2, (0, [], [], [], [(0, (0, yc 2, yc 0)), (1, (0, yc 5, yc 0))], []), [(0, [], [], [], [], [])], [])
def yx852 : yCx := ([ys851], ys852.2.2.2.2, yFP, zm285.2.2.1, zm285.2.2.2.1, zc285, 0, ys852.2.2.2.1, [], [])
theorem yw852 : ywf ys852.2.2.1 = true := by decide +kernel
theorem yk852 : yver yx852 ys852.2.2.1 4000 = true := by decide +kernel
theorem yt852 {E : zHp → Prop} (h : yXt E) : yTs E ys852 := yver_s (x := yx852) h.1 (yal_c (yt851 h) yw851 (yal_n)) yg285 yk852
def ys853 : ySp := (286, 2, (0, [], [], [], [(0, (2, yc 1021, yc 0)), (1, (0, yc 2, yc 0))], []), [(0, [], [], [], [], [(0, yc 110, yc 0)])], [])
def yx853 : yCx := ([ys852], ys853.2.2.2.2, yFP, zm286.2.2.1, zm286.2.2.2.1, zc286, 0, ys853.2.2.2.1, [], [])
theorem yw853 : ywf ys853.2.2.1 = true := by decide +kernel
theorem yk853 : yver yx853 ys853.2.2.1 4000 = true := by decide +kernel
theorem yt853 {E : zHp → Prop} (h : yXt E) : yTs E ys853 := yver_s (x := yx853) h.1 (yal_c (yt852 h) yw852 (yal_n)) yg286 yk853
def ys854 : ySp := (282, 2, (0, [], [], [], [(0, (2, yc 1002, yc 0)), (1, (0, yc 2, yc 0))], []), [(0, [], [], [], [], [(0, yc 110, yc 0)])], [])
def yx854 : yCx := ([ys842, ys853], ys854.2.2.2.2, yFP, zm282.2.2.1, zm282.2.2.2.1, zc282, 0, ys854.2.2.2.1, [], [])
theorem yw854 : ywf ys854.2.2.1 = true := by decide +kernel
theorem yk854 : yver yx854 ys854.2.2.1 4000 = true := by decide +kernel
theorem yt854 {E : zHp → Prop} (h : yXt E) : yTs E ys854 := yver_s (x := yx854) h.1 (yal_c (yt842 h) yw842 (yal_c (yt853 h) yw853 (yal_n))) yg282 yk854
def ys855 : ySp := (293, 3, (0, [], [], [], [(0, (0, yc 3, yc 0)), (1, (0, yc 5, yc 0)), (2, (7, yc 0, yc 0))], []), [(0, [], [], [], [], [(0, yc 3, yc 0)])], [])
def yx855 : yCx := ([], ys855.2.2.2.2, yFP, zm293.2.2.1, zm293.2.2.2.1, zc293, 0, ys855.2.2.2.1, [], [])
theorem yw855 : ywf ys855.2.2.1 = true := by decide +kernel
theorem yk855 : yver yx855 ys855.2.2.1 4000 = true := by decide +kernel
theorem yt855 {E : zHp → Prop} (h : yXt E) : yTs E ys855 := yver_s (x := yx855) h.1 (yal_n) yg293 yk855
def ys856 : ySp := (285, 2, (0, [], [], [], [(0, (0, yc 3, yc 0)), (1, (0, yc 5, yc 0))], []), [(0, [], [], [], [], [])], [])
def yx856 : yCx := ([ys855], ys856.2.2.2.2, yFP, zm285.2.2.1, zm285.2.2.2.1, zc285, 0, ys856.2.2.2.1, [], [])
theorem yw856 : ywf ys856.2.2.1 = true := by decide +kernel
theorem yk856 : yver yx856 ys856.2.2.1 4000 = true := by decide +kernel
theorem yt856 {E : zHp → Prop} (h : yXt E) : yTs E ys856 := yver_s (x := yx856) h.1 (yal_c (yt855 h) yw855 (yal_n)) yg285 yk856
def ys857 : ySp := (286, 2, (0, [], [], [], [(0, (2, yc 1021, yc 0)), (1, (0, yc 3, yc 0))], []), [(0, [], [], [], [], [(0, yc 100, yc 0)])], [])
def yx857 : yCx := ([ys856], ys857.2.2.2.2, yFP, zm286.2.2.1, zm286.2.2.2.1, zc286, 0, ys857.2.2.2.1, [], [])
theorem yw857 : ywf ys857.2.2.1 = true := by decide +kernel
theorem yk857 : yver yx857 ys857.2.2.1 4000 = true := by decide +kernel
theorem yt857 {E : zHp → Prop} (h : yXt E) : yTs E ys857 := yver_s (x := yx857) h.1 (yal_c (yt856 h) yw856 (yal_n)) yg286 yk857
def ys858 : ySp := (282, 2, (0, [], [], [], [(0, (2, yc 1002, yc 0)), (1, (0, yc 3, yc 0))], []), [(0, [], [], [], [], [(0, yc 100, yc 0)])], [])
def yx858 : yCx := ([ys842, ys857], ys858.2.2.2.2, yFP, zm282.2.2.1, zm282.2.2.2.1, zc282, 0, ys858.2.2.2.1, [], [])
theorem yw858 : ywf ys858.2.2.1 = true := by decide +kernel
theorem yk858 : yver yx858 ys858.2.2.1 4000 = true := by decide +kernel
theorem yt858 {E : zHp → Prop} (h : yXt E) : yTs E ys858 := yver_s (x := yx858) h.1 (yal_c (yt842 h) yw842 (yal_c (yt857 h) yw857 (yal_n))) yg282 yk858
def ys859 : ySp := (293, 3, (0, [], [], [], [(0, (0, yc 4, yc 0)), (1, (0, yc 5, yc 0)), (2, (7, yc 0, yc 0))], []), [(0, [], [], [], [], [(0, yc 4, yc 0)])], [])
def yx859 : yCx := ([], ys859.2.2.2.2, yFP, zm293.2.2.1, zm293.2.2.2.1, zc293, 0, ys859.2.2.2.1, [], [])
theorem yw859 : ywf ys859.2.2.1 = true := by decide +kernel
theorem yk859 : yver yx859 ys859.2.2.1 4000 = true := by decide +kernel
theorem yt859 {E : zHp → Prop} (h : yXt E) : yTs E ys859 := yver_s (x := yx859) h.1 (yal_n) yg293 yk859
def ys860 : ySp := (285, 2, (0, [], [], [], [(0, (0, yc 4, yc 0)), (1, (0, yc 5, yc 0))], []), [(0, [], [], [], [], [])], [])
def yx860 : yCx := ([ys859], ys860.2.2.2.2, yFP, zm285.2.2.1, zm285.2.2.2.1, zc285, 0, ys860.2.2.2.1, [], [])
theorem yw860 : ywf ys860.2.2.1 = true := by decide +kernel
theorem yk860 : yver yx860 ys860.2.2.1 4000 = true := by decide +kernel
theorem yt860 {E : zHp → Prop} (h : yXt E) : yTs E ys860 := yver_s (x := yx860) h.1 (yal_c (yt859 h) yw859 (yal_n)) yg285 yk860
def ys861 : ySp := (286, 2, (0, [], [], [], [(0, (2, yc 1021, yc 0)), (1, (0, yc 4, yc 0))], []), [(0, [], [], [], [], [(0, yc 32, yc 0)])], [])
def yx861 : yCx := ([ys860], ys861.2.2.2.2, yFP, zm286.2.2.1, zm286.2.2.2.1, zc286, 0, ys861.2.2.2.1, [], [])
theorem yw861 : ywf ys861.2.2.1 = true := by decide +kernel
theorem yk861 : yver yx861 ys861.2.2.1 4000 = true := by decide +kernel
theorem yt861 {E : zHp → Prop} (h : yXt E) : yTs E ys861 := yver_s (x := yx861) h.1 (yal_c (yt860 h) yw860 (yal_n)) yg286 yk861
def ys862 : ySp := (282, 2, (0, [], [], [], [(0, (2, yc 1002, yc 0)), (1, (0, yc 4, yc 0))], []), [(0, [], [], [], [], [(0, yc 32, yc 0)])], [])
def yx862 : yCx := ([ys842, ys861], ys862.2.2.2.2, yFP, zm282.2.2.1, zm282.2.2.2.1, zc282, 0, ys862.2.2.2.1, [], [])
theorem yw862 : ywf ys862.2.2.1 = true := by decide +kernel
theorem yk862 : yver yx862 ys862.2.2.1 4000 = true := by decide +kernel
theorem yt862 {E : zHp → Prop} (h : yXt E) : yTs E ys862 := yver_s (x := yx862) h.1 (yal_c (yt842 h) yw842 (yal_c (yt861 h) yw861 (yal_n))) yg282 yk862
def ys863 : ySp := (59, 6, (1, [(0, 0, 2147483647)], [], [(yc 2, yc 0, (2, yc 1, yc 0)), (yc 2, yc 4, (0, (1, 0, 0), yc 0))], [(0, (2, yc 2, yc 0)), (1, (2, yc 1002, yc 0))], []), [(3, [(1, 0, 400), (2, 0, 400)], [], [(yc 2, yc 0, (2, yc 1, yc 0)), (yc 2, yc 4, (0, (1, 0, 0), yc 0)), (yc 2, yc 2, (0, (1, 1, 0), yc 0)), (yc 2, yc 1, (0, (1, 2, 0), yc 0))], [], [(0, yc (-1), yc 0)]), (3, [(1, 0, 400), (2, 0, 400)], [], [(yc 2, yc 0, (2, yc 1, yc 0)), (yc 2, yc 4, (0, (1, 0, 0), yc 0)), (yc 2, yc 1, (0, (1, 1, 0), yc 0)), (yc 2, yc 2, (0, (1, 2, 0), yc 0))], [], [(0, yc 0, yc 0)])], [(2, 2, 2), (2, 2, 3)])
def yx863 : yCx := ([ys839, ys16, ys841, ys846, ys850, ys854, ys858, ys862], ys863.2.2.2.2, yFP, zm59.2.2.1, zm59.2.2.2.1, zc59, 1, ys863.2.2.2.1, [(18, (4, [(0, 0, 2147483647), (1, 0, 400), (2, 0, 400), (3, 0, 400)], [], [(yc 2, yc 0, (2, yc 1, yc 0)), (yc 2, yc 4, (0, (1, 0, 0), yc 0)), (yc 2, yc 2, (0, (1, 2, 0), yc 0)), (yc 2, yc 1, (0, (1, 3, 0), yc 0)), (yc 2, yc 3, (0, (1, 2, 0), yc 0))], [(0, (2, yc 2, yc 0)), (1, (2, yc 1002, yc 0)), (2, (0, (1, 1, 0), yc 0))], []), ([((-1), 1)], 406)), (55, (4, [(0, 0, 2147483647), (1, 0, 400), (2, 0, 400), (3, 0, 400)], [], [(yc 2, yc 0, (2, yc 1, yc 0)), (yc 2, yc 4, (0, (1, 0, 0), yc 0)), (yc 2, yc 2, (0, (1, 2, 0), yc 0)), (yc 2, yc 1, (0, (1, 3, 0), yc 0)), (yc 2, yc 3, (0, (1, 2, 0), yc 0))], [(0, (2, yc 2, yc 0)), (1, (2, yc 1002, yc 0)), (2, (0, (1, 1, 0), yc 0)), (3, (0, yc 0, yc 0)), (4, (0, (1, 2, 0), yc 0)), (5, (0, yc 0, yc 0))], []), ([], 5)), (55, (5, [(0, 0, 2147483647), (1, 0, 400), (2, (-1), 400), (3, 0, 400), (4, 0, 400)], [([(1, 1), ((-1), 2)], 0)], [(yc 2, yc 0, (2, yc 1, yc 0)), (yc 2, yc 4, (0, (1, 0, 0), yc 0)), (yc 2, yc 2, (0, (1, 3, 0), yc 0)), (yc 2, yc 1, (0, (1, 4, 0), yc 0)), (yc 2, yc 3, (0, (1, 3, 0), yc 0))], [(0, (2, yc 2, yc 0)), (1, (2, yc 1002, yc 0)), (2, (0, (1, 1, 0), yc 0)), (3, (0, yc 0, yc 0)), (4, (0, (1, 2, 0), yc 0)), (5, (0, yc 1, yc 0))], []), ([], 4)), (55, (5, [(0, 0, 2147483647), (1, 0, 400), (2, (-1), 400), (3, 0, 400), (4, 0, 400)], [([(1, 1), ((-1), 2)], 1), ([(1, 1), ((-1), 2)], 0)], [(yc 2, yc 0, (2, yc 1, yc 0)), (yc 2, yc 4, (0, (1, 0, 0), yc 0)), (yc 2, yc 2, (0, (1, 3, 0), yc 0)), (yc 2, yc 1, (0, (1, 4, 0), yc 0)), (yc 2, yc 3, (0, (1, 3, 0), yc 0))], [(0, (2, yc 2, yc 0)), (1, (2, yc 1002, yc 0)), (2, (0, (1, 1, 0), yc 0)), (3, (0, yc 0, yc 0)), (4, (0, (1, 2, 0), yc 0)), (5, (0, yc 2, yc 0))], []), ([], 3)), (55, (5, [(0, 0, 2147483647), (1, 0, 400), (2, (-1), 400), (3, 0, 400), (4, 0, 400)], [([(1, 1), ((-1), 2)], 2), ([(1, 1), ((-1), 2)], 1), ([(1, 1), ((-1), 2)], 0)], [(yc 2, yc 0, (2, yc 1, yc 0)), (yc 2, yc 4, (0, (1, 0, 0), yc 0)), (yc 2, yc 2, (0, (1, 3, 0), yc 0)), (yc 2, yc 1, (0, (1, 4, 0), yc 0)), (yc 2, yc 3, (0, (1, 3, 0), yc 0))], [(0, (2, yc 2, yc 0)), (1, (2, yc 1002, yc 0)), (2, (0, (1, 1, 0), yc 0)), (3, (0, yc 0, yc 0)), (4, (0, (1, 2, 0), yc 0)), (5, (0, yc 3, yc 0))], []), ([], 2)), (55, (5, [(0, 0, 2147483647), (1, 0, 400), (2, (-1), 400), (3, 0, 400), (4, 0, 400)], [([(1, 1), ((-1), 2)], 3), ([(1, 1), ((-1), 2)], 2), ([(1, 1), ((-1), 2)], 1), ([(1, 1), ((-1), 2)], 0)], [(yc 2, yc 0, (2, yc 1, yc 0)), (yc 2, yc 4, (0, (1, 0, 0), yc 0)), (yc 2, yc 2, (0, (1, 3, 0), yc 0)), (yc 2, yc 1, (0, (1, 4, 0), yc 0)), (yc 2, yc 3, (0, (1, 3, 0), yc 0))], [(0, (2, yc 2, yc 0)), (1, (2, yc 1002, yc 0)), (2, (0, (1, 1, 0), yc 0)), (3, (0, yc 0, yc 0)), (4, (0, (1, 2, 0), yc 0)), (5, (0, yc 4, yc 0))], []), ([], 1)), (55, (4, [(0, 0, 2147483647), (1, 0, 400), (2, 0, 400), (3, 0, 400)], [], [(yc 2, yc 0, (2, yc 1, yc 0)), (yc 2, yc 4, (0, (1, 0, 0), yc 0)), (yc 2, yc 2, (0, (1, 2, 0), yc 0)), (yc 2, yc 1, (0, (1, 3, 0), yc 0)), (yc 2, yc 3, (0, (1, 2, 0), yc 0))], [(0, (2, yc 2, yc 0)), (1, (2, yc 1002, yc 0)), (2, (0, (1, 1, 0), yc 0)), (3, (0, yc 1, yc 0)), (4, (0, (1, 2, 0), yc 0)), (5, (0, yc 5, yc 0))], []), ([], 0))], [])
theorem yw863 : ywf ys863.2.2.1 = true := by decide +kernel
theorem yk863 : yver yx863 ys863.2.2.1 4000 = true := by decide +kernel
theorem yt863 {E : zHp → Prop} (h : yXt E) : yTs E ys863 := yver_s (x := yx863) h.1 (yal_c (yt839 h) yw839 (yal_c (yt16 h) yw16 (yal_c (yt841 h) yw841 (yal_c (yt846 h) yw846 (yal_c (yt850 h) yw850 (yal_c (yt854 h) yw854 (yal_c (yt858 h) yw858 (yal_c (yt862 h) yw862 (yal_n))))))))) yg59 yk863
def ys864 : ySp := (60, 3, (1, [(0, 0, 2147483647)], [], [(yc 2, yc 0, (2, yc 1, yc 0)), (yc 2, yc 4, (0, (1, 0, 0), yc 0))], [(0, (2, yc 2, yc 0)), (1, (2, yc 1002, yc 0))], []), [(4, [(1, 0, 400), (2, 0, 400), (3, 1, 2147483647)], [], [(yc 2, yc 0, (2, yc 1, yc 0)), (yc 2, yc 2, (0, (1, 1, 0), yc 0)), (yc 2, yc 1, (0, (1, 2, 0), yc 0)), (yc 2, yc 4, (0, (1, 3, 0), yc 0))], [], [(0, yc (-1), yc 0)]), (3, [(1, 0, 400), (2, 0, 400)], [], [(yc 2, yc 0, (2, yc 1, yc 0)), (yc 2, yc 4, (0, (1, 0, 0), yc 0)), (yc 2, yc 1, (0, (1, 1, 0), yc 0)), (yc 2, yc 2, (0, (1, 2, 0), yc 0))], [], [(0, yc 0, yc 0)])], [(2, 2, 2), (2, 2, 3), (2, 2, 4)])
def yx864 : yCx := ([ys153, ys863], ys864.2.2.2.2, yFP, zm60.2.2.1, zm60.2.2.2.1, zc60, 1, ys864.2.2.2.1, [], [])
theorem yw864 : ywf ys864.2.2.1 = true := by decide +kernel
theorem yk864 : yver yx864 ys864.2.2.1 4000 = true := by decide +kernel
theorem yt864 {E : zHp → Prop} (h : yXt E) : yTs E ys864 := yver_s (x := yx864) h.1 (yal_c (yt153 h) yw153 (yal_c (yt863 h) yw863 (yal_n))) yg60 yk864
def ys865 : ySp := (52, 3, (3, [(0, 0, 400), (1, 0, 4), (2, 0, 2147483647)], [], [(yc 2, yc 4, (0, (1, 2, 0), yc 0))], [(0, (2, yc 2, yc 0)), (1, (0, (1, 0, 0), yc 0)), (2, (0, (1, 1, 0), yc 0))], []), [(4, [(3, 1, 2147483647)], [], [(yc 2, yc 4, (0, (1, 3, 0), yc 0))], [], [])], [(2, 2, 4)])
def yx865 : yCx := ([], ys865.2.2.2.2, yFP, zm52.2.2.1, zm52.2.2.2.1, zc52, 3, ys865.2.2.2.1, [], [])
theorem yw865 : ywf ys865.2.2.1 = true := by decide +kernel
theorem yk865 : yver yx865 ys865.2.2.1 4000 = true := by decide +kernel
theorem yt865 {E : zHp → Prop} (h : yXt E) : yTs E ys865 := yver_s (x := yx865) h.1 (yal_n) yg52 yk865
def ys866 : ySp := (34, 2, (1, [(0, 0, 2147483647)], [], [(yc 2, yc 0, (2, yc 1, yc 0)), (yc 2, yc 4, (0, (1, 0, 0), yc 0))], [(0, (2, yc 6, yc 0)), (1, (2, yc 2, yc 0))], []), [(4, [(1, 0, 400), (2, 0, 400), (3, 0, 2147483647)], [], [(yc 2, yc 0, (2, yc 1, yc 0)), (yc 2, yc 1, (0, (1, 1, 0), yc 0)), (yc 2, yc 2, (0, (1, 2, 0), yc 0)), (yc 2, yc 4, (0, (1, 3, 0), yc 0))], [], [])], [(2, 2, 2), (2, 2, 3), (2, 2, 4), (6, 6, 4), (6, 6, 8), (6, 6, 9)])
def yx866 : yCx := ([ys865, ys864], ys866.2.2.2.2, yFP, zm34.2.2.1, zm34.2.2.2.1, zc34, 1, ys866.2.2.2.1, [], [])
theorem yw866 : ywf ys866.2.2.1 = true := by decide +kernel
theorem yk866 : yver yx866 ys866.2.2.1 4000 = true := by decide +kernel
theorem yt866 {E : zHp → Prop} (h : yXt E) : yTs E ys866 := yver_s (x := yx866) h.1 (yal_c (yt865 h) yw865 (yal_c (yt864 h) yw864 (yal_n))) yg34 yk866
def ys867 : ySp := (47, 2, (1, [(0, 0, 1)], [], [], [(0, (2, yc 6, yc 0)), (1, (0, (1, 0, 0), yc 0))], []), [(1, [], [], [], [], [])], [(6, 6, 3), (8, 8, 1000)])
def yx867 : yCx := ([], ys867.2.2.2.2, yFP, zm47.2.2.1, zm47.2.2.2.1, zc47, 1, ys867.2.2.2.1, [], [])
theorem yw867 : ywf ys867.2.2.1 = true := by decide +kernel
theorem yk867 : yver yx867 ys867.2.2.1 4000 = true := by decide +kernel
theorem yt867 {E : zHp → Prop} (h : yXt E) : yTs E ys867 := yver_s (x := yx867) h.1 (yal_n) yg47 yk867
def ys868 : ySp := (283, 1, (0, [], [], [], [(0, (2, yc 1003, yc 0))], []), [(0, [], [], [], [], [(0, yc 0, yc 0)])], [])
def yx868 : yCx := ([], ys868.2.2.2.2, yFP, zm283.2.2.1, zm283.2.2.2.1, zc283, 0, ys868.2.2.2.1, [], [])
theorem yw868 : ywf ys868.2.2.1 = true := by decide +kernel
theorem yk868 : yver yx868 ys868.2.2.1 4000 = true := by decide +kernel
theorem yt868 {E : zHp → Prop} (h : yXt E) : yTs E ys868 := yver_s (x := yx868) h.1 (yal_n) yg283 yk868
def ys869 : ySp := (281, 1, (0, [], [], [], [(0, (2, yc 1003, yc 0))], []), [(0, [], [], [], [], [(0, yc 4, yc 0)])], [])
def yx869 : yCx := ([ys868], ys869.2.2.2.2, yFP, zm281.2.2.1, zm281.2.2.2.1, zc281, 0, ys869.2.2.2.1, [], [])
theorem yw869 : ywf ys869.2.2.1 = true := by decide +kernel
theorem yk869 : yver yx869 ys869.2.2.1 4000 = true := by decide +kernel
theorem yt869 {E : zHp → Prop} (h : yXt E) : yTs E ys869 := yver_s (x := yx869) h.1 (yal_c (yt868 h) yw868 (yal_n)) yg281 yk869
def ys870 : ySp := (284, 1, (0, [], [], [], [(0, (2, yc 1003, yc 0))], []), [(0, [], [], [], [], [(0, yc 1, yc 0)])], [])
def yx870 : yCx := ([], ys870.2.2.2.2, yFP, zm284.2.2.1, zm284.2.2.2.1, zc284, 0, ys870.2.2.2.1, [], [])
theorem yw870 : ywf ys870.2.2.1 = true := by decide +kernel
theorem yk870 : yver yx870 ys870.2.2.1 4000 = true := by decide +kernel
theorem yt870 {E : zHp → Prop} (h : yXt E) : yTs E ys870 := yver_s (x := yx870) h.1 (yal_n) yg284 yk870
def ys871 : ySp := (293, 3, (0, [], [], [], [(0, (0, yc 0, yc 0)), (1, (0, yc 4, yc 0)), (2, (7, yc 0, yc 0))], []), [(0, [], [], [], [], [(0, yc 0, yc 0)])], [])
def yx871 : yCx := ([], ys871.2.2.2.2, yFP, zm293.2.2.1, zm293.2.2.2.1, zc293, 0, ys871.2.2.2.1, [], [])
theorem yw871 : ywf ys871.2.2.1 = true := by decide +kernel
theorem yk871 : yver yx871 ys871.2.2.1 4000 = true := by decide +kernel
theorem yt871 {E : zHp → Prop} (h : yXt E) : yTs E ys871 := yver_s (x := yx871) h.1 (yal_n) yg293 yk871
def ys872 : ySp := (285, 2, (0, [], [], [], [(0, (0, yc 0, yc 0)), (1, (0, yc 4, yc 0))], []), [(0, [], [], [], [], [])], [])
def yx872 : yCx := ([ys871], ys872.2.2.2.2, yFP, zm285.2.2.1, zm285.2.2.2.1, zc285, 0, ys872.2.2.2.1, [], [])
theorem yw872 : ywf ys872.2.2.1 = true := by decide +kernel
theorem yk872 : yver yx872 ys872.2.2.1 4000 = true := by decide +kernel
theorem yt872 {E : zHp → Prop} (h : yXt E) : yTs E ys872 := yver_s (x := yx872) h.1 (yal_c (yt871 h) yw871 (yal_n)) yg285 yk872
def ys873 : ySp := (286, 2, (0, [], [], [], [(0, (2, yc 1022, yc 0)), (1, (0, yc 0, yc 0))], []), [(0, [], [], [], [], [(0, yc 110, yc 0)])], [])
def yx873 : yCx := ([ys872], ys873.2.2.2.2, yFP, zm286.2.2.1, zm286.2.2.2.1, zc286, 0, ys873.2.2.2.1, [], [])
theorem yw873 : ywf ys873.2.2.1 = true := by decide +kernel
theorem yk873 : yver yx873 ys873.2.2.1 4000 = true := by decide +kernel
theorem yt873 {E : zHp → Prop} (h : yXt E) : yTs E ys873 := yver_s (x := yx873) h.1 (yal_c (yt872 h) yw872 (yal_n)) yg286 yk873
def ys874 : ySp := (282, 2, (0, [], [], [], [(0, (2, yc 1003, yc 0)), (1, (0, yc 0, yc 0))], []), [(0, [], [], [], [], [(0, yc 110, yc 0)])], [])
def yx874 : yCx := ([ys870, ys873], ys874.2.2.2.2, yFP, zm282.2.2.1, zm282.2.2.2.1, zc282, 0, ys874.2.2.2.1, [], [])
theorem yw874 : ywf ys874.2.2.1 = true := by decide +kernel
theorem yk874 : yver yx874 ys874.2.2.1 4000 = true := by decide +kernel
theorem yt874 {E : zHp → Prop} (h : yXt E) : yTs E ys874 := yver_s (x := yx874) h.1 (yal_c (yt870 h) yw870 (yal_c (yt873 h) yw873 (yal_n))) yg282 yk874
def ys875 : ySp := (293, 3, (0, [], [], [], [(0, (0, yc 1, yc 0)), (1, (0, yc 4, yc 0)), (2, (7, yc 0, yc 0))], []), [(0, [], [], [], [], [(0, yc 1, yc 0)])], [])
def yx875 : yCx := ([], ys875.2.2.2.2, yFP, zm293.2.2.1, zm293.2.2.2.1, zc293, 0, ys875.2.2.2.1, [], [])
theorem yw875 : ywf ys875.2.2.1 = true := by decide +kernel
theorem yk875 : yver yx875 ys875.2.2.1 4000 = true := by decide +kernel
theorem yt875 {E : zHp → Prop} (h : yXt E) : yTs E ys875 := yver_s (x := yx875) h.1 (yal_n) yg293 yk875
def ys876 : ySp := (285, 2, (0, [], [], [], [(0, (0, yc 1, yc 0)), (1, (0, yc 4, yc 0))], []), [(0, [], [], [], [], [])], [])
def yx876 : yCx := ([ys875], ys876.2.2.2.2, yFP, zm285.2.2.1, zm285.2.2.2.1, zc285, 0, ys876.2.2.2.1, [], [])
theorem yw876 : ywf ys876.2.2.1 = true := by decide +kernel
theorem yk876 : yver yx876 ys876.2.2.1 4000 = true := by decide +kernel
theorem yt876 {E : zHp → Prop} (h : yXt E) : yTs E ys876 := yver_s (x := yx876) h.1 (yal_c (yt875 h) yw875 (yal_n)) yg285 yk876
def ys877 : ySp := (286, 2, (0, [], [], [], [(0, (2, yc 1022, yc 0)), (1, (0, yc 1, yc 0))], []), [(0, [], [], [], [], [(0, yc 111, yc 0)])], [])
def yx877 : yCx := ([ys876], ys877.2.2.2.2, yFP, zm286.2.2.1, zm286.2.2.2.1, zc286, 0, ys877.2.2.2.1, [], [])
theorem yw877 : ywf ys877.2.2.1 = true := by decide +kernel
theorem yk877 : yver yx877 ys877.2.2.1 4000 = true := by decide +kernel
theorem yt877 {E : zHp → Prop} (h : yXt E) : yTs E ys877 := yver_s (x := yx877) h.1 (yal_c (yt876 h) yw876 (yal_n)) yg286 yk877
def ys878 : ySp := (282, 2, (0, [], [], [], [(0, (2, yc 1003, yc 0)), (1, (0, yc 1, yc 0))], []), [(0, [], [], [], [], [(0, yc 111, yc 0)])], [])
def yx878 : yCx := ([ys870, ys877], ys878.2.2.2.2, yFP, zm282.2.2.1, zm282.2.2.2.1, zc282, 0, ys878.2.2.2.1, [], [])
theorem yw878 : ywf ys878.2.2.1 = true := by decide +kernel
theorem yk878 : yver yx878 ys878.2.2.1 4000 = true := by decide +kernel
theorem yt878 {E : zHp → Prop} (h : yXt E) : yTs E ys878 := yver_s (x := yx878) h.1 (yal_c (yt870 h) yw870 (yal_c (yt877 h) yw877 (yal_n))) yg282 yk878
