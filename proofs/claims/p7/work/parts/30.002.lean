def ys6 : ySp := (158, 6, (1, [(0, (-9223372036854775808), 9223372036854775807)], [], [], [(0, (1, (1, 0, 0), yc 0)), (2, (1, yc 0, yc 0)), (4, (1, yc 3, yc 0))], []), [(1, [(0, (-9223372036854775808), (-1))], [], [], [], [(0, yc 0, yc 0)]), (1, [(0, 4, 9223372036854775807)], [], [], [], [(0, yc 0, yc 0)]), (1, [(0, 0, 3)], [], [], [], [(0, yc 1, yc 0)])], [])
def yx6 : yCx := ([], ys6.2.2.2.2, yFP, zm158.2.2.1, zm158.2.2.2.1, zc158, 1, ys6.2.2.2.1, [], [])
theorem yw6 : ywf ys6.2.2.1 = true := by decide +kernel
theorem yk6 : yver yx6 ys6.2.2.1 4000 = true := by decide +kernel
theorem yt6 {E : zHp → Prop} (h : yEF E yFP) : yTs E 1 ys6 := yver_s (x := yx6) h (yal_n) yg158 yk6
