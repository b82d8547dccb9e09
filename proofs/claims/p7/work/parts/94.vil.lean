/-! The class's village: the tape is empty behind it. -/
def ys645b : ySp := (127, 1, (0, [], [], [], [(0, (2, yc 0, yc 0))], []), [(1, [(0, 0, 400)], [], [(yc 2, yc 0, (2, yc 1, yc 0)), (yc 2, yc 1, (0, (1, 0, 0), yc 0)), (yc 2, yc 2, (0, yc 0, yc 0)), (yc 2, yc 4, (0, yc 0, yc 0)), (yc 0, yc 1, (0, yc 0, yc 0))], [], [])], [(0, 0, 1), (2, 2, 0), (2, 2, 1), (2, 2, 2), (2, 2, 4)])
def yx645b : yCx := ([ys644], ys645b.2.2.2.2, yFP, zm127.2.2.1, zm127.2.2.2.1, zc127, 0, ys645b.2.2.2.1, [], [])
theorem yw645b : ywf ys645b.2.2.1 = true := by decide +kernel
theorem yk645b : yver yx645b ys645b.2.2.1 4000 = true := by decide +kernel
theorem yt645b {E : zHp → Prop} (h : yEF E yFP) : yTs E 2 ys645b := yver_s (x := yx645b) h (yal_c (yt644 h) (by decide) yw644 (yal_n)) yg127 yk645b
def ys1537b : ySp := (125, 1, (0, [], [], [], [(0, (2, yc 0, yc 0))], []), [(5, [(0, (-2147483648), 2147483647), (1, (-2147483648), 2147483647), (2, 0, 400), (3, 0, 400), (4, 0, 2147483647)], [], [(yc 5, yc 0, (0, (1, 1, 0), yc 0)), (yc 2, yc 0, (2, yc 1, yc 0)), (yc 2, yc 2, (0, (1, 2, 0), yc 0)), (yc 2, yc 1, (0, (1, 3, 0), yc 0)), (yc 2, yc 4, (0, (1, 4, 0), yc 0)), (yc 0, yc 1, (0, yc 0, yc 0))], [], [(0, (1, 0, 0), yc 0)])], [(0, 0, 1), (2, 2, 0), (2, 2, 1), (2, 2, 2), (2, 2, 3), (2, 2, 4), (5, 5, 0), (5, 5, 1), (5, 5, 2), (5, 5, 3), (10, 10, 1000), (12, 12, 1000), (14, 14, 2)])
def yx1537b : yCx := ([ys1292, ys614, ys1536, ys663, ys1535, ys645b], ys1537b.2.2.2.2, yFP, zm125.2.2.1, zm125.2.2.2.1, zc125, 0, ys1537b.2.2.2.1, [], [])
theorem yw1537b : ywf ys1537b.2.2.1 = true := by decide +kernel
theorem yk1537b : yver yx1537b ys1537b.2.2.1 4000 = true := by decide +kernel
theorem yt1537b {E : zHp → Prop} (h : yEF E yFP) : yTs E 9 ys1537b := yver_s (x := yx1537b) h (yal_c (yt1292 h) (by decide) yw1292 (yal_c (yt614 h) (by decide) yw614 (yal_c (yt1536 h) (by decide) yw1536 (yal_c (yt663 h) (by decide) yw663 (yal_c (yt1535 h) (by decide) yw1535 (yal_c (yt645b h) (by decide) yw645b (yal_n))))))) yg125 yk1537b
