def yq4_0 : yCu := (2, (2, [(0, 0, 6), (1, 0, 6)], [], [(yc 80, yc 0, (0, (1, 0, 0), yc 0)), (yc 80, yc 2, (0, (1, 1, 0), yc 0))], [(0, (2, yc 70, yc 0)), (1, (0, yc 0, yc 0))], []), ([], 101))
def yq4_1 : yCu := (2, (2, [(0, 0, 6), (1, 0, 6)], [], [(yc 80, yc 0, (0, (1, 0, 0), yc 0)), (yc 80, yc 2, (0, (1, 1, 0), yc 0)), (yc 84, yc 0, (0, (1, 0, 0), yc 0)), (yc 84, yc 2, (0, (1, 1, 0), yc 0))], [(0, (2, yc 70, yc 0)), (1, (0, yc 20, yc 0))], []), ([], 81))
def yq4_2 : yCu := (2, (2, [(0, 0, 6), (1, 0, 6)], [], [(yc 80, yc 0, (0, (1, 0, 0), yc 0)), (yc 80, yc 2, (0, (1, 1, 0), yc 0)), (yc 84, yc 0, (0, (1, 0, 0), yc 0)), (yc 84, yc 2, (0, (1, 1, 0), yc 0))], [(0, (2, yc 70, yc 0)), (1, (0, yc 40, yc 0))], []), ([], 61))
def yq4_3 : yCu := (2, (2, [(0, 0, 6), (1, 0, 6)], [], [(yc 80, yc 0, (0, (1, 0, 0), yc 0)), (yc 80, yc 2, (0, (1, 1, 0), yc 0)), (yc 84, yc 0, (0, (1, 0, 0), yc 0)), (yc 84, yc 2, (0, (1, 1, 0), yc 0))], [(0, (2, yc 70, yc 0)), (1, (0, yc 60, yc 0))], []), ([], 41))
def yq4_4 : yCu := (2, (2, [(0, 0, 6), (1, 0, 6)], [], [(yc 80, yc 0, (0, (1, 0, 0), yc 0)), (yc 80, yc 2, (0, (1, 1, 0), yc 0)), (yc 84, yc 0, (0, (1, 0, 0), yc 0)), (yc 84, yc 2, (0, (1, 1, 0), yc 0))], [(0, (2, yc 70, yc 0)), (1, (0, yc 80, yc 0))], []), ([], 21))
def yq4_5 : yCu := (2, (2, [(0, 0, 6), (1, 0, 6)], [], [(yc 80, yc 0, (0, (1, 0, 0), yc 0)), (yc 80, yc 2, (0, (1, 1, 0), yc 0)), (yc 84, yc 0, (0, (1, 0, 0), yc 0)), (yc 84, yc 2, (0, (1, 1, 0), yc 0))], [(0, (2, yc 70, yc 0)), (1, (0, yc 100, yc 0))], []), ([], 1))
def yq4_6 : yCu := (2, (2, [(0, 0, 6), (1, 0, 6)], [], [(yc 80, yc 0, (0, (1, 0, 0), yc 0)), (yc 80, yc 2, (0, (1, 1, 0), yc 0)), (yc 84, yc 0, (0, (1, 0, 0), yc 0)), (yc 84, yc 2, (0, (1, 1, 0), yc 0))], [(0, (2, yc 70, yc 0)), (1, (0, yc 120, yc 0))], []), ([], 0))
def yx4 : yCx := ([], ys4.2.2.2.2, [], zm259.2.2.1, zm259.2.2.2.1, zc259, 2, ys4.2.2.2.1, [yq4_0, yq4_1, yq4_2, yq4_3, yq4_4, yq4_5, yq4_6], [])
theorem yk4_e : yver0 yx4 ys4.2.2.1 20000 = true := by decide +kernel
theorem yk4_0 : ycc yx4 20000 yq4_0 = true := by decide +kernel
theorem yk4_1 : ycc yx4 20000 yq4_1 = true := by decide +kernel
theorem yk4_2 : ycc yx4 20000 yq4_2 = true := by decide +kernel
theorem yk4_3 : ycc yx4 20000 yq4_3 = true := by decide +kernel
theorem yk4_4 : ycc yx4 20000 yq4_4 = true := by decide +kernel
theorem yk4_5 : ycc yx4 20000 yq4_5 = true := by decide +kernel
theorem yk4_6 : ycc yx4 20000 yq4_6 = true := by decide +kernel
theorem yk4 : yver yx4 ys4.2.2.1 20000 = true := yver_join yk4_e (ycc_c yk4_0 (ycc_c yk4_1 (ycc_c yk4_2 (ycc_c yk4_3 (ycc_c yk4_4 (ycc_c yk4_5 (ycc_c yk4_6 (ycc_n))))))))
theorem yt4 : yTs (fun _ => True) 1 ys4 := yver_s (x := yx4) (yEF_T _) (yal_n) yg259 yk4
