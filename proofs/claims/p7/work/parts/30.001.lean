def yq5_0 : yCu := (2, (2, [(0, 0, 6), (1, 0, 6)], [], [(yc 84, yc 0, (0, (1, 0, 0), yc 0)), (yc 84, yc 2, (0, (1, 1, 0), yc 0))], [(0, (2, yc 70, yc 0)), (1, (0, yc 0, yc 0))], []), ([], 101))
def yq5_1 : yCu := (2, (2, [(0, 0, 6), (1, 0, 6)], [], [(yc 84, yc 0, (0, (1, 0, 0), yc 0)), (yc 84, yc 2, (0, (1, 1, 0), yc 0)), (yc 80, yc 0, (0, (1, 0, 0), yc 0)), (yc 80, yc 2, (0, (1, 1, 0), yc 0))], [(0, (2, yc 70, yc 0)), (1, (0, yc 20, yc 0))], []), ([], 81))
def yq5_2 : yCu := (2, (2, [(0, 0, 6), (1, 0, 6)], [], [(yc 84, yc 0, (0, (1, 0, 0), yc 0)), (yc 84, yc 2, (0, (1, 1, 0), yc 0)), (yc 80, yc 0, (0, (1, 0, 0), yc 0)), (yc 80, yc 2, (0, (1, 1, 0), yc 0))], [(0, (2, yc 70, yc 0)), (1, (0, yc 40, yc 0))], []), ([], 61))
def yq5_3 : yCu := (2, (2, [(0, 0, 6), (1, 0, 6)], [], [(yc 84, yc 0, (0, (1, 0, 0), yc 0)), (yc 84, yc 2, (0, (1, 1, 0), yc 0)), (yc 80, yc 0, (0, (1, 0, 0), yc 0)), (yc 80, yc 2, (0, (1, 1, 0), yc 0))], [(0, (2, yc 70, yc 0)), (1, (0, yc 60, yc 0))], []), ([], 41))
def yq5_4 : yCu := (2, (2, [(0, 0, 6), (1, 0, 6)], [], [(yc 84, yc 0, (0, (1, 0, 0), yc 0)), (yc 84, yc 2, (0, (1, 1, 0), yc 0)), (yc 80, yc 0, (0, (1, 0, 0), yc 0)), (yc 80, yc 2, (0, (1, 1, 0), yc 0))], [(0, (2, yc 70, yc 0)), (1, (0, yc 80, yc 0))], []), ([], 21))
def yq5_5 : yCu := (2, (2, [(0, 0, 6), (1, 0, 6)], [], [(yc 84, yc 0, (0, (1, 0, 0), yc 0)), (yc 84, yc 2, (0, (1, 1, 0), yc 0)), (yc 80, yc 0, (0, (1, 0, 0), yc 0)), (yc 80, yc 2, (0, (1, 1, 0), yc 0))], [(0, (2, yc 70, yc 0)), (1, (0, yc 100, yc 0))], []), ([], 1))
def yq5_6 : yCu := (2, (2, [(0, 0, 6), (1, 0, 6)], [], [(yc 84, yc 0, (0, (1, 0, 0), yc 0)), (yc 84, yc 2, (0, (1, 1, 0), yc 0)), (yc 80, yc 0, (0, (1, 0, 0), yc 0)), (yc 80, yc 2, (0, (1, 1, 0), yc 0))], [(0, (2, yc 70, yc 0)), (1, (0, yc 120, yc 0))], []), ([], 0))
def yx5 : yCx := ([], ys5.2.2.2.2, [], zm260.2.2.1, zm260.2.2.2.1, zc260, 2, ys5.2.2.2.1, [yq5_0, yq5_1, yq5_2, yq5_3, yq5_4, yq5_5, yq5_6], [])
theorem yk5_e : yver0 yx5 ys5.2.2.1 20000 = true := by decide +kernel
theorem yk5_0 : ycc yx5 20000 yq5_0 = true := by decide +kernel
theorem yk5_1 : ycc yx5 20000 yq5_1 = true := by decide +kernel
theorem yk5_2 : ycc yx5 20000 yq5_2 = true := by decide +kernel
theorem yk5_3 : ycc yx5 20000 yq5_3 = true := by decide +kernel
theorem yk5_4 : ycc yx5 20000 yq5_4 = true := by decide +kernel
theorem yk5_5 : ycc yx5 20000 yq5_5 = true := by decide +kernel
theorem yk5_6 : ycc yx5 20000 yq5_6 = true := by decide +kernel
theorem yk5 : yver yx5 ys5.2.2.1 20000 = true := yver_join yk5_e (ycc_c yk5_0 (ycc_c yk5_1 (ycc_c yk5_2 (ycc_c yk5_3 (ycc_c yk5_4 (ycc_c yk5_5 (ycc_c yk5_6 (ycc_n))))))))
theorem yt5 : yTs (fun _ => True) 1 ys5 := yver_s (x := yx5) (yEF_T _) (yal_n) yg260 yk5
