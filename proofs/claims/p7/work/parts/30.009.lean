def yx245 : yCx := ([], ys245.2.2.2.2, [], zm221.2.2.1, zm221.2.2.2.1, zc221, 0, ys245.2.2.2.1, [], [])
theorem yk245 : yver yx245 ys245.2.2.1 20000 = true := by decide +kernel
theorem yt245 : yTs (fun _ => True) 1 ys245 := yver_s (x := yx245) (yEF_T _) (yal_n) yg221 yk245
