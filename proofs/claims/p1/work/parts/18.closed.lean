theorem zK_2 : zKP 125 198 [] := zclo_ok (v := -3) (by decide +kernel)
theorem zK_3 : zKP 126 197 [] := zclo_ok (v := -3) (by decide +kernel)
theorem zK_11 : zKP 135 242 [] := zclo_ok (v := -1) (by decide +kernel)
theorem zK_13 : zKP 137 234 [] := zclo_ok (v := -1) (by decide +kernel)
theorem zK_14 : zKP 138 221 [] := zclo_ok (v := -1) (by decide +kernel)
theorem zK_1_0 : zKP 124 162 [.int 0] := zclo_ok (v := 0) (by decide +kernel)
theorem zK_1 (a0 : Int32) : zKP 124 162 [.int a0] := by
  by_cases x0 : a0 = 0
  · rw [x0]; exact zK_1_0
  exact ⟨-1, hpC, hpC, zc_124x_52 19 a0 x0, Nat.le_refl _, hk70, zc_162x_53 19 a0 x0, Nat.le_refl _, hpC_le⟩
theorem zK_28_0 : zKP 154 277 [.int 0] := zclo_ok (v := 0) (by decide +kernel)
theorem zK_28_1 : zKP 154 277 [.int 1] := zclo_ok (v := 0) (by decide +kernel)
theorem zK_28_2 : zKP 154 277 [.int 2] := zclo_ok (v := 0) (by decide +kernel)
theorem zK_28_3 : zKP 154 277 [.int 3] := zclo_ok (v := 0) (by decide +kernel)
theorem zK_28_4 : zKP 154 277 [.int 4] := zclo_ok (v := 0) (by decide +kernel)
theorem zK_28_5 : zKP 154 277 [.int 5] := zclo_ok (v := 0) (by decide +kernel)
theorem zK_28_6 : zKP 154 277 [.int 6] := zclo_ok (v := 0) (by decide +kernel)
theorem zK_28_7 : zKP 154 277 [.int 7] := zclo_ok (v := 0) (by decide +kernel)
theorem zK_28_8 : zKP 154 277 [.int 8] := zclo_ok (v := 0) (by decide +kernel)
theorem zK_28_9 : zKP 154 277 [.int 9] := zclo_ok (v := 0) (by decide +kernel)
theorem zK_28_10 : zKP 154 277 [.int 10] := zclo_ok (v := 0) (by decide +kernel)
theorem zK_28_11 : zKP 154 277 [.int 11] := zclo_ok (v := 0) (by decide +kernel)
theorem zK_28 (a0 : Int32) : zKP 154 277 [.int a0] := by
  by_cases x0 : a0 = 0
  · rw [x0]; exact zK_28_0
  by_cases x1 : a0 = 1
  · rw [x1]; exact zK_28_1
  by_cases x2 : a0 = 2
  · rw [x2]; exact zK_28_2
  by_cases x3 : a0 = 3
  · rw [x3]; exact zK_28_3
  by_cases x4 : a0 = 4
  · rw [x4]; exact zK_28_4
  by_cases x5 : a0 = 5
  · rw [x5]; exact zK_28_5
  by_cases x6 : a0 = 6
  · rw [x6]; exact zK_28_6
  by_cases x7 : a0 = 7
  · rw [x7]; exact zK_28_7
  by_cases x8 : a0 = 8
  · rw [x8]; exact zK_28_8
  by_cases x9 : a0 = 9
  · rw [x9]; exact zK_28_9
  by_cases x10 : a0 = 10
  · rw [x10]; exact zK_28_10
  by_cases x11 : a0 = 11
  · rw [x11]; exact zK_28_11
  exact ⟨-1, hpC, hpC, zc_154x_54 19 a0 x0 x1 x2 x3 x4 x5 x6 x7 x8 x9 x10 x11, Nat.le_refl _, hk70, zc_277x_55 19 a0 x0 x1 x2 x3 x4 x5 x6 x7 x8 x9 x10 x11, Nat.le_refl _, hpC_le⟩
theorem zK_29_0 : zKP 155 278 [.int 0] := zclo_ok (v := 0) (by decide +kernel)
theorem zK_29_1 : zKP 155 278 [.int 1] := zclo_ok (v := 0) (by decide +kernel)
theorem zK_29_2 : zKP 155 278 [.int 2] := zclo_ok (v := 0) (by decide +kernel)
theorem zK_29_3 : zKP 155 278 [.int 3] := zclo_ok (v := 0) (by decide +kernel)
theorem zK_29 (a0 : Int32) : zKP 155 278 [.int a0] := by
  by_cases x0 : a0 = 0
  · rw [x0]; exact zK_29_0
  by_cases x1 : a0 = 1
  · rw [x1]; exact zK_29_1
  by_cases x2 : a0 = 2
  · rw [x2]; exact zK_29_2
  by_cases x3 : a0 = 3
  · rw [x3]; exact zK_29_3
  exact ⟨-1, hpC, hpC, zc_155x_56 19 a0 x0 x1 x2 x3, Nat.le_refl _, hk70, zc_image 18 a0 x0 x1 x2 x3, Nat.le_refl _, hpC_le⟩
theorem zK_30_0 : zKP 156 279 [.int 0] := zclo_ok (v := -1) (by decide +kernel)
theorem zK_30_1 : zKP 156 279 [.int 1] := zclo_ok (v := -1) (by decide +kernel)
theorem zK_30_2 : zKP 156 279 [.int 2] := zclo_ok (v := -1) (by decide +kernel)
theorem zK_30_3 : zKP 156 279 [.int 3] := zclo_ok (v := -1) (by decide +kernel)
theorem zK_30 (a0 : Int32) : zKP 156 279 [.int a0] := by
  by_cases x0 : a0 = 0
  · rw [x0]; exact zK_30_0
  by_cases x1 : a0 = 1
  · rw [x1]; exact zK_30_1
  by_cases x2 : a0 = 2
  · rw [x2]; exact zK_30_2
  by_cases x3 : a0 = 3
  · rw [x3]; exact zK_30_3
  exact ⟨-1, hpC, hpC, zc_156x_57 19 a0 x0 x1 x2 x3, Nat.le_refl _, hk70, zc_back 18 a0 x0 x1 x2 x3, Nat.le_refl _, hpC_le⟩
