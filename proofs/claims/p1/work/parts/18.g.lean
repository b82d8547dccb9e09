theorem zK_1 {hp : zHp} (F : zFr0 hp) (a0 : Int32) : zKP hp 124 162 [.int a0] := by
  by_cases x0 : a0 = 0
  · rw [x0]; exact zKP_at F zK_1_0
  exact ⟨-1, hp, hp, zc_124x_52 F 19 a0 x0, Nat.le_refl _, hk70 F, zc_162x_53 F 19 a0 x0, Nat.le_refl _, hpn F⟩
theorem zK_28 {hp : zHp} (F : zFr0 hp) (a0 : Int32) : zKP hp 154 277 [.int a0] := by
  by_cases x0 : a0 = 0
  · rw [x0]; exact zKP_at F zK_28_0
  by_cases x1 : a0 = 1
  · rw [x1]; exact zKP_at F zK_28_1
  by_cases x2 : a0 = 2
  · rw [x2]; exact zKP_at F zK_28_2
  by_cases x3 : a0 = 3
  · rw [x3]; exact zKP_at F zK_28_3
  by_cases x4 : a0 = 4
  · rw [x4]; exact zKP_at F zK_28_4
  by_cases x5 : a0 = 5
  · rw [x5]; exact zKP_at F zK_28_5
  by_cases x6 : a0 = 6
  · rw [x6]; exact zKP_at F zK_28_6
  by_cases x7 : a0 = 7
  · rw [x7]; exact zKP_at F zK_28_7
  by_cases x8 : a0 = 8
  · rw [x8]; exact zKP_at F zK_28_8
  by_cases x9 : a0 = 9
  · rw [x9]; exact zKP_at F zK_28_9
  by_cases x10 : a0 = 10
  · rw [x10]; exact zKP_at F zK_28_10
  by_cases x11 : a0 = 11
  · rw [x11]; exact zKP_at F zK_28_11
  exact ⟨-1, hp, hp, zc_154x_54 F 19 a0 x0 x1 x2 x3 x4 x5 x6 x7 x8 x9 x10 x11, Nat.le_refl _, hk70 F, zc_277x_55 F 19 a0 x0 x1 x2 x3 x4 x5 x6 x7 x8 x9 x10 x11, Nat.le_refl _, hpn F⟩
theorem zK_29 {hp : zHp} (F : zFr0 hp) (a0 : Int32) : zKP hp 155 278 [.int a0] := by
  by_cases x0 : a0 = 0
  · rw [x0]; exact zKP_at F zK_29_0
  by_cases x1 : a0 = 1
  · rw [x1]; exact zKP_at F zK_29_1
  by_cases x2 : a0 = 2
  · rw [x2]; exact zKP_at F zK_29_2
  by_cases x3 : a0 = 3
  · rw [x3]; exact zKP_at F zK_29_3
  exact ⟨-1, hp, hp, zc_155x_56 F 19 a0 x0 x1 x2 x3, Nat.le_refl _, hk70 F, zc_image F 18 a0 x0 x1 x2 x3, Nat.le_refl _, hpn F⟩
theorem zK_30 {hp : zHp} (F : zFr0 hp) (a0 : Int32) : zKP hp 156 279 [.int a0] := by
  by_cases x0 : a0 = 0
  · rw [x0]; exact zKP_at F zK_30_0
  by_cases x1 : a0 = 1
  · rw [x1]; exact zKP_at F zK_30_1
  by_cases x2 : a0 = 2
  · rw [x2]; exact zKP_at F zK_30_2
  by_cases x3 : a0 = 3
  · rw [x3]; exact zKP_at F zK_30_3
  exact ⟨-1, hp, hp, zc_156x_57 F 19 a0 x0 x1 x2 x3, Nat.le_refl _, hk70 F, zc_back F 18 a0 x0 x1 x2 x3, Nat.le_refl _, hpn F⟩
