theorem zK_11 {hp : zHp} (F : zFr0 hp) : zKP hp 135 242 [] := zKP_at F (zclo_ok (v := -1) (by decide +kernel))
theorem zK_13 {hp : zHp} (F : zFr0 hp) : zKP hp 137 234 [] := zKP_at F (zclo_ok (v := -1) (by decide +kernel))
theorem zK_14 {hp : zHp} (F : zFr0 hp) : zKP hp 138 221 [] := zKP_at F (zclo_ok (v := -1) (by decide +kernel))
theorem zK_1_0 : zKP hpC 124 162 [.int 0] := zclo_ok (v := 0) (by decide +kernel)
