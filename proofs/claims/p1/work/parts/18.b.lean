theorem zK_3 {hp : zHp} (F : zFr0 hp) : zKP hp 126 197 [] := zKP_at F (zclo_ok (v := -3) (by decide +kernel))
