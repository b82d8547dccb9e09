theorem zK_2 {hp : zHp} (F : zFr0 hp) : zKP hp 125 198 [] := zKP_at F (zclo_ok (v := -3) (by decide +kernel))
