theorem zK_29_2 : zKP hpC 155 278 [.int 2] := zclo_ok (v := 0) (by decide +kernel)
