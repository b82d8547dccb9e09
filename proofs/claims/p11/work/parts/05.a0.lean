theorem zok0 : zokC zm0.1 zm0.2.1 0 zc0 = true := zokH_ok (hs := [8151, 8152, 8155, 8157, 8160, 8166]) (by decide +kernel)
theorem zoy0 : zokY zm0 = true := zokYh_ok (a := 8008) (b := 8149) (c := 0) (by decide +kernel)
set_option maxRecDepth 20000 in
theorem zow0 : Cond.code zm0.1 zm0.2.1 zm0.2.2.1 zm0.2.2.2.1 ∈ zTw := zpw (p := 8) (i := 150) rfl rfl rfl
theorem zok1 : zokC zm1.1 zm1.2.1 0 zc1 = true := zokH_ok (hs := [8152, 11143, 8155, 11143, 8157, 11143, 11144, 11144, 8157, 11145, 8157, 8157, 11145, 8157, 11146, 11152, 11157]) (by decide +kernel)
theorem zoy1 : zokY zm1 = true := zokYh_ok (a := 8008) (b := 11140) (c := 11141) (by decide +kernel)
set_option maxRecDepth 20000 in
theorem zow1 : Cond.code zm1.1 zm1.2.1 zm1.2.2.1 zm1.2.2.2.1 ∈ zTw := zpw (p := 11) (i := 142) rfl rfl rfl
theorem zok2 : zokC zm2.1 zm2.2.1 0 zc2 = true := zokH_ok (hs := [8152, 8152, 11156, 8155, 8155, 8155]) (by decide +kernel)
theorem zoy2 : zokY zm2 = true := zokYh_ok (a := 8008) (b := 11154) (c := 1008) (by decide +kernel)
set_option maxRecDepth 20000 in
theorem zow2 : Cond.code zm2.1 zm2.2.1 zm2.2.2.1 zm2.2.2.2.1 ∈ zTw := zpw (p := 11) (i := 155) rfl rfl rfl
theorem zok3 : zokC zm3.1 zm3.2.1 0 zc3 = true := zokH_ok (hs := [11145, 8157, 11161, 11145, 8157]) (by decide +kernel)
theorem zoy3 : zokY zm3 = true := zokYh_ok (a := 8008) (b := 11159) (c := 1009) (by decide +kernel)
set_option maxRecDepth 20000 in
theorem zow3 : Cond.code zm3.1 zm3.2.1 zm3.2.2.1 zm3.2.2.2.1 ∈ zTw := zpw (p := 11) (i := 160) rfl rfl rfl
theorem zok4 : zokC zm4.1 zm4.2.1 0 zc4 = true := zokH_ok (hs := [12041, 11144, 11144, 12042, 8152]) (by decide +kernel)
theorem zoy4 : zokY zm4 = true := zokYh_ok (a := 8008) (b := 12038) (c := 12039) (by decide +kernel)
set_option maxRecDepth 20000 in
theorem zow4 : Cond.code zm4.1 zm4.2.1 zm4.2.2.1 zm4.2.2.2.1 ∈ zTw := zpw (p := 12) (i := 40) rfl rfl rfl
theorem zok5 : zokC zm5.1 zm5.2.1 0 zc5 = true := zokH_ok (hs := [11144, 11144, 11167]) (by decide +kernel)
theorem zoy5 : zokY zm5 = true := zokYh_ok (a := 8008) (b := 11164) (c := 11165) (by decide +kernel)
set_option maxRecDepth 20000 in
theorem zow5 : Cond.code zm5.1 zm5.2.1 zm5.2.2.1 zm5.2.2.2.1 ∈ zTw := zpw (p := 11) (i := 166) rfl rfl rfl
theorem zok6 : zokC zm6.1 zm6.2.1 0 zc6 = true := zokH_ok (hs := [11144, 11144, 11144, 11167]) (by decide +kernel)
theorem zoy6 : zokY zm6 = true := zokYh_ok (a := 8008) (b := 12014) (c := 12015) (by decide +kernel)
set_option maxRecDepth 20000 in
theorem zow6 : Cond.code zm6.1 zm6.2.1 zm6.2.2.1 zm6.2.2.2.1 ∈ zTw := zpw (p := 12) (i := 16) rfl rfl rfl
theorem zok7 : zokC zm7.1 zm7.2.1 0 zc7 = true := zokH_ok (hs := [8158, 8162, 8164, 8167, 8168, 8169, 11171]) (by decide +kernel)
theorem zoy7 : zokY zm7 = true := zokYh_ok (a := 8008) (b := 11169) (c := 1010) (by decide +kernel)
set_option maxRecDepth 20000 in
theorem zow7 : Cond.code zm7.1 zm7.2.1 zm7.2.2.1 zm7.2.2.2.1 ∈ zTw := zpw (p := 11) (i := 170) rfl rfl rfl
theorem zok8 : zokC zm8.1 zm8.2.1 0 zc8 = true := zokH_ok (hs := [8169, 8168, 11175, 11145, 11180, 8166, 11171]) (by decide +kernel)
theorem zoy8 : zokY zm8 = true := zokYh_ok (a := 8008) (b := 11173) (c := 1011) (by decide +kernel)
set_option maxRecDepth 20000 in
theorem zow8 : Cond.code zm8.1 zm8.2.1 zm8.2.2.1 zm8.2.2.2.1 ∈ zTw := zpw (p := 11) (i := 174) rfl rfl rfl
theorem zok9 : zokC zm9.1 zm9.2.1 0 zc9 = true := zokH_ok (hs := [8169, 8166, 8169, 8167, 8169, 8162, 8162, 8158, 8164, 8166, 8160, 11179, 8158, 8158]) (by decide +kernel)
theorem zoy9 : zokY zm9 = true := zokYh_ok (a := 8008) (b := 11177) (c := 1012) (by decide +kernel)
set_option maxRecDepth 20000 in
theorem zow9 : Cond.code zm9.1 zm9.2.1 zm9.2.2.1 zm9.2.2.2.1 ∈ zTw := zpw (p := 11) (i := 178) rfl rfl rfl
theorem zok10 : zokC zm10.1 zm10.2.1 0 zc10 = true := zokH_ok (hs := [8139]) (by decide +kernel)
theorem zoy10 : zokY zm10 = true := zokYh_ok (a := 8007) (b := 8137) (c := 0) (by decide +kernel)
set_option maxRecDepth 20000 in
theorem zow10 : Cond.code zm10.1 zm10.2.1 zm10.2.2.1 zm10.2.2.2.1 ∈ zTw := zpw (p := 8) (i := 138) rfl rfl rfl
theorem zok11 : zokC zm11.1 zm11.2.1 0 zc11 = true := zokH_ok (hs := [8140, 12060, 12061, 12062, 8140, 8140, 12063]) (by decide +kernel)
theorem zoy11 : zokY zm11 = true := zokYh_ok (a := 8007) (b := 12058) (c := 2002) (by decide +kernel)
set_option maxRecDepth 20000 in
theorem zow11 : Cond.code zm11.1 zm11.2.1 zm11.2.2.1 zm11.2.2.2.1 ∈ zTw := zpw (p := 12) (i := 59) rfl rfl rfl
theorem zok12 : zokC zm12.1 zm12.2.1 0 zc12 = true := zokH_ok (hs := [12055, 12056, 12064, 12064, 12065, 12066, 12067]) (by decide +kernel)
theorem zoy12 : zokY zm12 = true := zokYh_ok (a := 8007) (b := 12052) (c := 12053) (by decide +kernel)
set_option maxRecDepth 20000 in
theorem zow12 : Cond.code zm12.1 zm12.2.1 zm12.2.2.1 zm12.2.2.2.1 ∈ zTw := zpw (p := 12) (i := 54) rfl rfl rfl
theorem zok13 : zokC zm13.1 zm13.2.1 0 zc13 = true := zokH_ok (hs := [8120, 8121, 8123]) (by decide +kernel)
theorem zoy13 : zokY zm13 = true := zokYh_ok (a := 8006) (b := 8118) (c := 0) (by decide +kernel)
set_option maxRecDepth 20000 in
theorem zow13 : Cond.code zm13.1 zm13.2.1 zm13.2.2.1 zm13.2.2.2.1 ∈ zTw := zpw (p := 8) (i := 119) rfl rfl rfl
theorem zok14 : zokC zm14.1 zm14.2.1 0 zc14 = true := zokH_ok (hs := [8125]) (by decide +kernel)
theorem zoy14 : zokY zm14 = true := zokYh_ok (a := 8006) (b := 11076) (c := 11077) (by decide +kernel)
set_option maxRecDepth 20000 in
theorem zow14 : Cond.code zm14.1 zm14.2.1 zm14.2.2.1 zm14.2.2.2.1 ∈ zTw := zpw (p := 11) (i := 78) rfl rfl rfl
theorem zok15 : zokC zm15.1 zm15.2.1 0 zc15 = true := zokH_ok (hs := [8125]) (by decide +kernel)
theorem zoy15 : zokY zm15 = true := zokYh_ok (a := 8006) (b := 10003) (c := 10004) (by decide +kernel)
set_option maxRecDepth 20000 in
theorem zow15 : Cond.code zm15.1 zm15.2.1 zm15.2.2.1 zm15.2.2.2.1 ∈ zTw := zpw (p := 10) (i := 5) rfl rfl rfl
theorem zok16 : zokC zm16.1 zm16.2.1 0 zc16 = true := zokH_ok (hs := [8123, 8124, 10221, 8124, 8124, 8125, 10225, 8125]) (by decide +kernel)
theorem zoy16 : zokY zm16 = true := zokYh_ok (a := 8006) (b := 10218) (c := 10219) (by decide +kernel)
set_option maxRecDepth 20000 in
theorem zow16 : Cond.code zm16.1 zm16.2.1 zm16.2.2.1 zm16.2.2.2.1 ∈ zTw := zpw (p := 10) (i := 220) rfl rfl rfl
theorem zok17 : zokC zm17.1 zm17.2.1 0 zc17 = true := zokH_ok (hs := [8125, 8124, 8124, 8125, 8125, 8123, 8124, 11083]) (by decide +kernel)
theorem zoy17 : zokY zm17 = true := zokYh_ok (a := 8006) (b := 11080) (c := 11081) (by decide +kernel)
set_option maxRecDepth 20000 in
theorem zow17 : Cond.code zm17.1 zm17.2.1 zm17.2.2.1 zm17.2.2.2.1 ∈ zTw := zpw (p := 11) (i := 82) rfl rfl rfl
theorem zok18 : zokC zm18.1 zm18.2.1 0 zc18 = true := zokH_ok (hs := [8198, 8199, 8147, 8008, 8202, 8204, 8205, 8201, 8206]) (by decide +kernel)
theorem zoy18 : zokY zm18 = true := zokYh_ok (a := 8009) (b := 8196) (c := 0) (by decide +kernel)
set_option maxRecDepth 20000 in
theorem zow18 : Cond.code zm18.1 zm18.2.1 zm18.2.2.1 zm18.2.2.2.1 ∈ zTw := zpw (p := 8) (i := 197) rfl rfl rfl
theorem zok19 : zokC zm19.1 zm19.2.1 0 zc19 = true := zokH_ok (hs := [11190, 11191, 8203, 11192, 11197, 11191, 8206, 8203, 11206, 8203, 8206, 11207, 8206]) (by decide +kernel)
theorem zoy19 : zokY zm19 = true := zokYh_ok (a := 8009) (b := 11187) (c := 11188) (by decide +kernel)
set_option maxRecDepth 20000 in
theorem zow19 : Cond.code zm19.1 zm19.2.1 zm19.2.2.1 zm19.2.2.2.1 ∈ zTw := zpw (p := 11) (i := 189) rfl rfl rfl
theorem zok20 : zokC zm20.1 zm20.2.1 0 zc20 = true := zokH_ok (hs := [8206, 8204, 8205, 8206, 11211]) (by decide +kernel)
theorem zoy20 : zokY zm20 = true := zokYh_ok (a := 8009) (b := 11209) (c := 1015) (by decide +kernel)
set_option maxRecDepth 20000 in
theorem zow20 : Cond.code zm20.1 zm20.2.1 zm20.2.2.1 zm20.2.2.2.1 ∈ zTw := zpw (p := 11) (i := 210) rfl rfl rfl
theorem zok21 : zokC zm21.1 zm21.2.1 0 zc21 = true := zokH_ok (hs := [8203, 8204, 8205, 11196, 11197, 11198]) (by decide +kernel)
theorem zoy21 : zokY zm21 = true := zokYh_ok (a := 8009) (b := 11194) (c := 1013) (by decide +kernel)
set_option maxRecDepth 20000 in
theorem zow21 : Cond.code zm21.1 zm21.2.1 zm21.2.2.1 zm21.2.2.2.1 ∈ zTw := zpw (p := 11) (i := 195) rfl rfl rfl
theorem zok22 : zokC zm22.1 zm22.2.1 0 zc22 = true := zokH_ok (hs := [8202, 11202, 8203, 8202, 8153, 11196, 11203, 11196, 11204, 11205, 11196, 8204]) (by decide +kernel)
theorem zoy22 : zokY zm22 = true := zokYh_ok (a := 8009) (b := 11200) (c := 1014) (by decide +kernel)
set_option maxRecDepth 20000 in
theorem zow22 : Cond.code zm22.1 zm22.2.1 zm22.2.2.1 zm22.2.2.2.1 ∈ zTw := zpw (p := 11) (i := 201) rfl rfl rfl
theorem zok23 : zokC zm23.1 zm23.2.1 0 zc23 = true := zokH_ok (hs := [8203, 11216]) (by decide +kernel)
theorem zoy23 : zokY zm23 = true := zokYh_ok (a := 8009) (b := 11213) (c := 11214) (by decide +kernel)
set_option maxRecDepth 20000 in
theorem zow23 : Cond.code zm23.1 zm23.2.1 zm23.2.2.1 zm23.2.2.2.1 ∈ zTw := zpw (p := 11) (i := 215) rfl rfl rfl
theorem zok24 : zokC zm24.1 zm24.2.1 0 zc24 = true := zokH_ok (hs := [8206, 8206, 8204, 8205, 8206, 8206]) (by decide +kernel)
theorem zoy24 : zokY zm24 = true := zokYh_ok (a := 8009) (b := 11218) (c := 2000) (by decide +kernel)
set_option maxRecDepth 20000 in
theorem zow24 : Cond.code zm24.1 zm24.2.1 zm24.2.2.1 zm24.2.2.2.1 ∈ zTw := zpw (p := 11) (i := 219) rfl rfl rfl
theorem zok25 : zokC zm25.1 zm25.2.1 0 zc25 = true := zokH_ok (hs := [10114, 10116, 10115]) (by decide +kernel)
theorem zoy25 : zokY zm25 = true := zokYh_ok (a := 8019) (b := 10112) (c := 0) (by decide +kernel)
set_option maxRecDepth 20000 in
theorem zow25 : Cond.code zm25.1 zm25.2.1 zm25.2.2.1 zm25.2.2.2.1 ∈ zTw := zpw (p := 10) (i := 113) rfl rfl rfl
theorem zok26 : zokC zm26.1 zm26.2.1 0 zc26 = true := zokH_ok (hs := []) (by decide +kernel)
theorem zoy26 : zokY zm26 = true := zokYh_ok (a := 8019) (b := 10068) (c := 0) (by decide +kernel)
set_option maxRecDepth 20000 in
theorem zow26 : Cond.code zm26.1 zm26.2.1 zm26.2.2.1 zm26.2.2.2.1 ∈ zTw := zpw (p := 10) (i := 69) rfl rfl rfl
theorem zok27 : zokC zm27.1 zm27.2.1 0 zc27 = true := zokH_ok (hs := [11103, 11104, 11105, 11106, 11128]) (by decide +kernel)
theorem zoy27 : zokY zm27 = true := zokYh_ok (a := 8019) (b := 11100) (c := 11101) (by decide +kernel)
set_option maxRecDepth 20000 in
theorem zow27 : Cond.code zm27.1 zm27.2.1 zm27.2.2.1 zm27.2.2.2.1 ∈ zTw := zpw (p := 11) (i := 102) rfl rfl rfl
theorem zok28 : zokC zm28.1 zm28.2.1 0 zc28 = true := zokH_ok (hs := [10115, 10115, 10116, 11110, 10116, 10116, 10116, 10116, 10116, 10116, 10116, 10116, 11122]) (by decide +kernel)
theorem zoy28 : zokY zm28 = true := zokYh_ok (a := 8019) (b := 11108) (c := 1007) (by decide +kernel)
set_option maxRecDepth 20000 in
theorem zow28 : Cond.code zm28.1 zm28.2.1 zm28.2.2.1 zm28.2.2.2.1 ∈ zTw := zpw (p := 11) (i := 109) rfl rfl rfl
theorem zok29 : zokC zm29.1 zm29.2.1 0 zc29 = true := zokH_ok (hs := [11125]) (by decide +kernel)
theorem zoy29 : zokY zm29 = true := zokYh_ok (a := 8019) (b := 11123) (c := 0) (by decide +kernel)
set_option maxRecDepth 20000 in
theorem zow29 : Cond.code zm29.1 zm29.2.1 zm29.2.2.1 zm29.2.2.2.1 ∈ zTw := zpw (p := 11) (i := 124) rfl rfl rfl
theorem zok30 : zokC zm30.1 zm30.2.1 0 zc30 = true := zokH_ok (hs := []) (by decide +kernel)
theorem zoy30 : zokY zm30 = true := zokYh_ok (a := 8019) (b := 11126) (c := 0) (by decide +kernel)
set_option maxRecDepth 20000 in
theorem zow30 : Cond.code zm30.1 zm30.2.1 zm30.2.2.1 zm30.2.2.2.1 ∈ zTw := zpw (p := 11) (i := 127) rfl rfl rfl
theorem zok31 : zokC zm31.1 zm31.2.1 0 zc31 = true := zokH_ok (hs := [11113, 11113, 11113, 11113, 11114, 11113, 11115, 11116, 11116, 11120, 11121]) (by decide +kernel)
theorem zoy31 : zokY zm31 = true := zokYh_ok (a := 8019) (b := 11111) (c := 0) (by decide +kernel)
set_option maxRecDepth 20000 in
theorem zow31 : Cond.code zm31.1 zm31.2.1 zm31.2.2.1 zm31.2.2.2.1 ∈ zTw := zpw (p := 11) (i := 112) rfl rfl rfl
theorem zok32 : zokC zm32.1 zm32.2.1 0 zc32 = true := zokH_ok (hs := [8071, 8072, 8074]) (by decide +kernel)
theorem zoy32 : zokY zm32 = true := zokYh_ok (a := 8004) (b := 8069) (c := 0) (by decide +kernel)
set_option maxRecDepth 20000 in
theorem zow32 : Cond.code zm32.1 zm32.2.1 zm32.2.2.1 zm32.2.2.2.1 ∈ zTw := zpw (p := 8) (i := 70) rfl rfl rfl
theorem zok33 : zokC zm33.1 zm33.2.1 0 zc33 = true := zokH_ok (hs := [8073, 8075, 8076, 8077, 8078, 8079, 8080, 8080, 10016, 8080, 10017, 8080, 10024, 8080, 10031, 10052, 10016, 10097, 10098, 8019, 8072, 8073, 10099, 10111]) (by decide +kernel)
theorem zoy33 : zokY zm33 = true := zokYh_ok (a := 8004) (b := 10013) (c := 10014) (by decide +kernel)
set_option maxRecDepth 20000 in
theorem zow33 : Cond.code zm33.1 zm33.2.1 zm33.2.2.1 zm33.2.2.2.1 ∈ zTw := zpw (p := 10) (i := 15) rfl rfl rfl
theorem zok34 : zokC zm34.1 zm34.2.1 0 zc34 = true := zokH_ok (hs := [10022, 8076, 8039, 10023, 8076, 8076, 8081, 8080]) (by decide +kernel)
theorem zoy34 : zokY zm34 = true := zokYh_ok (a := 8004) (b := 10019) (c := 7) (by decide +kernel)
set_option maxRecDepth 20000 in
theorem zow34 : Cond.code zm34.1 zm34.2.1 zm34.2.2.1 zm34.2.2.2.1 ∈ zTw := zpw (p := 10) (i := 20) rfl rfl rfl
theorem zok35 : zokC zm35.1 zm35.2.1 0 zc35 = true := zokH_ok (hs := [10028, 8038, 10030, 8081, 10031, 8078, 10023, 8078, 8078, 10047, 8079, 8079, 10048]) (by decide +kernel)
theorem zoy35 : zokY zm35 = true := zokYh_ok (a := 8004) (b := 10026) (c := 8) (by decide +kernel)
set_option maxRecDepth 20000 in
theorem zow35 : Cond.code zm35.1 zm35.2.1 zm35.2.2.1 zm35.2.2.2.1 ∈ zTw := zpw (p := 10) (i := 27) rfl rfl rfl
theorem zok36 : zokC zm36.1 zm36.2.1 0 zc36 = true := zokH_ok (hs := [10028, 10035, 10036, 10037, 10038, 10022, 10038, 8039, 10043, 8080]) (by decide +kernel)
theorem zoy36 : zokY zm36 = true := zokYh_ok (a := 8004) (b := 10033) (c := 9) (by decide +kernel)
set_option maxRecDepth 20000 in
theorem zow36 : Cond.code zm36.1 zm36.2.1 zm36.2.2.1 zm36.2.2.2.1 ∈ zTw := zpw (p := 10) (i := 34) rfl rfl rfl
theorem zok37 : zokC zm37.1 zm37.2.1 0 zc37 = true := zokH_ok (hs := [8077, 10023, 8077, 8077]) (by decide +kernel)
theorem zoy37 : zokY zm37 = true := zokYh_ok (a := 8004) (b := 10045) (c := 11) (by decide +kernel)
set_option maxRecDepth 20000 in
theorem zow37 : Cond.code zm37.1 zm37.2.1 zm37.2.2.1 zm37.2.2.2.1 ∈ zTw := zpw (p := 10) (i := 46) rfl rfl rfl
theorem zok38 : zokC zm38.1 zm38.2.1 0 zc38 = true := zokH_ok (hs := [8081, 10028, 10056, 10047, 10059, 8080, 8081, 10070, 8081, 10080, 10088]) (by decide +kernel)
theorem zoy38 : zokY zm38 = true := zokYh_ok (a := 8004) (b := 10054) (c := 13) (by decide +kernel)
set_option maxRecDepth 20000 in
theorem zow38 : Cond.code zm38.1 zm38.2.1 zm38.2.2.1 zm38.2.2.2.1 ∈ zTw := zpw (p := 10) (i := 55) rfl rfl rfl
theorem zok39 : zokC zm39.1 zm39.2.1 0 zc39 = true := zokH_ok (hs := []) (by decide +kernel)
theorem zoy39 : zokY zm39 = true := zokYh_ok (a := 8004) (b := 10057) (c := 0) (by decide +kernel)
set_option maxRecDepth 20000 in
theorem zow39 : Cond.code zm39.1 zm39.2.1 zm39.2.2.1 zm39.2.2.2.1 ∈ zTw := zpw (p := 10) (i := 58) rfl rfl rfl
theorem zok40 : zokC zm40.1 zm40.2.1 0 zc40 = true := zokH_ok (hs := [10030, 10063, 8080, 10075]) (by decide +kernel)
theorem zoy40 : zokY zm40 = true := zokYh_ok (a := 8004) (b := 10072) (c := 1000) (by decide +kernel)
set_option maxRecDepth 20000 in
theorem zow40 : Cond.code zm40.1 zm40.2.1 zm40.2.2.1 zm40.2.2.2.1 ∈ zTw := zpw (p := 10) (i := 73) rfl rfl rfl
theorem zok41 : zokC zm41.1 zm41.2.1 0 zc41 = true := zokH_ok (hs := [10028, 8038, 10023, 10043, 10047, 10059, 10084, 10059, 10059, 8081, 8080]) (by decide +kernel)
theorem zoy41 : zokY zm41 = true := zokYh_ok (a := 8004) (b := 10082) (c := 1002) (by decide +kernel)
set_option maxRecDepth 20000 in
theorem zow41 : Cond.code zm41.1 zm41.2.1 zm41.2.2.1 zm41.2.2.2.1 ∈ zTw := zpw (p := 10) (i := 83) rfl rfl rfl
theorem zok42 : zokC zm42.1 zm42.2.1 0 zc42 = true := zokH_ok (hs := [10030, 10059, 8080, 8079, 10075, 10028, 10047, 10093, 8038, 10023]) (by decide +kernel)
theorem zoy42 : zokY zm42 = true := zokYh_ok (a := 8004) (b := 10090) (c := 1003) (by decide +kernel)
set_option maxRecDepth 20000 in
theorem zow42 : Cond.code zm42.1 zm42.2.1 zm42.2.2.1 zm42.2.2.2.1 ∈ zTw := zpw (p := 10) (i := 91) rfl rfl rfl
theorem zok43 : zokC zm43.1 zm43.2.1 0 zc43 = true := zokH_ok (hs := [10063, 8075, 8075, 8075, 8079, 8079, 8078, 8078, 8081]) (by decide +kernel)
theorem zoy43 : zokY zm43 = true := zokYh_ok (a := 8004) (b := 10095) (c := 1004) (by decide +kernel)
set_option maxRecDepth 20000 in
theorem zow43 : Cond.code zm43.1 zm43.2.1 zm43.2.2.1 zm43.2.2.2.1 ∈ zTw := zpw (p := 10) (i := 96) rfl rfl rfl
theorem zok44 : zokC zm44.1 zm44.2.1 0 zc44 = true := zokH_ok (hs := [10063, 10038, 10079, 8080]) (by decide +kernel)
theorem zoy44 : zokY zm44 = true := zokYh_ok (a := 8004) (b := 10077) (c := 1001) (by decide +kernel)
set_option maxRecDepth 20000 in
theorem zow44 : Cond.code zm44.1 zm44.2.1 zm44.2.2.1 zm44.2.2.2.1 ∈ zTw := zpw (p := 10) (i := 78) rfl rfl rfl
theorem zok45 : zokC zm45.1 zm45.2.1 0 zc45 = true := zokH_ok (hs := [10063, 10048]) (by decide +kernel)
theorem zoy45 : zokY zm45 = true := zokYh_ok (a := 8004) (b := 10061) (c := 14) (by decide +kernel)
set_option maxRecDepth 20000 in
theorem zow45 : Cond.code zm45.1 zm45.2.1 zm45.2.2.1 zm45.2.2.2.1 ∈ zTw := zpw (p := 10) (i := 62) rfl rfl rfl
theorem zok46 : zokC zm46.1 zm46.2.1 0 zc46 = true := zokH_ok (hs := [8075, 8074, 8075, 10067, 10067, 8075, 8075, 8074, 8075, 10038, 8074, 8075, 8078, 8078]) (by decide +kernel)
theorem zoy46 : zokY zm46 = true := zokYh_ok (a := 8004) (b := 10065) (c := 15) (by decide +kernel)
set_option maxRecDepth 20000 in
theorem zow46 : Cond.code zm46.1 zm46.2.1 zm46.2.2.1 zm46.2.2.2.1 ∈ zTw := zpw (p := 10) (i := 66) rfl rfl rfl
theorem zok47 : zokC zm47.1 zm47.2.1 0 zc47 = true := zokH_ok (hs := [8075, 8074, 8074, 8075, 8075, 8075]) (by decide +kernel)
theorem zoy47 : zokY zm47 = true := zokYh_ok (a := 8004) (b := 10050) (c := 12) (by decide +kernel)
set_option maxRecDepth 20000 in
theorem zow47 : Cond.code zm47.1 zm47.2.1 zm47.2.2.1 zm47.2.2.2.1 ∈ zTw := zpw (p := 10) (i := 51) rfl rfl rfl
theorem zok48 : zokC zm48.1 zm48.2.1 0 zc48 = true := zokH_ok (hs := [8073, 8072, 8072, 8073, 8073, 8073]) (by decide +kernel)
theorem zoy48 : zokY zm48 = true := zokYh_ok (a := 8004) (b := 10040) (c := 10) (by decide +kernel)
set_option maxRecDepth 20000 in
theorem zow48 : Cond.code zm48.1 zm48.2.1 zm48.2.2.1 zm48.2.2.2.1 ∈ zTw := zpw (p := 10) (i := 41) rfl rfl rfl
