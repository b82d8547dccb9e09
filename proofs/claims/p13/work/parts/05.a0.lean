section
theorem zok0 : zokC zm0.1 zm0.2.1 0 zc0 = true := zokQ_0 (hs := [8151, 8152, 8155, 8157, 8160, 8166]) (by decide +kernel)
theorem zoy0 : zokY zm0 = true := zokYh_ok (a := 8008) (b := 8149) (c := 0) (by decide +kernel)
set_option maxRecDepth 20000 in
theorem zow0 : Cond.code zm0.1 zm0.2.1 zm0.2.2.1 zm0.2.2.2.1 ∈ zTw := zpw (p := 8) (i := 150) rfl rfl rfl
theorem zok1 : zokC zm1.1 zm1.2.1 0 zc1 = true := zokQ_0 (hs := [8152, 11143, 8155, 11143, 8157, 11143, 11144, 11144, 8157, 11145, 8157, 8157, 11145, 8157, 11146, 11152, 11157]) (by decide +kernel)
theorem zoy1 : zokY zm1 = true := zokYh_ok (a := 8008) (b := 11140) (c := 11141) (by decide +kernel)
set_option maxRecDepth 20000 in
theorem zow1 : Cond.code zm1.1 zm1.2.1 zm1.2.2.1 zm1.2.2.2.1 ∈ zTw := zpw (p := 11) (i := 142) rfl rfl rfl
theorem zok2 : zokC zm2.1 zm2.2.1 0 zc2 = true := zokQ_0 (hs := [8152, 8152, 11156, 8155, 8155, 8155]) (by decide +kernel)
theorem zoy2 : zokY zm2 = true := zokYh_ok (a := 8008) (b := 11154) (c := 1008) (by decide +kernel)
set_option maxRecDepth 20000 in
theorem zow2 : Cond.code zm2.1 zm2.2.1 zm2.2.2.1 zm2.2.2.2.1 ∈ zTw := zpw (p := 11) (i := 155) rfl rfl rfl
theorem zok3 : zokC zm3.1 zm3.2.1 0 zc3 = true := zokQ_0 (hs := [11145, 8157, 11161, 11145, 8157]) (by decide +kernel)
theorem zoy3 : zokY zm3 = true := zokYh_ok (a := 8008) (b := 11159) (c := 1009) (by decide +kernel)
set_option maxRecDepth 20000 in
theorem zow3 : Cond.code zm3.1 zm3.2.1 zm3.2.2.1 zm3.2.2.2.1 ∈ zTw := zpw (p := 11) (i := 160) rfl rfl rfl
theorem zok4 : zokC zm4.1 zm4.2.1 0 zc4 = true := zokQ_0 (hs := [12041, 11144, 11144, 12042, 8152]) (by decide +kernel)
theorem zoy4 : zokY zm4 = true := zokYh_ok (a := 8008) (b := 12038) (c := 12039) (by decide +kernel)
set_option maxRecDepth 20000 in
theorem zow4 : Cond.code zm4.1 zm4.2.1 zm4.2.2.1 zm4.2.2.2.1 ∈ zTw := zpw (p := 12) (i := 40) rfl rfl rfl
theorem zok5 : zokC zm5.1 zm5.2.1 0 zc5 = true := zokQ_0 (hs := [11144, 11144, 11167]) (by decide +kernel)
theorem zoy5 : zokY zm5 = true := zokYh_ok (a := 8008) (b := 11164) (c := 11165) (by decide +kernel)
set_option maxRecDepth 20000 in
theorem zow5 : Cond.code zm5.1 zm5.2.1 zm5.2.2.1 zm5.2.2.2.1 ∈ zTw := zpw (p := 11) (i := 166) rfl rfl rfl
theorem zok6 : zokC zm6.1 zm6.2.1 0 zc6 = true := zokQ_0 (hs := [11144, 11144, 11144, 11167]) (by decide +kernel)
theorem zoy6 : zokY zm6 = true := zokYh_ok (a := 8008) (b := 12014) (c := 12015) (by decide +kernel)
set_option maxRecDepth 20000 in
theorem zow6 : Cond.code zm6.1 zm6.2.1 zm6.2.2.1 zm6.2.2.2.1 ∈ zTw := zpw (p := 12) (i := 16) rfl rfl rfl
theorem zok7 : zokC zm7.1 zm7.2.1 0 zc7 = true := zokQ_0 (hs := [8158, 8162, 8164, 8167, 8168, 8169, 11171]) (by decide +kernel)
theorem zoy7 : zokY zm7 = true := zokYh_ok (a := 8008) (b := 11169) (c := 1010) (by decide +kernel)
set_option maxRecDepth 20000 in
theorem zow7 : Cond.code zm7.1 zm7.2.1 zm7.2.2.1 zm7.2.2.2.1 ∈ zTw := zpw (p := 11) (i := 170) rfl rfl rfl
theorem zok8 : zokC zm8.1 zm8.2.1 0 zc8 = true := zokQ_0 (hs := [8169, 8168, 11175, 11145, 11180, 8166, 11171]) (by decide +kernel)
theorem zoy8 : zokY zm8 = true := zokYh_ok (a := 8008) (b := 11173) (c := 1011) (by decide +kernel)
set_option maxRecDepth 20000 in
theorem zow8 : Cond.code zm8.1 zm8.2.1 zm8.2.2.1 zm8.2.2.2.1 ∈ zTw := zpw (p := 11) (i := 174) rfl rfl rfl
theorem zok9 : zokC zm9.1 zm9.2.1 0 zc9 = true := zokQ_0 (hs := [8169, 8166, 8169, 8167, 8169, 8162, 8162, 8158, 8164, 8166, 8160, 11179, 8158, 8158]) (by decide +kernel)
theorem zoy9 : zokY zm9 = true := zokYh_ok (a := 8008) (b := 11177) (c := 1012) (by decide +kernel)
set_option maxRecDepth 20000 in
theorem zow9 : Cond.code zm9.1 zm9.2.1 zm9.2.2.1 zm9.2.2.2.1 ∈ zTw := zpw (p := 11) (i := 178) rfl rfl rfl
theorem zok10 : zokC zm10.1 zm10.2.1 0 zc10 = true := zokQ_0 (hs := [8139]) (by decide +kernel)
theorem zoy10 : zokY zm10 = true := zokYh_ok (a := 8007) (b := 8137) (c := 0) (by decide +kernel)
set_option maxRecDepth 20000 in
theorem zow10 : Cond.code zm10.1 zm10.2.1 zm10.2.2.1 zm10.2.2.2.1 ∈ zTw := zpw (p := 8) (i := 138) rfl rfl rfl
theorem zok11 : zokC zm11.1 zm11.2.1 0 zc11 = true := zokQ_0 (hs := [8140, 12060, 12061, 12062, 8140, 8140, 12063]) (by decide +kernel)
theorem zoy11 : zokY zm11 = true := zokYh_ok (a := 8007) (b := 12058) (c := 2002) (by decide +kernel)
set_option maxRecDepth 20000 in
theorem zow11 : Cond.code zm11.1 zm11.2.1 zm11.2.2.1 zm11.2.2.2.1 ∈ zTw := zpw (p := 12) (i := 59) rfl rfl rfl
theorem zok12 : zokC zm12.1 zm12.2.1 0 zc12 = true := zokQ_0 (hs := [12055, 12056, 12064, 12064, 12065, 12066, 12067]) (by decide +kernel)
theorem zoy12 : zokY zm12 = true := zokYh_ok (a := 8007) (b := 12052) (c := 12053) (by decide +kernel)
set_option maxRecDepth 20000 in
theorem zow12 : Cond.code zm12.1 zm12.2.1 zm12.2.2.1 zm12.2.2.2.1 ∈ zTw := zpw (p := 12) (i := 54) rfl rfl rfl
theorem zok13 : zokC zm13.1 zm13.2.1 0 zc13 = true := zokQ_0 (hs := [8120, 8121, 8123]) (by decide +kernel)
theorem zoy13 : zokY zm13 = true := zokYh_ok (a := 8006) (b := 8118) (c := 0) (by decide +kernel)
set_option maxRecDepth 20000 in
theorem zow13 : Cond.code zm13.1 zm13.2.1 zm13.2.2.1 zm13.2.2.2.1 ∈ zTw := zpw (p := 8) (i := 119) rfl rfl rfl
theorem zok14 : zokC zm14.1 zm14.2.1 0 zc14 = true := zokQ_0 (hs := [8125]) (by decide +kernel)
theorem zoy14 : zokY zm14 = true := zokYh_ok (a := 8006) (b := 11076) (c := 11077) (by decide +kernel)
set_option maxRecDepth 20000 in
theorem zow14 : Cond.code zm14.1 zm14.2.1 zm14.2.2.1 zm14.2.2.2.1 ∈ zTw := zpw (p := 11) (i := 78) rfl rfl rfl
theorem zok15 : zokC zm15.1 zm15.2.1 0 zc15 = true := zokQ_0 (hs := [8125]) (by decide +kernel)
theorem zoy15 : zokY zm15 = true := zokYh_ok (a := 8006) (b := 10003) (c := 10004) (by decide +kernel)
set_option maxRecDepth 20000 in
theorem zow15 : Cond.code zm15.1 zm15.2.1 zm15.2.2.1 zm15.2.2.2.1 ∈ zTw := zpw (p := 10) (i := 5) rfl rfl rfl
theorem zok16 : zokC zm16.1 zm16.2.1 0 zc16 = true := zokQ_0 (hs := [8123, 8124, 10221, 8124, 8124, 8125, 10225, 8125]) (by decide +kernel)
theorem zoy16 : zokY zm16 = true := zokYh_ok (a := 8006) (b := 10218) (c := 10219) (by decide +kernel)
set_option maxRecDepth 20000 in
theorem zow16 : Cond.code zm16.1 zm16.2.1 zm16.2.2.1 zm16.2.2.2.1 ∈ zTw := zpw (p := 10) (i := 220) rfl rfl rfl
theorem zok17 : zokC zm17.1 zm17.2.1 0 zc17 = true := zokQ_0 (hs := [8125, 8124, 8124, 8125, 8125, 8123, 8124, 11083]) (by decide +kernel)
theorem zoy17 : zokY zm17 = true := zokYh_ok (a := 8006) (b := 11080) (c := 11081) (by decide +kernel)
set_option maxRecDepth 20000 in
theorem zow17 : Cond.code zm17.1 zm17.2.1 zm17.2.2.1 zm17.2.2.2.1 ∈ zTw := zpw (p := 11) (i := 82) rfl rfl rfl
theorem zok18 : zokC zm18.1 zm18.2.1 0 zc18 = true := zokQ_0 (hs := [8198, 8199, 8147, 8008, 8202, 8204, 8205, 8201, 8206]) (by decide +kernel)
theorem zoy18 : zokY zm18 = true := zokYh_ok (a := 8009) (b := 8196) (c := 0) (by decide +kernel)
set_option maxRecDepth 20000 in
theorem zow18 : Cond.code zm18.1 zm18.2.1 zm18.2.2.1 zm18.2.2.2.1 ∈ zTw := zpw (p := 8) (i := 197) rfl rfl rfl
theorem zok19 : zokC zm19.1 zm19.2.1 0 zc19 = true := zokQ_0 (hs := [11190, 11191, 8203, 11192, 11197, 11191, 8206, 8203, 11206, 8203, 8206, 11207, 8206]) (by decide +kernel)
theorem zoy19 : zokY zm19 = true := zokYh_ok (a := 8009) (b := 11187) (c := 11188) (by decide +kernel)
set_option maxRecDepth 20000 in
theorem zow19 : Cond.code zm19.1 zm19.2.1 zm19.2.2.1 zm19.2.2.2.1 ∈ zTw := zpw (p := 11) (i := 189) rfl rfl rfl
theorem zok20 : zokC zm20.1 zm20.2.1 0 zc20 = true := zokQ_0 (hs := [8206, 8204, 8205, 8206, 11211]) (by decide +kernel)
theorem zoy20 : zokY zm20 = true := zokYh_ok (a := 8009) (b := 11209) (c := 1015) (by decide +kernel)
set_option maxRecDepth 20000 in
theorem zow20 : Cond.code zm20.1 zm20.2.1 zm20.2.2.1 zm20.2.2.2.1 ∈ zTw := zpw (p := 11) (i := 210) rfl rfl rfl
theorem zok21 : zokC zm21.1 zm21.2.1 0 zc21 = true := zokQ_0 (hs := [8203, 8204, 8205, 11196, 11197, 11198]) (by decide +kernel)
theorem zoy21 : zokY zm21 = true := zokYh_ok (a := 8009) (b := 11194) (c := 1013) (by decide +kernel)
set_option maxRecDepth 20000 in
theorem zow21 : Cond.code zm21.1 zm21.2.1 zm21.2.2.1 zm21.2.2.2.1 ∈ zTw := zpw (p := 11) (i := 195) rfl rfl rfl
theorem zok22 : zokC zm22.1 zm22.2.1 0 zc22 = true := zokQ_0 (hs := [8202, 11202, 8203, 8202, 8153, 11196, 11203, 11196, 11204, 11205, 11196, 8204]) (by decide +kernel)
theorem zoy22 : zokY zm22 = true := zokYh_ok (a := 8009) (b := 11200) (c := 1014) (by decide +kernel)
set_option maxRecDepth 20000 in
theorem zow22 : Cond.code zm22.1 zm22.2.1 zm22.2.2.1 zm22.2.2.2.1 ∈ zTw := zpw (p := 11) (i := 201) rfl rfl rfl
theorem zok23 : zokC zm23.1 zm23.2.1 0 zc23 = true := zokQ_0 (hs := [8203, 11216]) (by decide +kernel)
theorem zoy23 : zokY zm23 = true := zokYh_ok (a := 8009) (b := 11213) (c := 11214) (by decide +kernel)
set_option maxRecDepth 20000 in
theorem zow23 : Cond.code zm23.1 zm23.2.1 zm23.2.2.1 zm23.2.2.2.1 ∈ zTw := zpw (p := 11) (i := 215) rfl rfl rfl
theorem zok24 : zokC zm24.1 zm24.2.1 0 zc24 = true := zokQ_0 (hs := [8206, 8206, 8204, 8205, 8206, 8206]) (by decide +kernel)
theorem zoy24 : zokY zm24 = true := zokYh_ok (a := 8009) (b := 11218) (c := 2000) (by decide +kernel)
set_option maxRecDepth 20000 in
theorem zow24 : Cond.code zm24.1 zm24.2.1 zm24.2.2.1 zm24.2.2.2.1 ∈ zTw := zpw (p := 11) (i := 219) rfl rfl rfl
theorem zok25 : zokC zm25.1 zm25.2.1 0 zc25 = true := zokQ_0 (hs := [10114, 10116, 10115]) (by decide +kernel)
theorem zoy25 : zokY zm25 = true := zokYh_ok (a := 8019) (b := 10112) (c := 0) (by decide +kernel)
set_option maxRecDepth 20000 in
theorem zow25 : Cond.code zm25.1 zm25.2.1 zm25.2.2.1 zm25.2.2.2.1 ∈ zTw := zpw (p := 10) (i := 113) rfl rfl rfl
theorem zok26 : zokC zm26.1 zm26.2.1 0 zc26 = true := zokQ_0 (hs := []) (by decide +kernel)
theorem zoy26 : zokY zm26 = true := zokYh_ok (a := 8019) (b := 10068) (c := 0) (by decide +kernel)
set_option maxRecDepth 20000 in
theorem zow26 : Cond.code zm26.1 zm26.2.1 zm26.2.2.1 zm26.2.2.2.1 ∈ zTw := zpw (p := 10) (i := 69) rfl rfl rfl
theorem zok27 : zokC zm27.1 zm27.2.1 0 zc27 = true := zokQ_0 (hs := [11103, 11104, 11105, 11106, 11128]) (by decide +kernel)
theorem zoy27 : zokY zm27 = true := zokYh_ok (a := 8019) (b := 11100) (c := 11101) (by decide +kernel)
set_option maxRecDepth 20000 in
theorem zow27 : Cond.code zm27.1 zm27.2.1 zm27.2.2.1 zm27.2.2.2.1 ∈ zTw := zpw (p := 11) (i := 102) rfl rfl rfl
theorem zok28 : zokC zm28.1 zm28.2.1 0 zc28 = true := zokQ_0 (hs := [10115, 10115, 10116, 11110, 10116, 10116, 10116, 10116, 10116, 10116, 10116, 10116, 11122]) (by decide +kernel)
theorem zoy28 : zokY zm28 = true := zokYh_ok (a := 8019) (b := 11108) (c := 1007) (by decide +kernel)
set_option maxRecDepth 20000 in
theorem zow28 : Cond.code zm28.1 zm28.2.1 zm28.2.2.1 zm28.2.2.2.1 ∈ zTw := zpw (p := 11) (i := 109) rfl rfl rfl
theorem zok29 : zokC zm29.1 zm29.2.1 0 zc29 = true := zokQ_0 (hs := [11125]) (by decide +kernel)
theorem zoy29 : zokY zm29 = true := zokYh_ok (a := 8019) (b := 11123) (c := 0) (by decide +kernel)
set_option maxRecDepth 20000 in
theorem zow29 : Cond.code zm29.1 zm29.2.1 zm29.2.2.1 zm29.2.2.2.1 ∈ zTw := zpw (p := 11) (i := 124) rfl rfl rfl
theorem zok30 : zokC zm30.1 zm30.2.1 0 zc30 = true := zokQ_0 (hs := []) (by decide +kernel)
theorem zoy30 : zokY zm30 = true := zokYh_ok (a := 8019) (b := 11126) (c := 0) (by decide +kernel)
set_option maxRecDepth 20000 in
theorem zow30 : Cond.code zm30.1 zm30.2.1 zm30.2.2.1 zm30.2.2.2.1 ∈ zTw := zpw (p := 11) (i := 127) rfl rfl rfl
theorem zok31 : zokC zm31.1 zm31.2.1 0 zc31 = true := zokQ_0 (hs := [11113, 11113, 11113, 11113, 11114, 11113, 11115, 11116, 11116, 11120, 11121]) (by decide +kernel)
theorem zoy31 : zokY zm31 = true := zokYh_ok (a := 8019) (b := 11111) (c := 0) (by decide +kernel)
set_option maxRecDepth 20000 in
theorem zow31 : Cond.code zm31.1 zm31.2.1 zm31.2.2.1 zm31.2.2.2.1 ∈ zTw := zpw (p := 11) (i := 112) rfl rfl rfl
theorem zok32 : zokC zm32.1 zm32.2.1 0 zc32 = true := zokQ_0 (hs := [8071, 8072, 8074]) (by decide +kernel)
theorem zoy32 : zokY zm32 = true := zokYh_ok (a := 8004) (b := 8069) (c := 0) (by decide +kernel)
set_option maxRecDepth 20000 in
theorem zow32 : Cond.code zm32.1 zm32.2.1 zm32.2.2.1 zm32.2.2.2.1 ∈ zTw := zpw (p := 8) (i := 70) rfl rfl rfl
theorem zok33 : zokC zm33.1 zm33.2.1 0 zc33 = true := zokQ_0 (hs := [8073, 8075, 8076, 8077, 8078, 8079, 8080, 8080, 10016, 8080, 10017, 8080, 10024, 8080, 10031, 10052, 10016, 10097, 10098, 8019, 8072, 8073, 10099, 10111]) (by decide +kernel)
theorem zoy33 : zokY zm33 = true := zokYh_ok (a := 8004) (b := 10013) (c := 10014) (by decide +kernel)
set_option maxRecDepth 20000 in
theorem zow33 : Cond.code zm33.1 zm33.2.1 zm33.2.2.1 zm33.2.2.2.1 ∈ zTw := zpw (p := 10) (i := 15) rfl rfl rfl
theorem zok34 : zokC zm34.1 zm34.2.1 0 zc34 = true := zokQ_0 (hs := [10022, 8076, 8039, 10023, 8076, 8076, 8081, 8080]) (by decide +kernel)
theorem zoy34 : zokY zm34 = true := zokYh_ok (a := 8004) (b := 10019) (c := 7) (by decide +kernel)
set_option maxRecDepth 20000 in
theorem zow34 : Cond.code zm34.1 zm34.2.1 zm34.2.2.1 zm34.2.2.2.1 ∈ zTw := zpw (p := 10) (i := 20) rfl rfl rfl
theorem zok35 : zokC zm35.1 zm35.2.1 0 zc35 = true := zokQ_0 (hs := [10028, 8038, 10030, 8081, 10031, 8078, 10023, 8078, 8078, 10047, 8079, 8079, 10048]) (by decide +kernel)
theorem zoy35 : zokY zm35 = true := zokYh_ok (a := 8004) (b := 10026) (c := 8) (by decide +kernel)
set_option maxRecDepth 20000 in
theorem zow35 : Cond.code zm35.1 zm35.2.1 zm35.2.2.1 zm35.2.2.2.1 ∈ zTw := zpw (p := 10) (i := 27) rfl rfl rfl
theorem zok36 : zokC zm36.1 zm36.2.1 0 zc36 = true := zokQ_0 (hs := [10028, 10035, 10036, 10037, 10038, 10022, 10038, 8039, 10043, 8080]) (by decide +kernel)
theorem zoy36 : zokY zm36 = true := zokYh_ok (a := 8004) (b := 10033) (c := 9) (by decide +kernel)
set_option maxRecDepth 20000 in
theorem zow36 : Cond.code zm36.1 zm36.2.1 zm36.2.2.1 zm36.2.2.2.1 ∈ zTw := zpw (p := 10) (i := 34) rfl rfl rfl
theorem zok37 : zokC zm37.1 zm37.2.1 0 zc37 = true := zokQ_0 (hs := [8077, 10023, 8077, 8077]) (by decide +kernel)
theorem zoy37 : zokY zm37 = true := zokYh_ok (a := 8004) (b := 10045) (c := 11) (by decide +kernel)
set_option maxRecDepth 20000 in
theorem zow37 : Cond.code zm37.1 zm37.2.1 zm37.2.2.1 zm37.2.2.2.1 ∈ zTw := zpw (p := 10) (i := 46) rfl rfl rfl
theorem zok38 : zokC zm38.1 zm38.2.1 0 zc38 = true := zokQ_0 (hs := [8081, 10028, 10056, 10047, 10059, 8080, 8081, 10070, 8081, 10080, 10088]) (by decide +kernel)
theorem zoy38 : zokY zm38 = true := zokYh_ok (a := 8004) (b := 10054) (c := 13) (by decide +kernel)
set_option maxRecDepth 20000 in
theorem zow38 : Cond.code zm38.1 zm38.2.1 zm38.2.2.1 zm38.2.2.2.1 ∈ zTw := zpw (p := 10) (i := 55) rfl rfl rfl
theorem zok39 : zokC zm39.1 zm39.2.1 0 zc39 = true := zokQ_0 (hs := []) (by decide +kernel)
theorem zoy39 : zokY zm39 = true := zokYh_ok (a := 8004) (b := 10057) (c := 0) (by decide +kernel)
set_option maxRecDepth 20000 in
theorem zow39 : Cond.code zm39.1 zm39.2.1 zm39.2.2.1 zm39.2.2.2.1 ∈ zTw := zpw (p := 10) (i := 58) rfl rfl rfl
theorem zok40 : zokC zm40.1 zm40.2.1 0 zc40 = true := zokQ_0 (hs := [10030, 10063, 8080, 10075]) (by decide +kernel)
theorem zoy40 : zokY zm40 = true := zokYh_ok (a := 8004) (b := 10072) (c := 1000) (by decide +kernel)
set_option maxRecDepth 20000 in
theorem zow40 : Cond.code zm40.1 zm40.2.1 zm40.2.2.1 zm40.2.2.2.1 ∈ zTw := zpw (p := 10) (i := 73) rfl rfl rfl
theorem zok41 : zokC zm41.1 zm41.2.1 0 zc41 = true := zokQ_0 (hs := [10028, 8038, 10023, 10043, 10047, 10059, 10084, 10059, 10059, 8081, 8080]) (by decide +kernel)
theorem zoy41 : zokY zm41 = true := zokYh_ok (a := 8004) (b := 10082) (c := 1002) (by decide +kernel)
set_option maxRecDepth 20000 in
theorem zow41 : Cond.code zm41.1 zm41.2.1 zm41.2.2.1 zm41.2.2.2.1 ∈ zTw := zpw (p := 10) (i := 83) rfl rfl rfl
theorem zok42 : zokC zm42.1 zm42.2.1 0 zc42 = true := zokQ_0 (hs := [10030, 10059, 8080, 8079, 10075, 10028, 10047, 10093, 8038, 10023]) (by decide +kernel)
theorem zoy42 : zokY zm42 = true := zokYh_ok (a := 8004) (b := 10090) (c := 1003) (by decide +kernel)
set_option maxRecDepth 20000 in
theorem zow42 : Cond.code zm42.1 zm42.2.1 zm42.2.2.1 zm42.2.2.2.1 ∈ zTw := zpw (p := 10) (i := 91) rfl rfl rfl
theorem zok43 : zokC zm43.1 zm43.2.1 0 zc43 = true := zokQ_0 (hs := [10063, 8075, 8075, 8075, 8079, 8079, 8078, 8078, 8081]) (by decide +kernel)
theorem zoy43 : zokY zm43 = true := zokYh_ok (a := 8004) (b := 10095) (c := 1004) (by decide +kernel)
set_option maxRecDepth 20000 in
theorem zow43 : Cond.code zm43.1 zm43.2.1 zm43.2.2.1 zm43.2.2.2.1 ∈ zTw := zpw (p := 10) (i := 96) rfl rfl rfl
theorem zok44 : zokC zm44.1 zm44.2.1 0 zc44 = true := zokQ_0 (hs := [10063, 10038, 10079, 8080]) (by decide +kernel)
theorem zoy44 : zokY zm44 = true := zokYh_ok (a := 8004) (b := 10077) (c := 1001) (by decide +kernel)
set_option maxRecDepth 20000 in
theorem zow44 : Cond.code zm44.1 zm44.2.1 zm44.2.2.1 zm44.2.2.2.1 ∈ zTw := zpw (p := 10) (i := 78) rfl rfl rfl
theorem zok45 : zokC zm45.1 zm45.2.1 0 zc45 = true := zokQ_0 (hs := [10063, 10048]) (by decide +kernel)
theorem zoy45 : zokY zm45 = true := zokYh_ok (a := 8004) (b := 10061) (c := 14) (by decide +kernel)
set_option maxRecDepth 20000 in
theorem zow45 : Cond.code zm45.1 zm45.2.1 zm45.2.2.1 zm45.2.2.2.1 ∈ zTw := zpw (p := 10) (i := 62) rfl rfl rfl
theorem zok46 : zokC zm46.1 zm46.2.1 0 zc46 = true := zokQ_0 (hs := [8075, 8074, 8075, 10067, 10067, 8075, 8075, 8074, 8075, 10038, 8074, 8075, 8078, 8078]) (by decide +kernel)
theorem zoy46 : zokY zm46 = true := zokYh_ok (a := 8004) (b := 10065) (c := 15) (by decide +kernel)
set_option maxRecDepth 20000 in
theorem zow46 : Cond.code zm46.1 zm46.2.1 zm46.2.2.1 zm46.2.2.2.1 ∈ zTw := zpw (p := 10) (i := 66) rfl rfl rfl
theorem zok47 : zokC zm47.1 zm47.2.1 0 zc47 = true := zokQ_0 (hs := [8075, 8074, 8074, 8075, 8075, 8075]) (by decide +kernel)
theorem zoy47 : zokY zm47 = true := zokYh_ok (a := 8004) (b := 10050) (c := 12) (by decide +kernel)
set_option maxRecDepth 20000 in
theorem zow47 : Cond.code zm47.1 zm47.2.1 zm47.2.2.1 zm47.2.2.2.1 ∈ zTw := zpw (p := 10) (i := 51) rfl rfl rfl
theorem zok48 : zokC zm48.1 zm48.2.1 0 zc48 = true := zokQ_0 (hs := [8073, 8072, 8072, 8073, 8073, 8073]) (by decide +kernel)
theorem zoy48 : zokY zm48 = true := zokYh_ok (a := 8004) (b := 10040) (c := 10) (by decide +kernel)
set_option maxRecDepth 20000 in
theorem zow48 : Cond.code zm48.1 zm48.2.1 zm48.2.2.1 zm48.2.2.2.1 ∈ zTw := zpw (p := 10) (i := 41) rfl rfl rfl
end
section
theorem zok49 : zokC zm49.1 zm49.2.1 0 zc49 = true := zokQ_0 (hs := [8034, 8035]) (by decide +kernel)
theorem zoy49 : zokY zm49 = true := zokYh_ok (a := 8002) (b := 8032) (c := 0) (by decide +kernel)
set_option maxRecDepth 20000 in
theorem zow49 : Cond.code zm49.1 zm49.2.1 zm49.2.2.1 zm49.2.2.2.1 ∈ zTw := zpw (p := 8) (i := 33) rfl rfl rfl
theorem zok50 : zokC zm50.1 zm50.2.1 0 zc50 = true := zokQ_0 (hs := [8035, 9072, 8036, 8037, 8042]) (by decide +kernel)
theorem zoy50 : zokY zm50 = true := zokYh_ok (a := 8002) (b := 9069) (c := 9070) (by decide +kernel)
set_option maxRecDepth 20000 in
theorem zow50 : Cond.code zm50.1 zm50.2.1 zm50.2.2.1 zm50.2.2.2.1 ∈ zTw := zpw (p := 9) (i := 71) rfl rfl rfl
theorem zok51 : zokC zm51.1 zm51.2.1 0 zc51 = true := zokQ_0 (hs := [8042]) (by decide +kernel)
theorem zoy51 : zokY zm51 = true := zokYh_ok (a := 8002) (b := 9174) (c := 9175) (by decide +kernel)
set_option maxRecDepth 20000 in
theorem zow51 : Cond.code zm51.1 zm51.2.1 zm51.2.2.1 zm51.2.2.2.1 ∈ zTw := zpw (p := 9) (i := 176) rfl rfl rfl
theorem zok52 : zokC zm52.1 zm52.2.1 0 zc52 = true := zokQ_0 (hs := [8042, 8042]) (by decide +kernel)
theorem zoy52 : zokY zm52 = true := zokYh_ok (a := 8002) (b := 9148) (c := 9149) (by decide +kernel)
set_option maxRecDepth 20000 in
theorem zow52 : Cond.code zm52.1 zm52.2.1 zm52.2.2.1 zm52.2.2.2.1 ∈ zTw := zpw (p := 9) (i := 150) rfl rfl rfl
theorem zok53 : zokC zm53.1 zm53.2.1 0 zc53 = true := zokQ_0 (hs := [8037, 8036, 8035, 8037, 8037, 8037, 8037, 8036, 8035, 8037]) (by decide +kernel)
theorem zoy53 : zokY zm53 = true := zokYh_ok (a := 8002) (b := 9093) (c := 9094) (by decide +kernel)
set_option maxRecDepth 20000 in
theorem zow53 : Cond.code zm53.1 zm53.2.1 zm53.2.2.1 zm53.2.2.2.1 ∈ zTw := zpw (p := 9) (i := 95) rfl rfl rfl
theorem zok54 : zokC zm54.1 zm54.2.1 0 zc54 = true := zokQ_0 (hs := [8037, 8037]) (by decide +kernel)
theorem zoy54 : zokY zm54 = true := zokYh_ok (a := 8002) (b := 9231) (c := 9232) (by decide +kernel)
set_option maxRecDepth 20000 in
theorem zow54 : Cond.code zm54.1 zm54.2.1 zm54.2.2.1 zm54.2.2.2.1 ∈ zTw := zpw (p := 9) (i := 233) rfl rfl rfl
theorem zok55 : zokC zm55.1 zm55.2.1 0 zc55 = true := zokQ_0 (hs := [8037, 8036, 8035, 8037, 8037, 8037]) (by decide +kernel)
theorem zoy55 : zokY zm55 = true := zokYh_ok (a := 8002) (b := 10085) (c := 10086) (by decide +kernel)
set_option maxRecDepth 20000 in
theorem zow55 : Cond.code zm55.1 zm55.2.1 zm55.2.2.1 zm55.2.2.2.1 ∈ zTw := zpw (p := 10) (i := 87) rfl rfl rfl
theorem zok56 : zokC zm56.1 zm56.2.1 0 zc56 = true := zokQ_0 (hs := []) (by decide +kernel)
theorem zoy56 : zokY zm56 = true := zokYh_ok (a := 8002) (b := 9186) (c := 0) (by decide +kernel)
set_option maxRecDepth 20000 in
theorem zow56 : Cond.code zm56.1 zm56.2.1 zm56.2.2.1 zm56.2.2.2.1 ∈ zTw := zpw (p := 9) (i := 187) rfl rfl rfl
theorem zok57 : zokC zm57.1 zm57.2.1 0 zc57 = true := zokQ_0 (hs := []) (by decide +kernel)
theorem zoy57 : zokY zm57 = true := zokYh_ok (a := 8002) (b := 9097) (c := 0) (by decide +kernel)
set_option maxRecDepth 20000 in
theorem zow57 : Cond.code zm57.1 zm57.2.1 zm57.2.2.1 zm57.2.2.2.1 ∈ zTw := zpw (p := 9) (i := 98) rfl rfl rfl
theorem zok58 : zokC zm58.1 zm58.2.1 0 zc58 = true := zokQ_0 (hs := [9092, 8037, 8041, 8037, 8036, 8035, 8037, 9185, 8037, 8041, 8035, 8037, 8037, 8037, 8037, 8041, 8041, 9147, 8037, 8041, 8041, 9147]) (by decide +kernel)
theorem zoy58 : zokY zm58 = true := zokYh_ok (a := 8002) (b := 9182) (c := 9183) (by decide +kernel)
set_option maxRecDepth 20000 in
theorem zow58 : Cond.code zm58.1 zm58.2.1 zm58.2.2.1 zm58.2.2.2.1 ∈ zTw := zpw (p := 9) (i := 184) rfl rfl rfl
theorem zok59 : zokC zm59.1 zm59.2.1 0 zc59 = true := zokQ_0 (hs := [9092, 8037, 8041, 8037, 8036, 8035, 9096, 8041, 9099, 9109, 8035, 9109, 8037, 8041]) (by decide +kernel)
theorem zoy59 : zokY zm59 = true := zokYh_ok (a := 8002) (b := 9089) (c := 9090) (by decide +kernel)
set_option maxRecDepth 20000 in
theorem zow59 : Cond.code zm59.1 zm59.2.1 zm59.2.2.1 zm59.2.2.2.1 ∈ zTw := zpw (p := 9) (i := 91) rfl rfl rfl
theorem zok60 : zokC zm60.1 zm60.2.1 0 zc60 = true := zokQ_0 (hs := [9088, 8041, 9147]) (by decide +kernel)
theorem zoy60 : zokY zm60 = true := zokYh_ok (a := 8002) (b := 9085) (c := 9086) (by decide +kernel)
set_option maxRecDepth 20000 in
theorem zow60 : Cond.code zm60.1 zm60.2.1 zm60.2.2.1 zm60.2.2.2.1 ∈ zTw := zpw (p := 9) (i := 87) rfl rfl rfl
theorem zok61 : zokC zm61.1 zm61.2.1 0 zc61 = true := zokQ_0 (hs := [9229, 9092, 9230, 8037, 9147]) (by decide +kernel)
theorem zoy61 : zokY zm61 = true := zokYh_ok (a := 8002) (b := 9226) (c := 9227) (by decide +kernel)
set_option maxRecDepth 20000 in
theorem zow61 : Cond.code zm61.1 zm61.2.1 zm61.2.2.1 zm61.2.2.2.1 ∈ zTw := zpw (p := 9) (i := 228) rfl rfl rfl
theorem zok62 : zokC zm62.1 zm62.2.1 0 zc62 = true := zokQ_0 (hs := [8223, 8224, 8228]) (by decide +kernel)
theorem zoy62 : zokY zm62 = true := zokYh_ok (a := 8010) (b := 8221) (c := 0) (by decide +kernel)
set_option maxRecDepth 20000 in
theorem zow62 : Cond.code zm62.1 zm62.2.1 zm62.2.2.1 zm62.2.2.2.1 ∈ zTw := zpw (p := 8) (i := 222) rfl rfl rfl
theorem zok63 : zokC zm63.1 zm63.2.1 0 zc63 = true := zokQ_0 (hs := [11038, 8226, 11038, 8224, 11039, 8226]) (by decide +kernel)
theorem zoy63 : zokY zm63 = true := zokYh_ok (a := 8010) (b := 11035) (c := 11036) (by decide +kernel)
set_option maxRecDepth 20000 in
theorem zow63 : Cond.code zm63.1 zm63.2.1 zm63.2.2.1 zm63.2.2.2.1 ∈ zTw := zpw (p := 11) (i := 37) rfl rfl rfl
theorem zok64 : zokC zm64.1 zm64.2.1 0 zc64 = true := zokQ_0 (hs := [8226, 8224, 11043, 8224, 11038, 11043, 8224, 11039]) (by decide +kernel)
theorem zoy64 : zokY zm64 = true := zokYh_ok (a := 8010) (b := 11041) (c := 1005) (by decide +kernel)
set_option maxRecDepth 20000 in
theorem zow64 : Cond.code zm64.1 zm64.2.1 zm64.2.2.1 zm64.2.2.2.1 ∈ zTw := zpw (p := 11) (i := 42) rfl rfl rfl
theorem zok65 : zokC zm65.1 zm65.2.1 0 zc65 = true := zokQ_0 (hs := [8226, 8226, 8224, 8224, 8224, 8224, 11043, 11048]) (by decide +kernel)
theorem zoy65 : zokY zm65 = true := zokYh_ok (a := 8010) (b := 11045) (c := 11046) (by decide +kernel)
set_option maxRecDepth 20000 in
theorem zow65 : Cond.code zm65.1 zm65.2.1 zm65.2.2.1 zm65.2.2.2.1 ∈ zTw := zpw (p := 11) (i := 47) rfl rfl rfl
theorem zok66 : zokC zm66.1 zm66.2.1 0 zc66 = true := zokQ_0 (hs := [11038, 8228, 11043, 8228, 8228, 8228, 8228, 8228]) (by decide +kernel)
theorem zoy66 : zokY zm66 = true := zokYh_ok (a := 8010) (b := 11238) (c := 11239) (by decide +kernel)
set_option maxRecDepth 20000 in
theorem zow66 : Cond.code zm66.1 zm66.2.1 zm66.2.2.1 zm66.2.2.2.1 ∈ zTw := zpw (p := 12) (i := 0) rfl rfl rfl
theorem zok67 : zokC zm67.1 zm67.2.1 0 zc67 = true := zokQ_0 (hs := [8108, 8109]) (by decide +kernel)
theorem zoy67 : zokY zm67 = true := zokYh_ok (a := 8005) (b := 8106) (c := 0) (by decide +kernel)
set_option maxRecDepth 20000 in
theorem zow67 : Cond.code zm67.1 zm67.2.1 zm67.2.2.1 zm67.2.2.2.1 ∈ zTw := zpw (p := 8) (i := 107) rfl rfl rfl
theorem zok68 : zokC zm68.1 zm68.2.1 0 zc68 = true := zokQ_0 (hs := [8109, 9239]) (by decide +kernel)
theorem zoy68 : zokY zm68 = true := zokYh_ok (a := 8005) (b := 10222) (c := 10223) (by decide +kernel)
set_option maxRecDepth 20000 in
theorem zow68 : Cond.code zm68.1 zm68.2.1 zm68.2.2.1 zm68.2.2.2.1 ∈ zTw := zpw (p := 10) (i := 224) rfl rfl rfl
theorem zok69 : zokC zm69.1 zm69.2.1 0 zc69 = true := zokQ_0 (hs := [8109, 9239]) (by decide +kernel)
theorem zoy69 : zokY zm69 = true := zokYh_ok (a := 8005) (b := 11084) (c := 11085) (by decide +kernel)
set_option maxRecDepth 20000 in
theorem zow69 : Cond.code zm69.1 zm69.2.1 zm69.2.2.1 zm69.2.2.2.1 ∈ zTw := zpw (p := 11) (i := 86) rfl rfl rfl
theorem zok70 : zokC zm70.1 zm70.2.1 0 zc70 = true := zokQ_0 (hs := [8109, 8109, 9239]) (by decide +kernel)
theorem zoy70 : zokY zm70 = true := zokYh_ok (a := 8005) (b := 9236) (c := 9237) (by decide +kernel)
set_option maxRecDepth 20000 in
theorem zow70 : Cond.code zm70.1 zm70.2.1 zm70.2.2.1 zm70.2.2.2.1 ∈ zTw := zpw (p := 9) (i := 238) rfl rfl rfl
theorem zok71 : zokC zm71.1 zm71.2.1 0 zc71 = true := zokQ_0 (hs := [8109, 9196, 8109, 8109]) (by decide +kernel)
theorem zoy71 : zokY zm71 = true := zokYh_ok (a := 8005) (b := 9193) (c := 9194) (by decide +kernel)
set_option maxRecDepth 20000 in
theorem zow71 : Cond.code zm71.1 zm71.2.1 zm71.2.2.1 zm71.2.2.2.1 ∈ zTw := zpw (p := 9) (i := 195) rfl rfl rfl
theorem zok72 : zokC zm72.1 zm72.2.1 0 zc72 = true := zokQ_0 (hs := [9203, 9204, 9204, 9204, 9204, 8109]) (by decide +kernel)
theorem zoy72 : zokY zm72 = true := zokYh_ok (a := 8005) (b := 9200) (c := 9201) (by decide +kernel)
set_option maxRecDepth 20000 in
theorem zow72 : Cond.code zm72.1 zm72.2.1 zm72.2.2.1 zm72.2.2.2.1 ∈ zTw := zpw (p := 9) (i := 202) rfl rfl rfl
theorem zok73 : zokC zm73.1 zm73.2.1 0 zc73 = true := zokQ_0 (hs := [9216, 9217, 9217, 9217, 9217, 9217, 8109]) (by decide +kernel)
theorem zoy73 : zokY zm73 = true := zokYh_ok (a := 8005) (b := 9213) (c := 9214) (by decide +kernel)
set_option maxRecDepth 20000 in
theorem zow73 : Cond.code zm73.1 zm73.2.1 zm73.2.2.1 zm73.2.2.2.1 ∈ zTw := zpw (p := 9) (i := 215) rfl rfl rfl
theorem zok74 : zokC zm74.1 zm74.2.1 0 zc74 = true := zokQ_0 (hs := [8109]) (by decide +kernel)
theorem zoy74 : zokY zm74 = true := zokYh_ok (a := 8005) (b := 9209) (c := 9210) (by decide +kernel)
set_option maxRecDepth 20000 in
theorem zow74 : Cond.code zm74.1 zm74.2.1 zm74.2.2.1 zm74.2.2.2.1 ∈ zTw := zpw (p := 9) (i := 211) rfl rfl rfl
theorem zok75 : zokC zm75.1 zm75.2.1 0 zc75 = true := zokQ_0 (hs := [8109]) (by decide +kernel)
theorem zoy75 : zokY zm75 = true := zokYh_ok (a := 8005) (b := 9222) (c := 9223) (by decide +kernel)
set_option maxRecDepth 20000 in
theorem zow75 : Cond.code zm75.1 zm75.2.1 zm75.2.2.1 zm75.2.2.2.1 ∈ zTw := zpw (p := 9) (i := 224) rfl rfl rfl
theorem zok76 : zokC zm76.1 zm76.2.1 0 zc76 = true := zokQ_0 (hs := [10194]) (by decide +kernel)
theorem zoy76 : zokY zm76 = true := zokYh_ok (a := 8005) (b := 11059) (c := 11060) (by decide +kernel)
set_option maxRecDepth 20000 in
theorem zow76 : Cond.code zm76.1 zm76.2.1 zm76.2.2.1 zm76.2.2.2.1 ∈ zTw := zpw (p := 11) (i := 61) rfl rfl rfl
theorem zok77 : zokC zm77.1 zm77.2.1 0 zc77 = true := zokQ_0 (hs := [8109]) (by decide +kernel)
theorem zoy77 : zokY zm77 = true := zokYh_ok (a := 8005) (b := 9164) (c := 9165) (by decide +kernel)
set_option maxRecDepth 20000 in
theorem zow77 : Cond.code zm77.1 zm77.2.1 zm77.2.2.1 zm77.2.2.2.1 ∈ zTw := zpw (p := 9) (i := 166) rfl rfl rfl
theorem zok78 : zokC zm78.1 zm78.2.1 0 zc78 = true := zokQ_0 (hs := [8109]) (by decide +kernel)
theorem zoy78 : zokY zm78 = true := zokYh_ok (a := 8005) (b := 10152) (c := 10153) (by decide +kernel)
set_option maxRecDepth 20000 in
theorem zow78 : Cond.code zm78.1 zm78.2.1 zm78.2.2.1 zm78.2.2.2.1 ∈ zTw := zpw (p := 10) (i := 154) rfl rfl rfl
theorem zok79 : zokC zm79.1 zm79.2.1 0 zc79 = true := zokQ_0 (hs := [8109]) (by decide +kernel)
theorem zoy79 : zokY zm79 = true := zokYh_ok (a := 8005) (b := 9155) (c := 9156) (by decide +kernel)
set_option maxRecDepth 20000 in
theorem zow79 : Cond.code zm79.1 zm79.2.1 zm79.2.2.1 zm79.2.2.2.1 ∈ zTw := zpw (p := 9) (i := 157) rfl rfl rfl
theorem zok80 : zokC zm80.1 zm80.2.1 0 zc80 = true := zokQ_0 (hs := [8109]) (by decide +kernel)
theorem zoy80 : zokY zm80 = true := zokYh_ok (a := 8005) (b := 9159) (c := 9160) (by decide +kernel)
set_option maxRecDepth 20000 in
theorem zow80 : Cond.code zm80.1 zm80.2.1 zm80.2.2.1 zm80.2.2.2.1 ∈ zTw := zpw (p := 9) (i := 161) rfl rfl rfl
theorem zok81 : zokC zm81.1 zm81.2.1 0 zc81 = true := zokQ_0 (hs := [8109]) (by decide +kernel)
theorem zoy81 : zokY zm81 = true := zokYh_ok (a := 8005) (b := 11015) (c := 11016) (by decide +kernel)
set_option maxRecDepth 20000 in
theorem zow81 : Cond.code zm81.1 zm81.2.1 zm81.2.2.1 zm81.2.2.2.1 ∈ zTw := zpw (p := 11) (i := 17) rfl rfl rfl
theorem zok82 : zokC zm82.1 zm82.2.1 0 zc82 = true := zokQ_0 (hs := [8109]) (by decide +kernel)
theorem zoy82 : zokY zm82 = true := zokYh_ok (a := 8005) (b := 11096) (c := 11097) (by decide +kernel)
set_option maxRecDepth 20000 in
theorem zow82 : Cond.code zm82.1 zm82.2.1 zm82.2.2.1 zm82.2.2.2.1 ∈ zTw := zpw (p := 11) (i := 98) rfl rfl rfl
theorem zok83 : zokC zm83.1 zm83.2.1 0 zc83 = true := zokQ_0 (hs := [9203]) (by decide +kernel)
theorem zoy83 : zokY zm83 = true := zokYh_ok (a := 8005) (b := 10128) (c := 10129) (by decide +kernel)
set_option maxRecDepth 20000 in
theorem zow83 : Cond.code zm83.1 zm83.2.1 zm83.2.2.1 zm83.2.2.2.1 ∈ zTw := zpw (p := 10) (i := 130) rfl rfl rfl
theorem zok84 : zokC zm84.1 zm84.2.1 0 zc84 = true := zokQ_0 (hs := [9216]) (by decide +kernel)
theorem zoy84 : zokY zm84 = true := zokYh_ok (a := 8005) (b := 10165) (c := 10166) (by decide +kernel)
set_option maxRecDepth 20000 in
theorem zow84 : Cond.code zm84.1 zm84.2.1 zm84.2.2.1 zm84.2.2.2.1 ∈ zTw := zpw (p := 10) (i := 167) rfl rfl rfl
theorem zok85 : zokC zm85.1 zm85.2.1 0 zc85 = true := zokQ_0 (hs := [10194]) (by decide +kernel)
theorem zoy85 : zokY zm85 = true := zokYh_ok (a := 8005) (b := 10191) (c := 10192) (by decide +kernel)
set_option maxRecDepth 20000 in
theorem zow85 : Cond.code zm85.1 zm85.2.1 zm85.2.2.1 zm85.2.2.2.1 ∈ zTw := zpw (p := 10) (i := 193) rfl rfl rfl
theorem zok86 : zokC zm86.1 zm86.2.1 0 zc86 = true := zokQ_0 (hs := [10190, 10190]) (by decide +kernel)
theorem zoy86 : zokY zm86 = true := zokYh_ok (a := 8005) (b := 10187) (c := 10188) (by decide +kernel)
set_option maxRecDepth 20000 in
theorem zow86 : Cond.code zm86.1 zm86.2.1 zm86.2.2.1 zm86.2.2.2.1 ∈ zTw := zpw (p := 10) (i := 189) rfl rfl rfl
theorem zok87 : zokC zm87.1 zm87.2.1 0 zc87 = true := zokQ_0 (hs := [8109]) (by decide +kernel)
theorem zoy87 : zokY zm87 = true := zokYh_ok (a := 8005) (b := 10144) (c := 10145) (by decide +kernel)
set_option maxRecDepth 20000 in
theorem zow87 : Cond.code zm87.1 zm87.2.1 zm87.2.2.1 zm87.2.2.2.1 ∈ zTw := zpw (p := 10) (i := 146) rfl rfl rfl
theorem zok88 : zokC zm88.1 zm88.2.1 0 zc88 = true := zokQ_0 (hs := [8109]) (by decide +kernel)
theorem zoy88 : zokY zm88 = true := zokYh_ok (a := 8005) (b := 9206) (c := 5) (by decide +kernel)
set_option maxRecDepth 20000 in
theorem zow88 : Cond.code zm88.1 zm88.2.1 zm88.2.2.1 zm88.2.2.2.1 ∈ zTw := zpw (p := 9) (i := 207) rfl rfl rfl
theorem zok89 : zokC zm89.1 zm89.2.1 0 zc89 = true := zokQ_0 (hs := [8109]) (by decide +kernel)
theorem zoy89 : zokY zm89 = true := zokYh_ok (a := 8005) (b := 10177) (c := 10178) (by decide +kernel)
set_option maxRecDepth 20000 in
theorem zow89 : Cond.code zm89.1 zm89.2.1 zm89.2.2.1 zm89.2.2.2.1 ∈ zTw := zpw (p := 10) (i := 179) rfl rfl rfl
theorem zok90 : zokC zm90.1 zm90.2.1 0 zc90 = true := zokQ_0 (hs := [8109]) (by decide +kernel)
theorem zoy90 : zokY zm90 = true := zokYh_ok (a := 8005) (b := 9219) (c := 6) (by decide +kernel)
set_option maxRecDepth 20000 in
theorem zow90 : Cond.code zm90.1 zm90.2.1 zm90.2.2.1 zm90.2.2.2.1 ∈ zTw := zpw (p := 9) (i := 220) rfl rfl rfl
theorem zok91 : zokC zm91.1 zm91.2.1 0 zc91 = true := zokQ_0 (hs := [8109]) (by decide +kernel)
theorem zoy91 : zokY zm91 = true := zokYh_ok (a := 8005) (b := 10200) (c := 10201) (by decide +kernel)
set_option maxRecDepth 20000 in
theorem zow91 : Cond.code zm91.1 zm91.2.1 zm91.2.2.1 zm91.2.2.2.1 ∈ zTw := zpw (p := 10) (i := 202) rfl rfl rfl
theorem zok92 : zokC zm92.1 zm92.2.1 0 zc92 = true := zokQ_0 (hs := [10199]) (by decide +kernel)
theorem zoy92 : zokY zm92 = true := zokYh_ok (a := 8005) (b := 10196) (c := 10197) (by decide +kernel)
set_option maxRecDepth 20000 in
theorem zow92 : Cond.code zm92.1 zm92.2.1 zm92.2.2.1 zm92.2.2.2.1 ∈ zTw := zpw (p := 10) (i := 198) rfl rfl rfl
theorem zok93 : zokC zm93.1 zm93.2.1 0 zc93 = true := zokQ_0 (hs := [10216, 10216]) (by decide +kernel)
theorem zoy93 : zokY zm93 = true := zokYh_ok (a := 8005) (b := 11023) (c := 11024) (by decide +kernel)
set_option maxRecDepth 20000 in
theorem zow93 : Cond.code zm93.1 zm93.2.1 zm93.2.2.1 zm93.2.2.2.1 ∈ zTw := zpw (p := 11) (i := 25) rfl rfl rfl
theorem zok94 : zokC zm94.1 zm94.2.1 0 zc94 = true := zokQ_0 (hs := [8109]) (by decide +kernel)
theorem zoy94 : zokY zm94 = true := zokYh_ok (a := 8005) (b := 10204) (c := 10205) (by decide +kernel)
set_option maxRecDepth 20000 in
theorem zow94 : Cond.code zm94.1 zm94.2.1 zm94.2.2.1 zm94.2.2.2.1 ∈ zTw := zpw (p := 10) (i := 206) rfl rfl rfl
theorem zok95 : zokC zm95.1 zm95.2.1 0 zc95 = true := zokQ_0 (hs := [10194, 10230, 10230]) (by decide +kernel)
theorem zoy95 : zokY zm95 = true := zokYh_ok (a := 8005) (b := 12006) (c := 12007) (by decide +kernel)
set_option maxRecDepth 20000 in
theorem zow95 : Cond.code zm95.1 zm95.2.1 zm95.2.2.1 zm95.2.2.2.1 ∈ zTw := zpw (p := 12) (i := 8) rfl rfl rfl
theorem zok96 : zokC zm96.1 zm96.2.1 0 zc96 = true := zokQ_0 (hs := [8109]) (by decide +kernel)
theorem zoy96 : zokY zm96 = true := zokYh_ok (a := 8005) (b := 12075) (c := 12076) (by decide +kernel)
set_option maxRecDepth 20000 in
theorem zow96 : Cond.code zm96.1 zm96.2.1 zm96.2.2.1 zm96.2.2.2.1 ∈ zTw := zpw (p := 12) (i := 77) rfl rfl rfl
theorem zok97 : zokC zm97.1 zm97.2.1 0 zc97 = true := zokQ_0 (hs := [10143, 10143]) (by decide +kernel)
theorem zoy97 : zokY zm97 = true := zokYh_ok (a := 8005) (b := 10140) (c := 10141) (by decide +kernel)
set_option maxRecDepth 20000 in
theorem zow97 : Cond.code zm97.1 zm97.2.1 zm97.2.2.1 zm97.2.2.2.1 ∈ zTw := zpw (p := 10) (i := 142) rfl rfl rfl
end
section
theorem zok98 : zokC zm98.1 zm98.2.1 0 zc98 = true := zokQ_0 (hs := [10143, 10151, 10155]) (by decide +kernel)
theorem zoy98 : zokY zm98 = true := zokYh_ok (a := 8005) (b := 10148) (c := 10149) (by decide +kernel)
set_option maxRecDepth 20000 in
theorem zow98 : Cond.code zm98.1 zm98.2.1 zm98.2.2.1 zm98.2.2.2.1 ∈ zTw := zpw (p := 10) (i := 150) rfl rfl rfl
theorem zok99 : zokC zm99.1 zm99.2.1 0 zc99 = true := zokQ_0 (hs := [10135]) (by decide +kernel)
theorem zoy99 : zokY zm99 = true := zokYh_ok (a := 8005) (b := 10132) (c := 10133) (by decide +kernel)
set_option maxRecDepth 20000 in
theorem zow99 : Cond.code zm99.1 zm99.2.1 zm99.2.2.1 zm99.2.2.2.1 ∈ zTw := zpw (p := 10) (i := 134) rfl rfl rfl
theorem zok100 : zokC zm100.1 zm100.2.1 0 zc100 = true := zokQ_0 (hs := [10139, 10143, 10143, 10147, 10155]) (by decide +kernel)
theorem zoy100 : zokY zm100 = true := zokYh_ok (a := 8005) (b := 10136) (c := 10137) (by decide +kernel)
set_option maxRecDepth 20000 in
theorem zow100 : Cond.code zm100.1 zm100.2.1 zm100.2.2.1 zm100.2.2.2.1 ∈ zTw := zpw (p := 10) (i := 138) rfl rfl rfl
theorem zok101 : zokC zm101.1 zm101.2.1 0 zc101 = true := zokQ_0 (hs := [10143, 10143, 10216]) (by decide +kernel)
theorem zoy101 : zokY zm101 = true := zokYh_ok (a := 8005) (b := 10213) (c := 10214) (by decide +kernel)
set_option maxRecDepth 20000 in
theorem zow101 : Cond.code zm101.1 zm101.2.1 zm101.2.2.1 zm101.2.2.2.1 ∈ zTw := zpw (p := 10) (i := 215) rfl rfl rfl
theorem zok102 : zokC zm102.1 zm102.2.1 0 zc102 = true := zokQ_0 (hs := [10143, 10230, 10231, 10232, 10143, 9204, 9204]) (by decide +kernel)
theorem zoy102 : zokY zm102 = true := zokYh_ok (a := 8005) (b := 10227) (c := 10228) (by decide +kernel)
set_option maxRecDepth 20000 in
theorem zow102 : Cond.code zm102.1 zm102.2.1 zm102.2.2.1 zm102.2.2.2.1 ∈ zTw := zpw (p := 10) (i := 229) rfl rfl rfl
theorem zok103 : zokC zm103.1 zm103.2.1 0 zc103 = true := zokQ_0 (hs := [10143, 11002]) (by decide +kernel)
theorem zoy103 : zokY zm103 = true := zokYh_ok (a := 8005) (b := 10239) (c := 11000) (by decide +kernel)
set_option maxRecDepth 20000 in
theorem zow103 : Cond.code zm103.1 zm103.2.1 zm103.2.2.1 zm103.2.2.2.1 ∈ zTw := zpw (p := 11) (i := 1) rfl rfl rfl
theorem zok104 : zokC zm104.1 zm104.2.1 0 zc104 = true := zokQ_0 (hs := [9204, 9204, 9204, 9204]) (by decide +kernel)
theorem zoy104 : zokY zm104 = true := zokYh_ok (a := 8005) (b := 11003) (c := 11004) (by decide +kernel)
set_option maxRecDepth 20000 in
theorem zow104 : Cond.code zm104.1 zm104.2.1 zm104.2.2.1 zm104.2.2.2.1 ∈ zTw := zpw (p := 11) (i := 5) rfl rfl rfl
theorem zok105 : zokC zm105.1 zm105.2.1 0 zc105 = true := zokQ_0 (hs := [8109, 8109]) (by decide +kernel)
theorem zoy105 : zokY zm105 = true := zokYh_ok (a := 8005) (b := 11027) (c := 11028) (by decide +kernel)
set_option maxRecDepth 20000 in
theorem zow105 : Cond.code zm105.1 zm105.2.1 zm105.2.2.1 zm105.2.2.2.1 ∈ zTw := zpw (p := 11) (i := 29) rfl rfl rfl
theorem zok106 : zokC zm106.1 zm106.2.1 0 zc106 = true := zokQ_0 (hs := [10176]) (by decide +kernel)
theorem zoy106 : zokY zm106 = true := zokYh_ok (a := 8005) (b := 10173) (c := 10174) (by decide +kernel)
set_option maxRecDepth 20000 in
theorem zow106 : Cond.code zm106.1 zm106.2.1 zm106.2.2.1 zm106.2.2.2.1 ∈ zTw := zpw (p := 10) (i := 175) rfl rfl rfl
theorem zok107 : zokC zm107.1 zm107.2.1 0 zc107 = true := zokQ_0 (hs := [10172, 9203, 10143, 10176, 10143, 10176, 10180, 10176]) (by decide +kernel)
theorem zoy107 : zokY zm107 = true := zokYh_ok (a := 8005) (b := 10169) (c := 10170) (by decide +kernel)
set_option maxRecDepth 20000 in
theorem zow107 : Cond.code zm107.1 zm107.2.1 zm107.2.2.1 zm107.2.2.2.1 ∈ zTw := zpw (p := 10) (i := 171) rfl rfl rfl
theorem zok108 : zokC zm108.1 zm108.2.1 0 zc108 = true := zokQ_0 (hs := [10176, 11014, 9217, 8109]) (by decide +kernel)
theorem zoy108 : zokY zm108 = true := zokYh_ok (a := 8005) (b := 11011) (c := 11012) (by decide +kernel)
set_option maxRecDepth 20000 in
theorem zow108 : Cond.code zm108.1 zm108.2.1 zm108.2.2.1 zm108.2.2.2.1 ∈ zTw := zpw (p := 11) (i := 13) rfl rfl rfl
theorem zok109 : zokC zm109.1 zm109.2.1 0 zc109 = true := zokQ_0 (hs := [9216, 11133, 11134]) (by decide +kernel)
theorem zoy109 : zokY zm109 = true := zokYh_ok (a := 8005) (b := 11130) (c := 11131) (by decide +kernel)
set_option maxRecDepth 20000 in
theorem zow109 : Cond.code zm109.1 zm109.2.1 zm109.2.2.1 zm109.2.2.2.1 ∈ zTw := zpw (p := 11) (i := 132) rfl rfl rfl
theorem zok110 : zokC zm110.1 zm110.2.1 0 zc110 = true := zokQ_0 (hs := [9216, 10172]) (by decide +kernel)
theorem zoy110 : zokY zm110 = true := zokYh_ok (a := 8005) (b := 12026) (c := 12027) (by decide +kernel)
set_option maxRecDepth 20000 in
theorem zow110 : Cond.code zm110.1 zm110.2.1 zm110.2.2.1 zm110.2.2.2.1 ∈ zTw := zpw (p := 12) (i := 28) rfl rfl rfl
theorem zok111 : zokC zm111.1 zm111.2.1 0 zc111 = true := zokQ_0 (hs := [12025, 9216]) (by decide +kernel)
theorem zoy111 : zokY zm111 = true := zokYh_ok (a := 8005) (b := 12022) (c := 12023) (by decide +kernel)
set_option maxRecDepth 20000 in
theorem zow111 : Cond.code zm111.1 zm111.2.1 zm111.2.2.1 zm111.2.2.2.1 ∈ zTw := zpw (p := 12) (i := 24) rfl rfl rfl
theorem zok112 : zokC zm112.1 zm112.2.1 0 zc112 = true := zokQ_0 (hs := [9203, 10139, 10143, 9204, 8109, 11014, 10231]) (by decide +kernel)
theorem zoy112 : zokY zm112 = true := zokYh_ok (a := 8005) (b := 11064) (c := 11065) (by decide +kernel)
set_option maxRecDepth 20000 in
theorem zow112 : Cond.code zm112.1 zm112.2.1 zm112.2.2.1 zm112.2.2.2.1 ∈ zTw := zpw (p := 11) (i := 66) rfl rfl rfl
theorem zok113 : zokC zm113.1 zm113.2.1 0 zc113 = true := zokQ_0 (hs := [9203, 10147]) (by decide +kernel)
theorem zoy113 : zokY zm113 = true := zokYh_ok (a := 8005) (b := 11068) (c := 11069) (by decide +kernel)
set_option maxRecDepth 20000 in
theorem zow113 : Cond.code zm113.1 zm113.2.1 zm113.2.2.1 zm113.2.2.2.1 ∈ zTw := zpw (p := 11) (i := 70) rfl rfl rfl
theorem zok114 : zokC zm114.1 zm114.2.1 0 zc114 = true := zokQ_0 (hs := [9216, 10176, 10176, 10176, 10143, 10176, 10155]) (by decide +kernel)
theorem zoy114 : zokY zm114 = true := zokYh_ok (a := 8005) (b := 11117) (c := 11118) (by decide +kernel)
set_option maxRecDepth 20000 in
theorem zow114 : Cond.code zm114.1 zm114.2.1 zm114.2.2.1 zm114.2.2.2.1 ∈ zTw := zpw (p := 11) (i := 119) rfl rfl rfl
theorem zok115 : zokC zm115.1 zm115.2.1 0 zc115 = true := zokQ_0 (hs := [8061, 8062]) (by decide +kernel)
theorem zoy115 : zokY zm115 = true := zokYh_ok (a := 8003) (b := 8059) (c := 0) (by decide +kernel)
set_option maxRecDepth 20000 in
theorem zow115 : Cond.code zm115.1 zm115.2.1 zm115.2.2.1 zm115.2.2.2.1 ∈ zTw := zpw (p := 8) (i := 60) rfl rfl rfl
theorem zok116 : zokC zm116.1 zm116.2.1 0 zc116 = true := zokQ_0 (hs := [9079, 9225]) (by decide +kernel)
theorem zoy116 : zokY zm116 = true := zokYh_ok (a := 8003) (b := 9076) (c := 9077) (by decide +kernel)
set_option maxRecDepth 20000 in
theorem zow116 : Cond.code zm116.1 zm116.2.1 zm116.2.2.1 zm116.2.2.2.1 ∈ zTw := zpw (p := 9) (i := 78) rfl rfl rfl
theorem zok117 : zokC zm117.1 zm117.2.1 0 zc117 = true := zokQ_0 (hs := [9084, 9151, 8040, 9162, 9163, 9167, 9173, 9188]) (by decide +kernel)
theorem zoy117 : zokY zm117 = true := zokYh_ok (a := 8003) (b := 9081) (c := 2) (by decide +kernel)
set_option maxRecDepth 20000 in
theorem zow117 : Cond.code zm117.1 zm117.2.1 zm117.2.2.1 zm117.2.2.2.1 ∈ zTw := zpw (p := 9) (i := 82) rfl rfl rfl
theorem zok118 : zokC zm118.1 zm118.2.1 0 zc118 = true := zokQ_0 (hs := [9154, 9158]) (by decide +kernel)
theorem zoy118 : zokY zm118 = true := zokYh_ok (a := 8003) (b := 9152) (c := 0) (by decide +kernel)
set_option maxRecDepth 20000 in
theorem zow118 : Cond.code zm118.1 zm118.2.1 zm118.2.2.1 zm118.2.2.2.1 ∈ zTw := zpw (p := 9) (i := 153) rfl rfl rfl
theorem zok119 : zokC zm119.1 zm119.2.1 0 zc119 = true := zokQ_0 (hs := [9171, 9171, 9173, 9177, 9177, 8062, 9179, 9181, 8062, 8062, 8040, 9162]) (by decide +kernel)
theorem zoy119 : zokY zm119 = true := zokYh_ok (a := 8003) (b := 9169) (c := 3) (by decide +kernel)
set_option maxRecDepth 20000 in
theorem zow119 : Cond.code zm119.1 zm119.2.1 zm119.2.2.1 zm119.2.2.2.1 ∈ zTw := zpw (p := 9) (i := 170) rfl rfl rfl
theorem zok120 : zokC zm120.1 zm120.2.1 0 zc120 = true := zokQ_0 (hs := [8062, 8062, 9192, 8062, 8062, 8062, 9199, 8062, 8062, 9208, 8062, 8062, 8062, 8062, 9212, 8062, 8062, 8062, 9221]) (by decide +kernel)
theorem zoy120 : zokY zm120 = true := zokYh_ok (a := 8003) (b := 9190) (c := 4) (by decide +kernel)
set_option maxRecDepth 20000 in
theorem zow120 : Cond.code zm120.1 zm120.2.1 zm120.2.2.1 zm120.2.2.2.1 ∈ zTw := zpw (p := 9) (i := 191) rfl rfl rfl
theorem zok121 : zokC zm121.1 zm121.2.1 0 zc121 = true := zokQ_0 (hs := [8026, 8236, 8029, 8030, 8002, 8238, 8056, 8057, 8003, 8239, 8066, 8067, 8004, 9000, 8103, 8104, 8005, 9001, 8103, 8104, 8005, 9002, 8113, 9003, 8115, 8116, 8006, 9005, 8133, 9006, 9007, 9008, 8134, 8135, 8007, 9009, 8146, 8147, 8008, 9010, 8193, 8194, 8009, 9011, 8218, 8219, 8010, 9012]) (by decide +kernel)
theorem zoy121 : zokY zm121 = true := zokYh_ok (a := 8001) (b := 8024) (c := 0) (by decide +kernel)
set_option maxRecDepth 20000 in
theorem zow121 : Cond.code zm121.1 zm121.2.1 zm121.2.2.1 zm121.2.2.2.1 ∈ zTw := zpw (p := 8) (i := 25) rfl rfl rfl
theorem zok122 : zokC zm122.1 zm122.2.1 0 zc122 = true := zokQ_0 (hs := [8237, 9052, 9052, 9052, 9052, 9052, 8237]) (by decide +kernel)
theorem zoy122 : zokY zm122 = true := zokYh_ok (a := 8001) (b := 9049) (c := 9050) (by decide +kernel)
set_option maxRecDepth 20000 in
theorem zow122 : Cond.code zm122.1 zm122.2.1 zm122.2.2.1 zm122.2.2.2.1 ∈ zTw := zpw (p := 9) (i := 51) rfl rfl rfl
theorem zok123 : zokC zm123.1 zm123.2.1 0 zc123 = true := zokQ_0 (hs := [8237, 8236, 8237, 8237, 8237]) (by decide +kernel)
theorem zoy123 : zokY zm123 = true := zokYh_ok (a := 8001) (b := 9054) (c := 0) (by decide +kernel)
set_option maxRecDepth 20000 in
theorem zow123 : Cond.code zm123.1 zm123.2.1 zm123.2.2.1 zm123.2.2.2.1 ∈ zTw := zpw (p := 9) (i := 55) rfl rfl rfl
theorem zok124 : zokC zm124.1 zm124.2.1 0 zc124 = true := zokQ_0 (hs := [8237, 8237]) (by decide +kernel)
theorem zoy124 : zokY zm124 = true := zokYh_ok (a := 8001) (b := 9057) (c := 9058) (by decide +kernel)
set_option maxRecDepth 20000 in
theorem zow124 : Cond.code zm124.1 zm124.2.1 zm124.2.2.1 zm124.2.2.2.1 ∈ zTw := zpw (p := 9) (i := 59) rfl rfl rfl
theorem zok125 : zokC zm125.1 zm125.2.1 0 zc125 = true := zokQ_0 (hs := [9064, 8239, 8238, 9002, 9075, 8238, 9234, 8238, 8043, 9001, 9002, 9235, 9005, 10002, 9001, 10006]) (by decide +kernel)
theorem zoy125 : zokY zm125 = true := zokYh_ok (a := 8001) (b := 9061) (c := 9062) (by decide +kernel)
set_option maxRecDepth 20000 in
theorem zow125 : Cond.code zm125.1 zm125.2.1 zm125.2.2.1 zm125.2.2.2.1 ∈ zTw := zpw (p := 9) (i := 63) rfl rfl rfl
theorem zok126 : zokC zm126.1 zm126.2.1 0 zc126 = true := zokQ_0 (hs := [9004, 9064, 9000, 8238, 10012, 8238, 8043, 9003, 9004, 9004, 9004, 9004]) (by decide +kernel)
theorem zoy126 : zokY zm126 = true := zokYh_ok (a := 8001) (b := 10009) (c := 10010) (by decide +kernel)
set_option maxRecDepth 20000 in
theorem zow126 : Cond.code zm126.1 zm126.2.1 zm126.2.2.1 zm126.2.2.2.1 ∈ zTw := zpw (p := 10) (i := 11) rfl rfl rfl
theorem zok127 : zokC zm127.1 zm127.2.1 0 zc127 = true := zokQ_0 (hs := [8238, 8236, 8237, 9068, 8237]) (by decide +kernel)
theorem zoy127 : zokY zm127 = true := zokYh_ok (a := 8001) (b := 9066) (c := 1) (by decide +kernel)
set_option maxRecDepth 20000 in
theorem zow127 : Cond.code zm127.1 zm127.2.1 zm127.2.2.1 zm127.2.2.2.1 ∈ zTw := zpw (p := 9) (i := 67) rfl rfl rfl
theorem zok128 : zokC zm128.1 zm128.2.1 0 zc128 = true := zokQ_0 (hs := [9001, 10127, 9001, 10131, 9001, 10158, 9001, 10159]) (by decide +kernel)
theorem zoy128 : zokY zm128 = true := zokYh_ok (a := 8001) (b := 10124) (c := 10125) (by decide +kernel)
set_option maxRecDepth 20000 in
theorem zow128 : Cond.code zm128.1 zm128.2.1 zm128.2.2.1 zm128.2.2.2.1 ∈ zTw := zpw (p := 10) (i := 126) rfl rfl rfl
theorem zok129 : zokC zm129.1 zm129.2.1 0 zc129 = true := zokQ_0 (hs := [9001, 10164, 9001, 10168, 9001, 10181]) (by decide +kernel)
theorem zoy129 : zokY zm129 = true := zokYh_ok (a := 8001) (b := 10161) (c := 10162) (by decide +kernel)
set_option maxRecDepth 20000 in
theorem zow129 : Cond.code zm129.1 zm129.2.1 zm129.2.2.1 zm129.2.2.2.1 ∈ zTw := zpw (p := 10) (i := 163) rfl rfl rfl
theorem zok130 : zokC zm130.1 zm130.2.1 0 zc130 = true := zokQ_0 (hs := [9001, 10186, 9001, 10195, 9001, 10203]) (by decide +kernel)
theorem zoy130 : zokY zm130 = true := zokYh_ok (a := 8001) (b := 10183) (c := 10184) (by decide +kernel)
set_option maxRecDepth 20000 in
theorem zow130 : Cond.code zm130.1 zm130.2.1 zm130.2.2.1 zm130.2.2.2.1 ∈ zTw := zpw (p := 10) (i := 185) rfl rfl rfl
theorem zok131 : zokC zm131.1 zm131.2.1 0 zc131 = true := zokQ_0 (hs := [9001, 10127, 9001, 10211, 9001, 10212, 9005, 9001, 10217, 9001, 10226, 9001, 10131]) (by decide +kernel)
theorem zoy131 : zokY zm131 = true := zokYh_ok (a := 8001) (b := 10208) (c := 10209) (by decide +kernel)
set_option maxRecDepth 20000 in
theorem zow131 : Cond.code zm131.1 zm131.2.1 zm131.2.2.1 zm131.2.2.2.1 ∈ zTw := zpw (p := 10) (i := 210) rfl rfl rfl
theorem zok132 : zokC zm132.1 zm132.2.1 0 zc132 = true := zokQ_0 (hs := [9001, 10127, 9001, 10237, 9005, 9001, 10217, 9001, 10238, 9001, 10159]) (by decide +kernel)
theorem zoy132 : zokY zm132 = true := zokYh_ok (a := 8001) (b := 10234) (c := 10235) (by decide +kernel)
set_option maxRecDepth 20000 in
theorem zow132 : Cond.code zm132.1 zm132.2.1 zm132.2.2.1 zm132.2.2.2.1 ∈ zTw := zpw (p := 10) (i := 236) rfl rfl rfl
theorem zok133 : zokC zm133.1 zm133.2.1 0 zc133 = true := zokQ_0 (hs := [9001, 10164, 9001, 10168, 9005, 9001, 10217, 9001, 11010]) (by decide +kernel)
theorem zoy133 : zokY zm133 = true := zokYh_ok (a := 8001) (b := 11007) (c := 11008) (by decide +kernel)
set_option maxRecDepth 20000 in
theorem zow133 : Cond.code zm133.1 zm133.2.1 zm133.2.2.1 zm133.2.2.2.1 ∈ zTw := zpw (p := 11) (i := 9) rfl rfl rfl
theorem zok134 : zokC zm134.1 zm134.2.1 0 zc134 = true := zokQ_0 (hs := [9001, 10186, 9001, 11022, 9005, 9001, 10217, 9001, 11026]) (by decide +kernel)
theorem zoy134 : zokY zm134 = true := zokYh_ok (a := 8001) (b := 11019) (c := 11020) (by decide +kernel)
set_option maxRecDepth 20000 in
theorem zow134 : Cond.code zm134.1 zm134.2.1 zm134.2.2.1 zm134.2.2.2.1 ∈ zTw := zpw (p := 11) (i := 21) rfl rfl rfl
theorem zok135 : zokC zm135.1 zm135.2.1 0 zc135 = true := zokQ_0 (hs := [9012, 9001, 11034, 9012, 8227, 9005, 9001, 10217, 9012, 9001, 11044, 9012, 8227]) (by decide +kernel)
theorem zoy135 : zokY zm135 = true := zokYh_ok (a := 8001) (b := 11031) (c := 11032) (by decide +kernel)
set_option maxRecDepth 20000 in
theorem zow135 : Cond.code zm135.1 zm135.2.1 zm135.2.2.1 zm135.2.2.2.1 ∈ zTw := zpw (p := 11) (i := 33) rfl rfl rfl
theorem zok136 : zokC zm136.1 zm136.2.1 0 zc136 = true := zokQ_0 (hs := [9001, 10127, 9001, 10211, 9001, 10159, 9005, 9001, 10217, 9001, 11053]) (by decide +kernel)
theorem zoy136 : zokY zm136 = true := zokYh_ok (a := 8001) (b := 11050) (c := 11051) (by decide +kernel)
set_option maxRecDepth 20000 in
theorem zow136 : Cond.code zm136.1 zm136.2.1 zm136.2.2.1 zm136.2.2.2.1 ∈ zTw := zpw (p := 11) (i := 52) rfl rfl rfl
theorem zok137 : zokC zm137.1 zm137.2.1 0 zc137 = true := zokQ_0 (hs := [9001, 11058, 9001, 11062, 9005, 9001, 10217, 9001, 11063, 9001, 11067]) (by decide +kernel)
theorem zoy137 : zokY zm137 = true := zokYh_ok (a := 8001) (b := 11055) (c := 11056) (by decide +kernel)
set_option maxRecDepth 20000 in
theorem zow137 : Cond.code zm137.1 zm137.2.1 zm137.2.2.1 zm137.2.2.2.1 ∈ zTw := zpw (p := 11) (i := 57) rfl rfl rfl
theorem zok138 : zokC zm138.1 zm138.2.1 0 zc138 = true := zokQ_0 (hs := [9005, 11075, 9005, 9001, 11079, 9005, 11075]) (by decide +kernel)
theorem zoy138 : zokY zm138 = true := zokYh_ok (a := 8001) (b := 11072) (c := 11073) (by decide +kernel)
set_option maxRecDepth 20000 in
theorem zow138 : Cond.code zm138.1 zm138.2.1 zm138.2.2.1 zm138.2.2.2.1 ∈ zTw := zpw (p := 11) (i := 74) rfl rfl rfl
theorem zok139 : zokC zm139.1 zm139.2.1 0 zc139 = true := zokQ_0 (hs := [9001, 11058, 11091, 9001, 11062, 9001, 11095, 9003, 9001, 11099, 9001, 11129, 9001, 11063, 9005, 10002, 9001, 11095]) (by decide +kernel)
theorem zoy139 : zokY zm139 = true := zokYh_ok (a := 8001) (b := 11088) (c := 11089) (by decide +kernel)
set_option maxRecDepth 20000 in
theorem zow139 : Cond.code zm139.1 zm139.2.1 zm139.2.2.1 zm139.2.2.2.1 ∈ zTw := zpw (p := 11) (i := 90) rfl rfl rfl
theorem zok140 : zokC zm140.1 zm140.2.1 0 zc140 = true := zokQ_0 (hs := [9004, 9003]) (by decide +kernel)
theorem zoy140 : zokY zm140 = true := zokYh_ok (a := 8001) (b := 11093) (c := 1006) (by decide +kernel)
set_option maxRecDepth 20000 in
theorem zow140 : Cond.code zm140.1 zm140.2.1 zm140.2.2.1 zm140.2.2.2.1 ∈ zTw := zpw (p := 11) (i := 94) rfl rfl rfl
theorem zok141 : zokC zm141.1 zm141.2.1 0 zc141 = true := zokQ_0 (hs := [9001, 10127, 9001, 10211, 9010, 9001, 11139, 9010, 8154, 9010, 8156, 9001, 11162, 9010, 9001, 11163, 9010, 8161]) (by decide +kernel)
theorem zoy141 : zokY zm141 = true := zokYh_ok (a := 8001) (b := 11136) (c := 11137) (by decide +kernel)
set_option maxRecDepth 20000 in
theorem zow141 : Cond.code zm141.1 zm141.2.1 zm141.2.2.1 zm141.2.2.2.1 ∈ zTw := zpw (p := 11) (i := 138) rfl rfl rfl
theorem zok142 : zokC zm142.1 zm142.2.1 0 zc142 = true := zokQ_0 (hs := [9001, 11058, 9001, 11185, 9011, 9001, 11186, 9011, 11212]) (by decide +kernel)
theorem zoy142 : zokY zm142 = true := zokYh_ok (a := 8001) (b := 11182) (c := 11183) (by decide +kernel)
set_option maxRecDepth 20000 in
theorem zow142 : Cond.code zm142.1 zm142.2.1 zm142.2.2.1 zm142.2.2.2.1 ∈ zTw := zpw (p := 11) (i := 184) rfl rfl rfl
theorem zok143 : zokC zm143.1 zm143.2.1 0 zc143 = true := zokQ_0 (hs := [9001, 10127, 9011, 9001, 11186, 9011, 9001, 11186]) (by decide +kernel)
theorem zoy143 : zokY zm143 = true := zokYh_ok (a := 8001) (b := 11221) (c := 11222) (by decide +kernel)
set_option maxRecDepth 20000 in
theorem zow143 : Cond.code zm143.1 zm143.2.1 zm143.2.2.1 zm143.2.2.2.1 ∈ zTw := zpw (p := 11) (i := 223) rfl rfl rfl
theorem zok144 : zokC zm144.1 zm144.2.1 0 zc144 = true := zokQ_0 (hs := [9001, 10127, 9001, 10159, 9011, 9001, 11186, 9001, 11228, 9001, 10159, 9002, 9001, 9235, 9002, 11053, 9011, 9002, 11186]) (by decide +kernel)
theorem zoy144 : zokY zm144 = true := zokYh_ok (a := 8001) (b := 11225) (c := 11226) (by decide +kernel)
set_option maxRecDepth 20000 in
theorem zow144 : Cond.code zm144.1 zm144.2.1 zm144.2.2.1 zm144.2.2.2.1 ∈ zTw := zpw (p := 11) (i := 227) rfl rfl rfl
theorem zok145 : zokC zm145.1 zm145.2.1 0 zc145 = true := zokQ_0 (hs := [9001, 11058, 9001, 11228, 9001, 11228, 9001, 11022, 9002, 9001, 9235, 9002, 11026, 9011, 9002, 11186, 9011, 9001, 11186]) (by decide +kernel)
theorem zoy145 : zokY zm145 = true := zokYh_ok (a := 8001) (b := 11230) (c := 11231) (by decide +kernel)
set_option maxRecDepth 20000 in
theorem zow145 : Cond.code zm145.1 zm145.2.1 zm145.2.2.1 zm145.2.2.2.1 ∈ zTw := zpw (p := 11) (i := 232) rfl rfl rfl
theorem zok146 : zokC zm146.1 zm146.2.1 0 zc146 = true := zokQ_0 (hs := [9001, 11058, 9012, 9001, 11237, 9012, 9001, 11034, 9012, 8227, 9012, 8227, 9012, 8225]) (by decide +kernel)
theorem zoy146 : zokY zm146 = true := zokYh_ok (a := 8001) (b := 11234) (c := 11235) (by decide +kernel)
set_option maxRecDepth 20000 in
theorem zow146 : Cond.code zm146.1 zm146.2.1 zm146.2.2.1 zm146.2.2.2.1 ∈ zTw := zpw (p := 11) (i := 236) rfl rfl rfl
end
section
theorem zok147 : zokC zm147.1 zm147.2.1 0 zc147 = true := zokQ_0 (hs := [9001, 10211, 9001, 12005]) (by decide +kernel)
theorem zoy147 : zokY zm147 = true := zokYh_ok (a := 8001) (b := 12002) (c := 12003) (by decide +kernel)
set_option maxRecDepth 20000 in
theorem zow147 : Cond.code zm147.1 zm147.2.1 zm147.2.2.1 zm147.2.2.2.1 ∈ zTw := zpw (p := 12) (i := 4) rfl rfl rfl
theorem zok148 : zokC zm148.1 zm148.2.1 0 zc148 = true := zokQ_0 (hs := [9001, 10127, 9010, 9001, 12013, 9010, 8159, 9010, 8163, 9010, 8159, 9001, 10237, 9010, 8165]) (by decide +kernel)
theorem zoy148 : zokY zm148 = true := zokYh_ok (a := 8001) (b := 12010) (c := 12011) (by decide +kernel)
set_option maxRecDepth 20000 in
theorem zow148 : Cond.code zm148.1 zm148.2.1 zm148.2.2.1 zm148.2.2.2.1 ∈ zTw := zpw (p := 12) (i := 12) rfl rfl rfl
theorem zok149 : zokC zm149.1 zm149.2.1 0 zc149 = true := zokQ_0 (hs := [9001, 11058, 11091, 9001, 12021, 9001, 11062, 9002, 9001, 9235, 9003, 9002, 11099, 9002, 11129, 9002, 12021, 9002, 11062, 9002, 11063]) (by decide +kernel)
theorem zoy149 : zokY zm149 = true := zokYh_ok (a := 8001) (b := 12018) (c := 12019) (by decide +kernel)
set_option maxRecDepth 20000 in
theorem zow149 : Cond.code zm149.1 zm149.2.1 zm149.2.2.1 zm149.2.2.2.1 ∈ zTw := zpw (p := 12) (i := 20) rfl rfl rfl
theorem zok150 : zokC zm150.1 zm150.2.1 0 zc150 = true := zokQ_0 (hs := [9001, 11058, 9001, 11228, 12033]) (by decide +kernel)
theorem zoy150 : zokY zm150 = true := zokYh_ok (a := 8001) (b := 12030) (c := 12031) (by decide +kernel)
set_option maxRecDepth 20000 in
theorem zow150 : Cond.code zm150.1 zm150.2.1 zm150.2.2.1 zm150.2.2.2.1 ∈ zTw := zpw (p := 12) (i := 32) rfl rfl rfl
theorem zok151 : zokC zm151.1 zm151.2.1 0 zc151 = true := zokQ_0 (hs := [9001, 11228, 9002, 9001, 9235, 9002, 11026, 9010, 9002, 12037]) (by decide +kernel)
theorem zoy151 : zokY zm151 = true := zokYh_ok (a := 8001) (b := 12035) (c := 2001) (by decide +kernel)
set_option maxRecDepth 20000 in
theorem zow151 : Cond.code zm151.1 zm151.2.1 zm151.2.2.1 zm151.2.2.2.1 ∈ zTw := zpw (p := 12) (i := 36) rfl rfl rfl
theorem zok152 : zokC zm152.1 zm152.2.1 0 zc152 = true := zokQ_0 (hs := [9009, 8141, 9009, 8141]) (by decide +kernel)
theorem zoy152 : zokY zm152 = true := zokYh_ok (a := 8001) (b := 12044) (c := 12045) (by decide +kernel)
set_option maxRecDepth 20000 in
theorem zow152 : Cond.code zm152.1 zm152.2.1 zm152.2.2.1 zm152.2.2.2.1 ∈ zTw := zpw (p := 12) (i := 46) rfl rfl rfl
theorem zok153 : zokC zm153.1 zm153.2.1 0 zc153 = true := zokQ_0 (hs := [9001, 11058, 9009, 8141, 9002, 9001, 9235, 9009, 9002, 12051, 9002, 11129, 9002, 11063, 9002, 11095, 9001, 11095, 9009, 8141]) (by decide +kernel)
theorem zoy153 : zokY zm153 = true := zokYh_ok (a := 8001) (b := 12048) (c := 12049) (by decide +kernel)
set_option maxRecDepth 20000 in
theorem zow153 : Cond.code zm153.1 zm153.2.1 zm153.2.2.1 zm153.2.2.2.1 ∈ zTw := zpw (p := 12) (i := 50) rfl rfl rfl
theorem zok154 : zokC zm154.1 zm154.2.1 0 zc154 = true := zokQ_0 (hs := [9001, 11228, 9001, 12072, 9001, 10006, 9001, 11185, 9004, 9001, 11062, 9001, 11095, 9001, 12073, 9001, 12074, 9005, 11075, 9009, 8141, 8237]) (by decide +kernel)
theorem zoy154 : zokY zm154 = true := zokYh_ok (a := 8001) (b := 12069) (c := 12070) (by decide +kernel)
set_option maxRecDepth 20000 in
theorem zow154 : Cond.code zm154.1 zm154.2.1 zm154.2.2.1 zm154.2.2.2.1 ∈ zTw := zpw (p := 12) (i := 71) rfl rfl rfl
theorem zok155 : zokC zm155.1 zm155.2.1 0 zc155 = true := zokQ_0 (hs := [9001, 9006, 12082, 9007, 9009, 8141, 9008, 9001, 11062]) (by decide +kernel)
theorem zoy155 : zokY zm155 = true := zokYh_ok (a := 8001) (b := 12079) (c := 12080) (by decide +kernel)
set_option maxRecDepth 20000 in
theorem zow155 : Cond.code zm155.1 zm155.2.1 zm155.2.2.1 zm155.2.2.2.1 ∈ zTw := zpw (p := 12) (i := 81) rfl rfl rfl
theorem zok156 : zokC zm156.1 zm156.2.1 0 zc156 = true := zokQ_0 (hs := [9008, 9001, 9006, 12087, 9009, 9007, 8141, 9005, 10002, 9001, 11062]) (by decide +kernel)
theorem zoy156 : zokY zm156 = true := zokYh_ok (a := 8001) (b := 12084) (c := 12085) (by decide +kernel)
set_option maxRecDepth 20000 in
theorem zow156 : Cond.code zm156.1 zm156.2.1 zm156.2.2.1 zm156.2.2.2.1 ∈ zTw := zpw (p := 12) (i := 86) rfl rfl rfl
theorem zok157 : zokC zm157.1 zm157.2.1 0 zc157 = true := zokQ_0 (hs := [12093, 12094, 12097, 12098, 12099, 12100, 12101, 12109, 12113, 12115, 12116, 12118, 12122, 12123, 12125, 12130, 12131, 12132]) (by decide +kernel)
theorem zoy157 : zokY zm157 = true := zokYh_ok (a := 8011) (b := 12091) (c := 0) (by decide +kernel)
set_option maxRecDepth 20000 in
theorem zow157 : Cond.code zm157.1 zm157.2.1 zm157.2.2.1 zm157.2.2.2.1 ∈ zTw := zpw (p := 12) (i := 92) rfl rfl rfl
theorem zok158 : zokC zm158.1 zm158.2.1 0 zc158 = true := zokQ_0 (hs := []) (by decide +kernel)
theorem zoy158 : zokY zm158 = true := zokYh_ok (a := 8011) (b := 13043) (c := 0) (by decide +kernel)
set_option maxRecDepth 20000 in
theorem zow158 : Cond.code zm158.1 zm158.2.1 zm158.2.2.1 zm158.2.2.2.1 ∈ zTw := zpw (p := 13) (i := 44) rfl rfl rfl
theorem zok159 : zokC zm159.1 zm159.2.1 0 zc159 = true := zokQ_0 (hs := []) (by decide +kernel)
theorem zoy159 : zokY zm159 = true := zokYh_ok (a := 8011) (b := 14063) (c := 0) (by decide +kernel)
set_option maxRecDepth 20000 in
theorem zow159 : Cond.code zm159.1 zm159.2.1 zm159.2.2.1 zm159.2.2.2.1 ∈ zTw := zpw (p := 14) (i := 64) rfl rfl rfl
theorem zok160 : zokC zm160.1 zm160.2.1 0 zc160 = true := zokQ_0 (hs := [12094, 12095, 12095, 12095]) (by decide +kernel)
theorem zoy160 : zokY zm160 = true := zokYh_ok (a := 8011) (b := 12218) (c := 2003) (by decide +kernel)
set_option maxRecDepth 20000 in
theorem zow160 : Cond.code zm160.1 zm160.2.1 zm160.2.2.1 zm160.2.2.2.1 ∈ zTw := zpw (p := 12) (i := 219) rfl rfl rfl
theorem zok161 : zokC zm161.1 zm161.2.1 0 zc161 = true := zokQ_0 (hs := [12095, 12216, 12216, 12216, 12216, 12216, 12095]) (by decide +kernel)
theorem zoy161 : zokY zm161 = true := zokYh_ok (a := 8011) (b := 12213) (c := 12214) (by decide +kernel)
set_option maxRecDepth 20000 in
theorem zow161 : Cond.code zm161.1 zm161.2.1 zm161.2.2.1 zm161.2.2.2.1 ∈ zTw := zpw (p := 12) (i := 215) rfl rfl rfl
theorem zok162 : zokC zm162.1 zm162.2.1 0 zc162 = true := zokQ_0 (hs := [12095, 12095]) (by decide +kernel)
theorem zoy162 : zokY zm162 = true := zokYh_ok (a := 8011) (b := 12221) (c := 12222) (by decide +kernel)
set_option maxRecDepth 20000 in
theorem zow162 : Cond.code zm162.1 zm162.2.1 zm162.2.2.1 zm162.2.2.2.1 ∈ zTw := zpw (p := 12) (i := 223) rfl rfl rfl
theorem zok163 : zokC zm163.1 zm163.2.1 0 zc163 = true := zokQ_0 (hs := [12103, 12103]) (by decide +kernel)
theorem zoy163 : zokY zm163 = true := zokYh_ok (a := 8011) (b := 13020) (c := 2010) (by decide +kernel)
set_option maxRecDepth 20000 in
theorem zow163 : Cond.code zm163.1 zm163.2.1 zm163.2.2.1 zm163.2.2.2.1 ∈ zTw := zpw (p := 13) (i := 21) rfl rfl rfl
theorem zok164 : zokC zm164.1 zm164.2.1 0 zc164 = true := zokQ_0 (hs := [12102, 12095, 12094, 12102, 12102, 12102, 12102, 12095, 12094, 12102]) (by decide +kernel)
theorem zoy164 : zokY zm164 = true := zokYh_ok (a := 8011) (b := 12238) (c := 2006) (by decide +kernel)
set_option maxRecDepth 20000 in
theorem zow164 : Cond.code zm164.1 zm164.2.1 zm164.2.2.1 zm164.2.2.2.1 ∈ zTw := zpw (p := 12) (i := 239) rfl rfl rfl
theorem zok165 : zokC zm165.1 zm165.2.1 0 zc165 = true := zokQ_0 (hs := [12095, 12094, 12094]) (by decide +kernel)
theorem zoy165 : zokY zm165 = true := zokYh_ok (a := 8011) (b := 13040) (c := 2015) (by decide +kernel)
set_option maxRecDepth 20000 in
theorem zow165 : Cond.code zm165.1 zm165.2.1 zm165.2.2.1 zm165.2.2.2.1 ∈ zTw := zpw (p := 13) (i := 41) rfl rfl rfl
theorem zok166 : zokC zm166.1 zm166.2.1 0 zc166 = true := zokQ_0 (hs := [12095, 12094, 12094]) (by decide +kernel)
theorem zoy166 : zokY zm166 = true := zokYh_ok (a := 8011) (b := 13011) (c := 2009) (by decide +kernel)
set_option maxRecDepth 20000 in
theorem zow166 : Cond.code zm166.1 zm166.2.1 zm166.2.2.1 zm166.2.2.2.1 ∈ zTw := zpw (p := 13) (i := 12) rfl rfl rfl
theorem zok167 : zokC zm167.1 zm167.2.1 0 zc167 = true := zokQ_0 (hs := [12236, 12102, 13009, 12094, 12102]) (by decide +kernel)
theorem zoy167 : zokY zm167 = true := zokYh_ok (a := 8011) (b := 13007) (c := 2008) (by decide +kernel)
set_option maxRecDepth 20000 in
theorem zow167 : Cond.code zm167.1 zm167.2.1 zm167.2.2.1 zm167.2.2.2.1 ∈ zTw := zpw (p := 13) (i := 8) rfl rfl rfl
theorem zok168 : zokC zm168.1 zm168.2.1 0 zc168 = true := zokQ_0 (hs := [12102, 13009, 12102, 12102]) (by decide +kernel)
theorem zoy168 : zokY zm168 = true := zokYh_ok (a := 8011) (b := 13032) (c := 2013) (by decide +kernel)
set_option maxRecDepth 20000 in
theorem zow168 : Cond.code zm168.1 zm168.2.1 zm168.2.2.1 zm168.2.2.2.1 ∈ zTw := zpw (p := 13) (i := 33) rfl rfl rfl
theorem zok169 : zokC zm169.1 zm169.2.1 0 zc169 = true := zokQ_0 (hs := [13005, 13030]) (by decide +kernel)
theorem zoy169 : zokY zm169 = true := zokYh_ok (a := 8011) (b := 13113) (c := 3013) (by decide +kernel)
set_option maxRecDepth 20000 in
theorem zow169 : Cond.code zm169.1 zm169.2.1 zm169.2.2.1 zm169.2.2.2.1 ∈ zTw := zpw (p := 13) (i := 114) rfl rfl rfl
theorem zok170 : zokC zm170.1 zm170.2.1 0 zc170 = true := zokQ_0 (hs := [12236, 12102, 13038, 12102, 13018, 12102, 12102, 13038, 12102, 12094, 12102, 12102, 12102, 12104, 12102, 13042, 13018]) (by decide +kernel)
theorem zoy170 : zokY zm170 = true := zokYh_ok (a := 8011) (b := 13036) (c := 2014) (by decide +kernel)
set_option maxRecDepth 20000 in
theorem zow170 : Cond.code zm170.1 zm170.2.1 zm170.2.2.1 zm170.2.2.2.1 ∈ zTw := zpw (p := 13) (i := 37) rfl rfl rfl
theorem zok171 : zokC zm171.1 zm171.2.1 0 zc171 = true := zokQ_0 (hs := [13013, 13005, 13098, 13005, 13099, 13005, 13100, 13005, 13101, 13005, 13102, 13005, 13103, 13005, 13104, 13005, 13105, 13005, 13106, 13005, 13107, 13005, 13108, 13005, 13109, 13005]) (by decide +kernel)
theorem zoy171 : zokY zm171 = true := zokYh_ok (a := 8011) (b := 13096) (c := 3012) (by decide +kernel)
set_option maxRecDepth 20000 in
theorem zow171 : Cond.code zm171.1 zm171.2.1 zm171.2.2.1 zm171.2.2.2.1 ∈ zTw := zpw (p := 13) (i := 97) rfl rfl rfl
theorem zok172 : zokC zm172.1 zm172.2.1 0 zc172 = true := zokQ_0 (hs := [12097, 12105, 12098, 12105, 12098, 12105]) (by decide +kernel)
theorem zoy172 : zokY zm172 = true := zokYh_ok (a := 8011) (b := 13092) (c := 3011) (by decide +kernel)
set_option maxRecDepth 20000 in
theorem zow172 : Cond.code zm172.1 zm172.2.1 zm172.2.2.1 zm172.2.2.2.1 ∈ zTw := zpw (p := 13) (i := 93) rfl rfl rfl
theorem zok173 : zokC zm173.1 zm173.2.1 0 zc173 = true := zokQ_0 (hs := [12106, 13018, 12106, 12106]) (by decide +kernel)
theorem zoy173 : zokY zm173 = true := zokYh_ok (a := 8011) (b := 13088) (c := 3010) (by decide +kernel)
set_option maxRecDepth 20000 in
theorem zow173 : Cond.code zm173.1 zm173.2.1 zm173.2.2.1 zm173.2.2.2.1 ∈ zTw := zpw (p := 13) (i := 89) rfl rfl rfl
theorem zok174 : zokC zm174.1 zm174.2.1 0 zc174 = true := zokQ_0 (hs := [12107, 12102, 13018, 12107, 12107, 12109, 12110, 12110, 12110]) (by decide +kernel)
theorem zoy174 : zokY zm174 = true := zokYh_ok (a := 8011) (b := 13126) (c := 4000) (by decide +kernel)
set_option maxRecDepth 20000 in
theorem zow174 : Cond.code zm174.1 zm174.2.1 zm174.2.2.1 zm174.2.2.2.1 ∈ zTw := zpw (p := 13) (i := 127) rfl rfl rfl
theorem zok175 : zokC zm175.1 zm175.2.1 0 zc175 = true := zokQ_0 (hs := []) (by decide +kernel)
theorem zoy175 : zokY zm175 = true := zokYh_ok (a := 8011) (b := 13141) (c := 0) (by decide +kernel)
set_option maxRecDepth 20000 in
theorem zow175 : Cond.code zm175.1 zm175.2.1 zm175.2.2.1 zm175.2.2.2.1 ∈ zTw := zpw (p := 13) (i := 142) rfl rfl rfl
theorem zok176 : zokC zm176.1 zm176.2.1 0 zc176 = true := zokQ_0 (hs := [12110, 12109, 12110, 13140, 12110, 12110, 12109, 12110, 13090, 12109, 12110, 12107, 12107]) (by decide +kernel)
theorem zoy176 : zokY zm176 = true := zokYh_ok (a := 8011) (b := 13138) (c := 4003) (by decide +kernel)
set_option maxRecDepth 20000 in
theorem zow176 : Cond.code zm176.1 zm176.2.1 zm176.2.2.1 zm176.2.2.2.1 ∈ zTw := zpw (p := 13) (i := 139) rfl rfl rfl
theorem zok177 : zokC zm177.1 zm177.2.1 0 zc177 = true := zokQ_0 (hs := [12236, 12102, 12102, 13038, 13085, 13034, 13086, 12104, 13090, 13094, 13018, 13086, 13030, 13090]) (by decide +kernel)
theorem zoy177 : zokY zm177 = true := zokYh_ok (a := 8011) (b := 13083) (c := 3009) (by decide +kernel)
set_option maxRecDepth 20000 in
theorem zow177 : Cond.code zm177.1 zm177.2.1 zm177.2.2.1 zm177.2.2.2.1 ∈ zTw := zpw (p := 13) (i := 84) rfl rfl rfl
theorem zok178 : zokC zm178.1 zm178.2.1 0 zc178 = true := zokQ_0 (hs := [13081, 12236, 12236, 12236, 12094, 12102, 12094, 12102, 12102, 12102, 13081, 13090]) (by decide +kernel)
theorem zoy178 : zokY zm178 = true := zokYh_ok (a := 8011) (b := 13079) (c := 3008) (by decide +kernel)
set_option maxRecDepth 20000 in
theorem zow178 : Cond.code zm178.1 zm178.2.1 zm178.2.2.1 zm178.2.2.2.1 ∈ zTw := zpw (p := 13) (i := 80) rfl rfl rfl
theorem zok179 : zokC zm179.1 zm179.2.1 0 zc179 = true := zokQ_0 (hs := [13077, 12236, 12236, 12094, 12102, 12102, 12102, 13077, 13090]) (by decide +kernel)
theorem zoy179 : zokY zm179 = true := zokYh_ok (a := 8011) (b := 13075) (c := 3007) (by decide +kernel)
set_option maxRecDepth 20000 in
theorem zow179 : Cond.code zm179.1 zm179.2.1 zm179.2.2.1 zm179.2.2.2.1 ∈ zTw := zpw (p := 13) (i := 76) rfl rfl rfl
theorem zok180 : zokC zm180.1 zm180.2.1 0 zc180 = true := zokQ_0 (hs := [13073, 12236, 12102, 13018, 12102, 12102, 12102, 12095, 12094, 12102, 12102, 12102, 13086, 13073, 13090]) (by decide +kernel)
theorem zoy180 : zokY zm180 = true := zokYh_ok (a := 8011) (b := 13130) (c := 4001) (by decide +kernel)
set_option maxRecDepth 20000 in
theorem zow180 : Cond.code zm180.1 zm180.2.1 zm180.2.2.1 zm180.2.2.2.1 ∈ zTw := zpw (p := 13) (i := 131) rfl rfl rfl
theorem zok181 : zokC zm181.1 zm181.2.1 0 zc181 = true := zokQ_0 (hs := [12236, 13123, 13005, 13124, 13030, 13124, 12102, 12102, 13128]) (by decide +kernel)
theorem zoy181 : zokY zm181 = true := zokYh_ok (a := 8011) (b := 13121) (c := 3015) (by decide +kernel)
set_option maxRecDepth 20000 in
theorem zow181 : Cond.code zm181.1 zm181.2.1 zm181.2.2.1 zm181.2.2.2.1 ∈ zTw := zpw (p := 13) (i := 122) rfl rfl rfl
theorem zok182 : zokC zm182.1 zm182.2.1 0 zc182 = true := zokQ_0 (hs := [12110, 12109]) (by decide +kernel)
theorem zoy182 : zokY zm182 = true := zokYh_ok (a := 8011) (b := 13145) (c := 4004) (by decide +kernel)
set_option maxRecDepth 20000 in
theorem zow182 : Cond.code zm182.1 zm182.2.1 zm182.2.2.1 zm182.2.2.2.1 ∈ zTw := zpw (p := 13) (i := 146) rfl rfl rfl
theorem zok183 : zokC zm183.1 zm183.2.1 0 zc183 = true := zokQ_0 (hs := [13136, 12236, 13143, 13136, 12110, 12110, 12107, 12107, 12102, 12102, 13136]) (by decide +kernel)
theorem zoy183 : zokY zm183 = true := zokYh_ok (a := 8011) (b := 13134) (c := 4002) (by decide +kernel)
set_option maxRecDepth 20000 in
theorem zow183 : Cond.code zm183.1 zm183.2.1 zm183.2.2.1 zm183.2.2.2.1 ∈ zTw := zpw (p := 13) (i := 135) rfl rfl rfl
theorem zok184 : zokC zm184.1 zm184.2.1 0 zc184 = true := zokQ_0 (hs := [12110, 12107, 13119, 13132, 13147, 13005, 13148, 13005, 13147, 13005, 13030, 13140, 13136, 12109, 12110, 12110, 12110, 13143, 12236, 12102, 13018, 13136]) (by decide +kernel)
theorem zoy184 : zokY zm184 = true := zokYh_ok (a := 8011) (b := 13117) (c := 3014) (by decide +kernel)
set_option maxRecDepth 20000 in
theorem zow184 : Cond.code zm184.1 zm184.2.1 zm184.2.2.1 zm184.2.2.2.1 ∈ zTw := zpw (p := 13) (i := 118) rfl rfl rfl
theorem zok185 : zokC zm185.1 zm185.2.1 0 zc185 = true := zokQ_0 (hs := [13030, 12105, 12100, 12105, 12099, 12098, 12105, 13073, 12099, 12098, 12105, 12099, 13110, 13111, 12099, 12098, 12105, 13115, 12099, 12098, 12105, 12100, 12105]) (by decide +kernel)
theorem zoy185 : zokY zm185 = true := zokYh_ok (a := 8011) (b := 13071) (c := 3006) (by decide +kernel)
set_option maxRecDepth 20000 in
theorem zow185 : Cond.code zm185.1 zm185.2.1 zm185.2.2.1 zm185.2.2.2.1 ∈ zTw := zpw (p := 13) (i := 72) rfl rfl rfl
theorem zok186 : zokC zm186.1 zm186.2.1 0 zc186 = true := zokQ_0 (hs := [13034, 12101, 12104]) (by decide +kernel)
theorem zoy186 : zokY zm186 = true := zokYh_ok (a := 8011) (b := 13047) (c := 3000) (by decide +kernel)
set_option maxRecDepth 20000 in
theorem zow186 : Cond.code zm186.1 zm186.2.1 zm186.2.2.1 zm186.2.2.2.1 ∈ zTw := zpw (p := 13) (i := 48) rfl rfl rfl
theorem zok187 : zokC zm187.1 zm187.2.1 0 zc187 = true := zokQ_0 (hs := [12101, 13018, 13030, 13034, 12104, 13045, 12101]) (by decide +kernel)
theorem zoy187 : zokY zm187 = true := zokYh_ok (a := 8011) (b := 13028) (c := 2012) (by decide +kernel)
set_option maxRecDepth 20000 in
theorem zow187 : Cond.code zm187.1 zm187.2.1 zm187.2.2.1 zm187.2.2.2.1 ∈ zTw := zpw (p := 13) (i := 29) rfl rfl rfl
theorem zok188 : zokC zm188.1 zm188.2.1 0 zc188 = true := zokQ_0 (hs := [12101, 13018, 13030, 12101, 12101, 13045, 13045, 13045, 12101, 12101, 12101, 12101, 12101]) (by decide +kernel)
theorem zoy188 : zokY zm188 = true := zokYh_ok (a := 8011) (b := 13051) (c := 3001) (by decide +kernel)
set_option maxRecDepth 20000 in
theorem zow188 : Cond.code zm188.1 zm188.2.1 zm188.2.2.1 zm188.2.2.2.1 ∈ zTw := zpw (p := 13) (i := 52) rfl rfl rfl
theorem zok189 : zokC zm189.1 zm189.2.1 0 zc189 = true := zokQ_0 (hs := [13030, 12101, 13034, 12104, 12111, 12236, 12102, 12101, 13034, 12104, 12112, 12111, 12112, 13018]) (by decide +kernel)
theorem zoy189 : zokY zm189 = true := zokYh_ok (a := 8011) (b := 13059) (c := 3003) (by decide +kernel)
set_option maxRecDepth 20000 in
theorem zow189 : Cond.code zm189.1 zm189.2.1 zm189.2.2.1 zm189.2.2.2.1 ∈ zTw := zpw (p := 13) (i := 60) rfl rfl rfl
theorem zok190 : zokC zm190.1 zm190.2.1 0 zc190 = true := zokQ_0 (hs := [13057, 12101, 12111, 12112]) (by decide +kernel)
theorem zoy190 : zokY zm190 = true := zokYh_ok (a := 8011) (b := 13055) (c := 3002) (by decide +kernel)
set_option maxRecDepth 20000 in
theorem zow190 : Cond.code zm190.1 zm190.2.1 zm190.2.2.1 zm190.2.2.2.1 ∈ zTw := zpw (p := 13) (i := 56) rfl rfl rfl
theorem zok191 : zokC zm191.1 zm191.2.1 0 zc191 = true := zokQ_0 (hs := [13057, 12111, 12112, 13045]) (by decide +kernel)
theorem zoy191 : zokY zm191 = true := zokYh_ok (a := 8011) (b := 13067) (c := 3005) (by decide +kernel)
set_option maxRecDepth 20000 in
theorem zow191 : Cond.code zm191.1 zm191.2.1 zm191.2.2.1 zm191.2.2.2.1 ∈ zTw := zpw (p := 13) (i := 68) rfl rfl rfl
theorem zok192 : zokC zm192.1 zm192.2.1 0 zc192 = true := zokQ_0 (hs := [12101, 13018, 13030, 12101, 12101, 13045, 13045, 13045, 13045, 12101]) (by decide +kernel)
theorem zoy192 : zokY zm192 = true := zokYh_ok (a := 8011) (b := 13063) (c := 3004) (by decide +kernel)
set_option maxRecDepth 20000 in
theorem zow192 : Cond.code zm192.1 zm192.2.1 zm192.2.2.1 zm192.2.2.2.1 ∈ zTw := zpw (p := 13) (i := 64) rfl rfl rfl
theorem zok193 : zokC zm193.1 zm193.2.1 0 zc193 = true := zokQ_0 (hs := [13004, 13005, 13026, 12101, 13018, 13013, 13005, 13049, 13014, 13005, 13053, 13015, 13005, 13061, 13065]) (by decide +kernel)
theorem zoy193 : zokY zm193 = true := zokYh_ok (a := 8011) (b := 13024) (c := 2011) (by decide +kernel)
set_option maxRecDepth 20000 in
theorem zow193 : Cond.code zm193.1 zm193.2.1 zm193.2.2.1 zm193.2.2.2.1 ∈ zTw := zpw (p := 13) (i := 25) rfl rfl rfl
theorem zok194 : zokC zm194.1 zm194.2.1 0 zc194 = true := zokQ_0 (hs := [13004, 13005, 13013, 13005, 13014, 13005, 13015, 13005, 13016, 13005]) (by decide +kernel)
theorem zoy194 : zokY zm194 = true := zokYh_ok (a := 8011) (b := 13002) (c := 2007) (by decide +kernel)
set_option maxRecDepth 20000 in
theorem zow194 : Cond.code zm194.1 zm194.2.1 zm194.2.2.1 zm194.2.2.2.1 ∈ zTw := zpw (p := 13) (i := 3) rfl rfl rfl
theorem zok195 : zokC zm195.1 zm195.2.1 0 zc195 = true := zokQ_0 (hs := [12236, 12102, 12105, 13000, 13017, 13005, 13018, 12108, 13018, 12108, 12108, 13022, 13069]) (by decide +kernel)
theorem zoy195 : zokY zm195 = true := zokYh_ok (a := 8011) (b := 12234) (c := 2005) (by decide +kernel)
set_option maxRecDepth 20000 in
theorem zow195 : Cond.code zm195.1 zm195.2.1 zm195.2.2.1 zm195.2.2.2.1 ∈ zTw := zpw (p := 12) (i := 235) rfl rfl rfl
end
section
theorem zok196 : zokC zm196.1 zm196.2.1 0 zc196 = true := zokQ_0 (hs := [12098, 12105, 12108, 12102, 12103, 12106, 12232, 12236, 12102, 12102, 12232, 12236, 12102, 13018, 12095, 12103]) (by decide +kernel)
theorem zoy196 : zokY zm196 = true := zokYh_ok (a := 8011) (b := 12230) (c := 2004) (by decide +kernel)
set_option maxRecDepth 20000 in
theorem zow196 : Cond.code zm196.1 zm196.2.1 zm196.2.2.1 zm196.2.2.2.1 ∈ zTw := zpw (p := 12) (i := 231) rfl rfl rfl
theorem zok197 : zokC zm197.1 zm197.2.1 0 zc197 = true := zokQ_0 (hs := [12096, 12096, 12105, 12100, 12105, 12228, 12103, 12096, 12096, 12096]) (by decide +kernel)
theorem zoy197 : zokY zm197 = true := zokYh_ok (a := 8011) (b := 12225) (c := 12226) (by decide +kernel)
set_option maxRecDepth 20000 in
theorem zow197 : Cond.code zm197.1 zm197.2.1 zm197.2.2.1 zm197.2.2.2.1 ∈ zTw := zpw (p := 12) (i := 227) rfl rfl rfl
theorem zok198 : zokC zm198.1 zm198.2.1 0 zc198 = true := zokQ_0 (hs := [12105, 12101, 12228, 12103, 12116, 12101, 12116, 12119, 12116]) (by decide +kernel)
theorem zoy198 : zokY zm198 = true := zokYh_ok (a := 8011) (b := 13150) (c := 13151) (by decide +kernel)
set_option maxRecDepth 20000 in
theorem zow198 : Cond.code zm198.1 zm198.2.1 zm198.2.2.1 zm198.2.2.2.1 ∈ zTw := zpw (p := 13) (i := 152) rfl rfl rfl
theorem zok199 : zokC zm199.1 zm199.2.1 0 zc199 = true := zokQ_0 (hs := [12096]) (by decide +kernel)
theorem zoy199 : zokY zm199 = true := zokYh_ok (a := 8011) (b := 14071) (c := 5014) (by decide +kernel)
set_option maxRecDepth 20000 in
theorem zow199 : Cond.code zm199.1 zm199.2.1 zm199.2.2.1 zm199.2.2.2.1 ∈ zTw := zpw (p := 14) (i := 72) rfl rfl rfl
theorem zok200 : zokC zm200.1 zm200.2.1 0 zc200 = true := zokQ_0 (hs := [12113, 12114, 12114, 12114]) (by decide +kernel)
theorem zoy200 : zokY zm200 = true := zokYh_ok (a := 8011) (b := 14096) (c := 6004) (by decide +kernel)
set_option maxRecDepth 20000 in
theorem zow200 : Cond.code zm200.1 zm200.2.1 zm200.2.2.1 zm200.2.2.2.1 ∈ zTw := zpw (p := 14) (i := 97) rfl rfl rfl
theorem zok201 : zokC zm201.1 zm201.2.1 0 zc201 = true := zokQ_0 (hs := [12114, 12114, 12113, 12114]) (by decide +kernel)
theorem zoy201 : zokY zm201 = true := zokYh_ok (a := 8011) (b := 14100) (c := 6005) (by decide +kernel)
set_option maxRecDepth 20000 in
theorem zow201 : Cond.code zm201.1 zm201.2.1 zm201.2.2.1 zm201.2.2.2.1 ∈ zTw := zpw (p := 14) (i := 101) rfl rfl rfl
theorem zok202 : zokC zm202.1 zm202.2.1 0 zc202 = true := zokQ_0 (hs := []) (by decide +kernel)
theorem zoy202 : zokY zm202 = true := zokYh_ok (a := 8011) (b := 14103) (c := 0) (by decide +kernel)
set_option maxRecDepth 20000 in
theorem zow202 : Cond.code zm202.1 zm202.2.1 zm202.2.2.1 zm202.2.2.2.1 ∈ zTw := zpw (p := 14) (i := 104) rfl rfl rfl
theorem zok203 : zokC zm203.1 zm203.2.1 0 zc203 = true := zokQ_0 (hs := [12114, 12097, 12097, 14094, 12115, 14094, 14098, 14094, 14098, 14098, 14102, 14094, 14098]) (by decide +kernel)
theorem zoy203 : zokY zm203 = true := zokYh_ok (a := 8011) (b := 14092) (c := 6003) (by decide +kernel)
set_option maxRecDepth 20000 in
theorem zow203 : Cond.code zm203.1 zm203.2.1 zm203.2.2.1 zm203.2.2.2.1 ∈ zTw := zpw (p := 14) (i := 93) rfl rfl rfl
theorem zok204 : zokC zm204.1 zm204.2.1 0 zc204 = true := zokQ_0 (hs := [12116]) (by decide +kernel)
theorem zoy204 : zokY zm204 = true := zokYh_ok (a := 8011) (b := 14033) (c := 5008) (by decide +kernel)
set_option maxRecDepth 20000 in
theorem zow204 : Cond.code zm204.1 zm204.2.1 zm204.2.2.1 zm204.2.2.2.1 ∈ zTw := zpw (p := 14) (i := 34) rfl rfl rfl
theorem zok205 : zokC zm205.1 zm205.2.1 0 zc205 = true := zokQ_0 (hs := [12116]) (by decide +kernel)
theorem zoy205 : zokY zm205 = true := zokYh_ok (a := 8011) (b := 13205) (c := 4014) (by decide +kernel)
set_option maxRecDepth 20000 in
theorem zow205 : Cond.code zm205.1 zm205.2.1 zm205.2.2.1 zm205.2.2.2.1 ∈ zTw := zpw (p := 13) (i := 206) rfl rfl rfl
theorem zok206 : zokC zm206.1 zm206.2.1 0 zc206 = true := zokQ_0 (hs := [12116]) (by decide +kernel)
theorem zoy206 : zokY zm206 = true := zokYh_ok (a := 8011) (b := 13159) (c := 4005) (by decide +kernel)
set_option maxRecDepth 20000 in
theorem zow206 : Cond.code zm206.1 zm206.2.1 zm206.2.2.1 zm206.2.2.2.1 ∈ zTw := zpw (p := 13) (i := 160) rfl rfl rfl
theorem zok207 : zokC zm207.1 zm207.2.1 0 zc207 = true := zokQ_0 (hs := [12116]) (by decide +kernel)
theorem zoy207 : zokY zm207 = true := zokYh_ok (a := 8011) (b := 13184) (c := 4010) (by decide +kernel)
set_option maxRecDepth 20000 in
theorem zow207 : Cond.code zm207.1 zm207.2.1 zm207.2.2.1 zm207.2.2.2.1 ∈ zTw := zpw (p := 13) (i := 185) rfl rfl rfl
theorem zok208 : zokC zm208.1 zm208.2.1 0 zc208 = true := zokQ_0 (hs := [12116]) (by decide +kernel)
theorem zoy208 : zokY zm208 = true := zokYh_ok (a := 8011) (b := 13164) (c := 4006) (by decide +kernel)
set_option maxRecDepth 20000 in
theorem zow208 : Cond.code zm208.1 zm208.2.1 zm208.2.2.1 zm208.2.2.2.1 ∈ zTw := zpw (p := 13) (i := 165) rfl rfl rfl
theorem zok209 : zokC zm209.1 zm209.2.1 0 zc209 = true := zokQ_0 (hs := [12116]) (by decide +kernel)
theorem zoy209 : zokY zm209 = true := zokYh_ok (a := 8011) (b := 13189) (c := 4011) (by decide +kernel)
set_option maxRecDepth 20000 in
theorem zow209 : Cond.code zm209.1 zm209.2.1 zm209.2.2.1 zm209.2.2.2.1 ∈ zTw := zpw (p := 13) (i := 190) rfl rfl rfl
theorem zok210 : zokC zm210.1 zm210.2.1 0 zc210 = true := zokQ_0 (hs := [12116]) (by decide +kernel)
theorem zoy210 : zokY zm210 = true := zokYh_ok (a := 8011) (b := 13213) (c := 5000) (by decide +kernel)
set_option maxRecDepth 20000 in
theorem zow210 : Cond.code zm210.1 zm210.2.1 zm210.2.2.1 zm210.2.2.2.1 ∈ zTw := zpw (p := 13) (i := 214) rfl rfl rfl
theorem zok211 : zokC zm211.1 zm211.2.1 0 zc211 = true := zokQ_0 (hs := [12116]) (by decide +kernel)
theorem zoy211 : zokY zm211 = true := zokYh_ok (a := 8011) (b := 13209) (c := 4015) (by decide +kernel)
set_option maxRecDepth 20000 in
theorem zow211 : Cond.code zm211.1 zm211.2.1 zm211.2.2.1 zm211.2.2.2.1 ∈ zTw := zpw (p := 13) (i := 210) rfl rfl rfl
theorem zok212 : zokC zm212.1 zm212.2.1 0 zc212 = true := zokQ_0 (hs := [13162, 13162]) (by decide +kernel)
theorem zoy212 : zokY zm212 = true := zokYh_ok (a := 8011) (b := 13172) (c := 4008) (by decide +kernel)
set_option maxRecDepth 20000 in
theorem zow212 : Cond.code zm212.1 zm212.2.1 zm212.2.2.1 zm212.2.2.2.1 ∈ zTw := zpw (p := 13) (i := 173) rfl rfl rfl
theorem zok213 : zokC zm213.1 zm213.2.1 0 zc213 = true := zokQ_0 (hs := [13162, 12116, 13170]) (by decide +kernel)
theorem zoy213 : zokY zm213 = true := zokYh_ok (a := 8011) (b := 13176) (c := 4009) (by decide +kernel)
set_option maxRecDepth 20000 in
theorem zow213 : Cond.code zm213.1 zm213.2.1 zm213.2.2.1 zm213.2.2.2.1 ∈ zTw := zpw (p := 13) (i := 177) rfl rfl rfl
theorem zok214 : zokC zm214.1 zm214.2.1 0 zc214 = true := zokQ_0 (hs := [13170, 13162, 13162, 13174]) (by decide +kernel)
theorem zoy214 : zokY zm214 = true := zokYh_ok (a := 8011) (b := 13168) (c := 4007) (by decide +kernel)
set_option maxRecDepth 20000 in
theorem zow214 : Cond.code zm214.1 zm214.2.1 zm214.2.2.1 zm214.2.2.2.1 ∈ zTw := zpw (p := 13) (i := 169) rfl rfl rfl
theorem zok215 : zokC zm215.1 zm215.2.1 0 zc215 = true := zokQ_0 (hs := [12116]) (by decide +kernel)
theorem zoy215 : zokY zm215 = true := zokYh_ok (a := 8011) (b := 13197) (c := 4013) (by decide +kernel)
set_option maxRecDepth 20000 in
theorem zow215 : Cond.code zm215.1 zm215.2.1 zm215.2.2.1 zm215.2.2.2.1 ∈ zTw := zpw (p := 13) (i := 198) rfl rfl rfl
theorem zok216 : zokC zm216.1 zm216.2.1 0 zc216 = true := zokQ_0 (hs := [13195, 12116, 13162, 13187, 13162, 13187, 13166, 13187]) (by decide +kernel)
theorem zoy216 : zokY zm216 = true := zokYh_ok (a := 8011) (b := 13193) (c := 4012) (by decide +kernel)
set_option maxRecDepth 20000 in
theorem zow216 : Cond.code zm216.1 zm216.2.1 zm216.2.2.1 zm216.2.2.2.1 ∈ zTw := zpw (p := 13) (i := 194) rfl rfl rfl
theorem zok217 : zokC zm217.1 zm217.2.1 0 zc217 = true := zokQ_0 (hs := [13157, 13161, 13042, 13162, 13166, 13174]) (by decide +kernel)
theorem zoy217 : zokY zm217 = true := zokYh_ok (a := 8011) (b := 13154) (c := 13155) (by decide +kernel)
set_option maxRecDepth 20000 in
theorem zow217 : Cond.code zm217.1 zm217.2.1 zm217.2.2.1 zm217.2.2.2.1 ∈ zTw := zpw (p := 13) (i := 156) rfl rfl rfl
theorem zok218 : zokC zm218.1 zm218.2.1 0 zc218 = true := zokQ_0 (hs := [13182, 13186, 13042, 13187, 12116, 13191]) (by decide +kernel)
theorem zoy218 : zokY zm218 = true := zokYh_ok (a := 8011) (b := 13179) (c := 13180) (by decide +kernel)
set_option maxRecDepth 20000 in
theorem zow218 : Cond.code zm218.1 zm218.2.1 zm218.2.2.1 zm218.2.2.2.1 ∈ zTw := zpw (p := 13) (i := 181) rfl rfl rfl
theorem zok219 : zokC zm219.1 zm219.2.1 0 zc219 = true := zokQ_0 (hs := [13203, 13203, 13042, 13207, 13211]) (by decide +kernel)
theorem zoy219 : zokY zm219 = true := zokYh_ok (a := 8011) (b := 13200) (c := 13201) (by decide +kernel)
set_option maxRecDepth 20000 in
theorem zow219 : Cond.code zm219.1 zm219.2.1 zm219.2.2.1 zm219.2.2.2.1 ∈ zTw := zpw (p := 13) (i := 202) rfl rfl rfl
theorem zok220 : zokC zm220.1 zm220.2.1 0 zc220 = true := zokQ_0 (hs := [12119, 12118, 12118, 12119, 12119, 12118, 12119, 12116, 12119, 12119]) (by decide +kernel)
theorem zoy220 : zokY zm220 = true := zokYh_ok (a := 8011) (b := 13229) (c := 5002) (by decide +kernel)
set_option maxRecDepth 20000 in
theorem zow220 : Cond.code zm220.1 zm220.2.1 zm220.2.2.1 zm220.2.2.2.1 ∈ zTw := zpw (p := 13) (i := 230) rfl rfl rfl
theorem zok221 : zokC zm221.1 zm221.2.1 0 zc221 = true := zokQ_0 (hs := [12119, 12119, 12119, 12116, 12118, 12119, 12119]) (by decide +kernel)
theorem zoy221 : zokY zm221 = true := zokYh_ok (a := 8011) (b := 13216) (c := 13217) (by decide +kernel)
set_option maxRecDepth 20000 in
theorem zow221 : Cond.code zm221.1 zm221.2.1 zm221.2.2.1 zm221.2.2.2.1 ∈ zTw := zpw (p := 13) (i := 218) rfl rfl rfl
theorem zok222 : zokC zm222.1 zm222.2.1 0 zc222 = true := zokQ_0 (hs := [13162, 13162, 13211]) (by decide +kernel)
theorem zoy222 : zokY zm222 = true := zokYh_ok (a := 8011) (b := 13225) (c := 5001) (by decide +kernel)
set_option maxRecDepth 20000 in
theorem zow222 : Cond.code zm222.1 zm222.2.1 zm222.2.2.1 zm222.2.2.2.1 ∈ zTw := zpw (p := 13) (i := 226) rfl rfl rfl
theorem zok223 : zokC zm223.1 zm223.2.1 0 zc223 = true := zokQ_0 (hs := [13162, 12116, 12116, 12116, 12116]) (by decide +kernel)
theorem zoy223 : zokY zm223 = true := zokYh_ok (a := 8011) (b := 13233) (c := 5003) (by decide +kernel)
set_option maxRecDepth 20000 in
theorem zow223 : Cond.code zm223.1 zm223.2.1 zm223.2.2.1 zm223.2.2.2.1 ∈ zTw := zpw (p := 13) (i := 234) rfl rfl rfl
theorem zok224 : zokC zm224.1 zm224.2.1 0 zc224 = true := zokQ_0 (hs := [12116, 13162, 12116, 12116]) (by decide +kernel)
theorem zoy224 : zokY zm224 = true := zokYh_ok (a := 8011) (b := 14001) (c := 5004) (by decide +kernel)
set_option maxRecDepth 20000 in
theorem zow224 : Cond.code zm224.1 zm224.2.1 zm224.2.2.1 zm224.2.2.2.1 ∈ zTw := zpw (p := 14) (i := 2) rfl rfl rfl
theorem zok225 : zokC zm225.1 zm225.2.1 0 zc225 = true := zokQ_0 (hs := [12116, 12116, 12116, 13187, 13187]) (by decide +kernel)
theorem zoy225 : zokY zm225 = true := zokYh_ok (a := 8011) (b := 14009) (c := 5005) (by decide +kernel)
set_option maxRecDepth 20000 in
theorem zow225 : Cond.code zm225.1 zm225.2.1 zm225.2.2.1 zm225.2.2.2.1 ∈ zTw := zpw (p := 14) (i := 10) rfl rfl rfl
theorem zok226 : zokC zm226.1 zm226.2.1 0 zc226 = true := zokQ_0 (hs := [13157, 13203, 13223, 13227, 13231, 13166]) (by decide +kernel)
theorem zoy226 : zokY zm226 = true := zokYh_ok (a := 8011) (b := 13220) (c := 13221) (by decide +kernel)
set_option maxRecDepth 20000 in
theorem zow226 : Cond.code zm226.1 zm226.2.1 zm226.2.2.1 zm226.2.2.2.1 ∈ zTw := zpw (p := 13) (i := 222) rfl rfl rfl
theorem zok227 : zokC zm227.1 zm227.2.1 0 zc227 = true := zokQ_0 (hs := [13157, 13170, 13227, 13239, 13162]) (by decide +kernel)
theorem zoy227 : zokY zm227 = true := zokYh_ok (a := 8011) (b := 13236) (c := 13237) (by decide +kernel)
set_option maxRecDepth 20000 in
theorem zow227 : Cond.code zm227.1 zm227.2.1 zm227.2.2.1 zm227.2.2.2.1 ∈ zTw := zpw (p := 13) (i := 238) rfl rfl rfl
theorem zok228 : zokC zm228.1 zm228.2.1 0 zc228 = true := zokQ_0 (hs := [13182, 13191, 13227, 14007]) (by decide +kernel)
theorem zoy228 : zokY zm228 = true := zokYh_ok (a := 8011) (b := 14004) (c := 14005) (by decide +kernel)
set_option maxRecDepth 20000 in
theorem zow228 : Cond.code zm228.1 zm228.2.1 zm228.2.2.1 zm228.2.2.2.1 ∈ zTw := zpw (p := 14) (i := 6) rfl rfl rfl
theorem zok229 : zokC zm229.1 zm229.2.1 0 zc229 = true := zokQ_0 (hs := [12116, 12116]) (by decide +kernel)
theorem zoy229 : zokY zm229 = true := zokYh_ok (a := 8011) (b := 14017) (c := 5006) (by decide +kernel)
set_option maxRecDepth 20000 in
theorem zow229 : Cond.code zm229.1 zm229.2.1 zm229.2.2.1 zm229.2.2.2.1 ∈ zTw := zpw (p := 14) (i := 18) rfl rfl rfl
theorem zok230 : zokC zm230.1 zm230.2.1 0 zc230 = true := zokQ_0 (hs := [13203, 13203, 13211, 13211, 13227, 14015]) (by decide +kernel)
theorem zoy230 : zokY zm230 = true := zokYh_ok (a := 8011) (b := 14012) (c := 14013) (by decide +kernel)
set_option maxRecDepth 20000 in
theorem zow230 : Cond.code zm230.1 zm230.2.1 zm230.2.2.1 zm230.2.2.2.1 ∈ zTw := zpw (p := 14) (i := 14) rfl rfl rfl
theorem zok231 : zokC zm231.1 zm231.2.1 0 zc231 = true := zokQ_0 (hs := [12116, 13239]) (by decide +kernel)
theorem zoy231 : zokY zm231 = true := zokYh_ok (a := 8011) (b := 14025) (c := 5007) (by decide +kernel)
set_option maxRecDepth 20000 in
theorem zow231 : Cond.code zm231.1 zm231.2.1 zm231.2.2.1 zm231.2.2.2.1 ∈ zTw := zpw (p := 14) (i := 26) rfl rfl rfl
theorem zok232 : zokC zm232.1 zm232.2.1 0 zc232 = true := zokQ_0 (hs := [13157, 13203, 13162, 13227, 13162, 14023]) (by decide +kernel)
theorem zoy232 : zokY zm232 = true := zokYh_ok (a := 8011) (b := 14020) (c := 14021) (by decide +kernel)
set_option maxRecDepth 20000 in
theorem zow232 : Cond.code zm232.1 zm232.2.1 zm232.2.2.1 zm232.2.2.2.1 ∈ zTw := zpw (p := 14) (i := 22) rfl rfl rfl
theorem zok233 : zokC zm233.1 zm233.2.1 0 zc233 = true := zokQ_0 (hs := [12116, 13170, 12116, 13162, 12116, 12116]) (by decide +kernel)
theorem zoy233 : zokY zm233 = true := zokYh_ok (a := 8011) (b := 14037) (c := 5009) (by decide +kernel)
set_option maxRecDepth 20000 in
theorem zow233 : Cond.code zm233.1 zm233.2.1 zm233.2.2.1 zm233.2.2.2.1 ∈ zTw := zpw (p := 14) (i := 38) rfl rfl rfl
theorem zok234 : zokC zm234.1 zm234.2.1 0 zc234 = true := zokQ_0 (hs := [14031, 12116, 13227, 14035]) (by decide +kernel)
theorem zoy234 : zokY zm234 = true := zokYh_ok (a := 8011) (b := 14028) (c := 14029) (by decide +kernel)
set_option maxRecDepth 20000 in
theorem zow234 : Cond.code zm234.1 zm234.2.1 zm234.2.2.1 zm234.2.2.2.1 ∈ zTw := zpw (p := 14) (i := 30) rfl rfl rfl
theorem zok235 : zokC zm235.1 zm235.2.1 0 zc235 = true := zokQ_0 (hs := []) (by decide +kernel)
theorem zoy235 : zokY zm235 = true := zokYh_ok (a := 8011) (b := 14048) (c := 0) (by decide +kernel)
set_option maxRecDepth 20000 in
theorem zow235 : Cond.code zm235.1 zm235.2.1 zm235.2.2.1 zm235.2.2.2.1 ∈ zTw := zpw (p := 14) (i := 49) rfl rfl rfl
theorem zok236 : zokC zm236.1 zm236.2.1 0 zc236 = true := zokQ_0 (hs := [12116, 14047, 12116]) (by decide +kernel)
theorem zoy236 : zokY zm236 = true := zokYh_ok (a := 8011) (b := 14060) (c := 5013) (by decide +kernel)
set_option maxRecDepth 20000 in
theorem zow236 : Cond.code zm236.1 zm236.2.1 zm236.2.2.1 zm236.2.2.2.1 ∈ zTw := zpw (p := 14) (i := 61) rfl rfl rfl
theorem zok237 : zokC zm237.1 zm237.2.1 0 zc237 = true := zokQ_0 (hs := [14058, 14062]) (by decide +kernel)
theorem zoy237 : zokY zm237 = true := zokYh_ok (a := 8011) (b := 14056) (c := 5012) (by decide +kernel)
set_option maxRecDepth 20000 in
theorem zow237 : Cond.code zm237.1 zm237.2.1 zm237.2.2.1 zm237.2.2.2.1 ∈ zTw := zpw (p := 14) (i := 57) rfl rfl rfl
theorem zok238 : zokC zm238.1 zm238.2.1 0 zc238 = true := zokQ_0 (hs := [14058]) (by decide +kernel)
theorem zoy238 : zokY zm238 = true := zokYh_ok (a := 8011) (b := 14128) (c := 6010) (by decide +kernel)
set_option maxRecDepth 20000 in
theorem zow238 : Cond.code zm238.1 zm238.2.1 zm238.2.2.1 zm238.2.2.2.1 ∈ zTw := zpw (p := 14) (i := 129) rfl rfl rfl
theorem zok239 : zokC zm239.1 zm239.2.1 0 zc239 = true := zokQ_0 (hs := [14058, 13211]) (by decide +kernel)
theorem zoy239 : zokY zm239 = true := zokYh_ok (a := 8011) (b := 14132) (c := 6011) (by decide +kernel)
set_option maxRecDepth 20000 in
theorem zow239 : Cond.code zm239.1 zm239.2.1 zm239.2.2.1 zm239.2.2.2.1 ∈ zTw := zpw (p := 14) (i := 133) rfl rfl rfl
theorem zok240 : zokC zm240.1 zm240.2.1 0 zc240 = true := zokQ_0 (hs := [14054, 14058, 14058, 14058, 13207]) (by decide +kernel)
theorem zoy240 : zokY zm240 = true := zokYh_ok (a := 8011) (b := 14052) (c := 5011) (by decide +kernel)
set_option maxRecDepth 20000 in
theorem zow240 : Cond.code zm240.1 zm240.2.1 zm240.2.2.1 zm240.2.2.2.1 ∈ zTw := zpw (p := 14) (i := 53) rfl rfl rfl
theorem zok241 : zokC zm241.1 zm241.2.1 0 zc241 = true := zokQ_0 (hs := [12116, 12116, 14047, 14050, 12120]) (by decide +kernel)
theorem zoy241 : zokY zm241 = true := zokYh_ok (a := 8011) (b := 14045) (c := 5010) (by decide +kernel)
set_option maxRecDepth 20000 in
theorem zow241 : Cond.code zm241.1 zm241.2.1 zm241.2.2.1 zm241.2.2.2.1 ∈ zTw := zpw (p := 14) (i := 46) rfl rfl rfl
theorem zok242 : zokC zm242.1 zm242.2.1 0 zc242 = true := zokQ_0 (hs := [14031, 14043, 13227, 12116, 12120, 14058, 12120, 14058]) (by decide +kernel)
theorem zoy242 : zokY zm242 = true := zokYh_ok (a := 8011) (b := 14040) (c := 14041) (by decide +kernel)
set_option maxRecDepth 20000 in
theorem zow242 : Cond.code zm242.1 zm242.2.1 zm242.2.2.1 zm242.2.2.2.1 ∈ zTw := zpw (p := 14) (i := 42) rfl rfl rfl
theorem zok243 : zokC zm243.1 zm243.2.1 0 zc243 = true := zokQ_0 (hs := [13162, 12116, 13195, 13187, 13187, 13162, 13187, 13187, 13187, 12115, 12115, 13162, 12115, 13162, 12115, 12115, 12115, 13162, 12115, 13166, 12115, 13162, 12115, 12116, 12115, 12115, 12115, 13207, 12115, 13211]) (by decide +kernel)
theorem zoy243 : zokY zm243 = true := zokYh_ok (a := 8011) (b := 14084) (c := 6001) (by decide +kernel)
set_option maxRecDepth 20000 in
theorem zow243 : Cond.code zm243.1 zm243.2.1 zm243.2.2.1 zm243.2.2.2.1 ∈ zTw := zpw (p := 14) (i := 85) rfl rfl rfl
theorem zok244 : zokC zm244.1 zm244.2.1 0 zc244 = true := zokQ_0 (hs := [12100, 12099, 12099, 12099, 14090, 12099, 12099, 14090]) (by decide +kernel)
theorem zoy244 : zokY zm244 = true := zokYh_ok (a := 8011) (b := 14088) (c := 6002) (by decide +kernel)
set_option maxRecDepth 20000 in
theorem zow244 : Cond.code zm244.1 zm244.2.1 zm244.2.2.1 zm244.2.2.2.1 ∈ zTw := zpw (p := 14) (i := 89) rfl rfl rfl
end
section
theorem zok245 : zokC zm245.1 zm245.2.1 0 zc245 = true := zokQ_0 (hs := [12116, 13223, 14082, 14086]) (by decide +kernel)
theorem zoy245 : zokY zm245 = true := zokYh_ok (a := 8011) (b := 14080) (c := 6000) (by decide +kernel)
set_option maxRecDepth 20000 in
theorem zow245 : Cond.code zm245.1 zm245.2.1 zm245.2.2.1 zm245.2.2.2.1 ∈ zTw := zpw (p := 14) (i := 81) rfl rfl rfl
theorem zok246 : zokC zm246.1 zm246.2.1 0 zc246 = true := zokQ_0 (hs := [12116, 13191, 14007]) (by decide +kernel)
theorem zoy246 : zokY zm246 = true := zokYh_ok (a := 8011) (b := 14107) (c := 6006) (by decide +kernel)
set_option maxRecDepth 20000 in
theorem zow246 : Cond.code zm246.1 zm246.2.1 zm246.2.2.1 zm246.2.2.2.1 ∈ zTw := zpw (p := 14) (i := 108) rfl rfl rfl
theorem zok247 : zokC zm247.1 zm247.2.1 0 zc247 = true := zokQ_0 (hs := [12116, 14078, 13231, 14105, 14035]) (by decide +kernel)
theorem zoy247 : zokY zm247 = true := zokYh_ok (a := 8011) (b := 14076) (c := 5015) (by decide +kernel)
set_option maxRecDepth 20000 in
theorem zow247 : Cond.code zm247.1 zm247.2.1 zm247.2.2.1 zm247.2.2.2.1 ∈ zTw := zpw (p := 14) (i := 77) rfl rfl rfl
theorem zok248 : zokC zm248.1 zm248.2.1 0 zc248 = true := zokQ_0 (hs := [14031, 14069, 14073, 13042, 12116, 12119, 14074]) (by decide +kernel)
theorem zoy248 : zokY zm248 = true := zokYh_ok (a := 8011) (b := 14066) (c := 14067) (by decide +kernel)
set_option maxRecDepth 20000 in
theorem zow248 : Cond.code zm248.1 zm248.2.1 zm248.2.2.1 zm248.2.2.2.1 ∈ zTw := zpw (p := 14) (i := 68) rfl rfl rfl
theorem zok249 : zokC zm249.1 zm249.2.1 0 zc249 = true := zokQ_0 (hs := [14058, 14054, 13162, 14126, 13162, 14126, 13162, 14130]) (by decide +kernel)
theorem zoy249 : zokY zm249 = true := zokYh_ok (a := 8011) (b := 14124) (c := 6009) (by decide +kernel)
set_option maxRecDepth 20000 in
theorem zow249 : Cond.code zm249.1 zm249.2.1 zm249.2.2.1 zm249.2.2.2.1 ∈ zTw := zpw (p := 14) (i := 125) rfl rfl rfl
theorem zok250 : zokC zm250.1 zm250.2.1 0 zc250 = true := zokQ_0 (hs := [12116, 14047, 14122, 12121]) (by decide +kernel)
theorem zoy250 : zokY zm250 = true := zokYh_ok (a := 8011) (b := 14120) (c := 6008) (by decide +kernel)
set_option maxRecDepth 20000 in
theorem zow250 : Cond.code zm250.1 zm250.2.1 zm250.2.2.1 zm250.2.2.2.1 ∈ zTw := zpw (p := 14) (i := 121) rfl rfl rfl
theorem zok251 : zokC zm251.1 zm251.2.1 0 zc251 = true := zokQ_0 (hs := [13162, 13162, 12116, 14118]) (by decide +kernel)
theorem zoy251 : zokY zm251 = true := zokYh_ok (a := 8011) (b := 14116) (c := 6007) (by decide +kernel)
set_option maxRecDepth 20000 in
theorem zow251 : Cond.code zm251.1 zm251.2.1 zm251.2.2.1 zm251.2.2.2.1 ∈ zTw := zpw (p := 14) (i := 117) rfl rfl rfl
theorem zok252 : zokC zm252.1 zm252.2.1 0 zc252 = true := zokQ_0 (hs := [13157, 13203, 14113, 13042, 13162, 13170, 14114, 13166, 12121, 14058]) (by decide +kernel)
theorem zoy252 : zokY zm252 = true := zokYh_ok (a := 8011) (b := 14110) (c := 14111) (by decide +kernel)
set_option maxRecDepth 20000 in
theorem zow252 : Cond.code zm252.1 zm252.2.1 zm252.2.2.1 zm252.2.2.2.1 ∈ zTw := zpw (p := 14) (i := 112) rfl rfl rfl
theorem zok253 : zokC zm253.1 zm253.2.1 0 zc253 = true := zokQ_0 (hs := [12116, 12116, 13195, 13162, 13187, 13187, 14114, 12122, 13166, 13187]) (by decide +kernel)
theorem zoy253 : zokY zm253 = true := zokYh_ok (a := 8011) (b := 14144) (c := 6013) (by decide +kernel)
set_option maxRecDepth 20000 in
theorem zow253 : Cond.code zm253.1 zm253.2.1 zm253.2.2.1 zm253.2.2.2.1 ∈ zTw := zpw (p := 14) (i := 145) rfl rfl rfl
theorem zok254 : zokC zm254.1 zm254.2.1 0 zc254 = true := zokQ_0 (hs := [12116, 12116, 14047, 12116]) (by decide +kernel)
theorem zoy254 : zokY zm254 = true := zokYh_ok (a := 8011) (b := 14152) (c := 6015) (by decide +kernel)
set_option maxRecDepth 20000 in
theorem zow254 : Cond.code zm254.1 zm254.2.1 zm254.2.2.1 zm254.2.2.2.1 ∈ zTw := zpw (p := 14) (i := 153) rfl rfl rfl
theorem zok255 : zokC zm255.1 zm255.2.1 0 zc255 = true := zokQ_0 (hs := [12116, 14150, 12122, 14062, 13187]) (by decide +kernel)
theorem zoy255 : zokY zm255 = true := zokYh_ok (a := 8011) (b := 14148) (c := 6014) (by decide +kernel)
set_option maxRecDepth 20000 in
theorem zow255 : Cond.code zm255.1 zm255.2.1 zm255.2.2.1 zm255.2.2.2.1 ∈ zTw := zpw (p := 14) (i := 149) rfl rfl rfl
theorem zok256 : zokC zm256.1 zm256.2.1 0 zc256 = true := zokQ_0 (hs := [14142, 12124, 12116, 12116, 14047, 14146, 12124, 12124, 12116, 12123, 14150, 12124]) (by decide +kernel)
theorem zoy256 : zokY zm256 = true := zokYh_ok (a := 8011) (b := 14140) (c := 6012) (by decide +kernel)
set_option maxRecDepth 20000 in
theorem zow256 : Cond.code zm256.1 zm256.2.1 zm256.2.2.1 zm256.2.2.2.1 ∈ zTw := zpw (p := 14) (i := 141) rfl rfl rfl
theorem zok257 : zokC zm257.1 zm257.2.1 0 zc257 = true := zokQ_0 (hs := [14031, 14113, 13042, 14138, 12124, 12116, 12123]) (by decide +kernel)
theorem zoy257 : zokY zm257 = true := zokYh_ok (a := 8011) (b := 14135) (c := 14136) (by decide +kernel)
set_option maxRecDepth 20000 in
theorem zow257 : Cond.code zm257.1 zm257.2.1 zm257.2.2.1 zm257.2.2.2.1 ∈ zTw := zpw (p := 14) (i := 137) rfl rfl rfl
theorem zok258 : zokC zm258.1 zm258.2.1 0 zc258 = true := zokQ_0 (hs := [13157, 14138, 14138]) (by decide +kernel)
theorem zoy258 : zokY zm258 = true := zokYh_ok (a := 8011) (b := 14155) (c := 14156) (by decide +kernel)
set_option maxRecDepth 20000 in
theorem zow258 : Cond.code zm258.1 zm258.2.1 zm258.2.2.1 zm258.2.2.2.1 ∈ zTw := zpw (p := 14) (i := 157) rfl rfl rfl
theorem zok259 : zokC zm259.1 zm259.2.1 0 zc259 = true := zokQ_0 (hs := [12125, 12116]) (by decide +kernel)
theorem zoy259 : zokY zm259 = true := zokYh_ok (a := 8011) (b := 14164) (c := 7000) (by decide +kernel)
set_option maxRecDepth 20000 in
theorem zow259 : Cond.code zm259.1 zm259.2.1 zm259.2.2.1 zm259.2.2.2.1 ∈ zTw := zpw (p := 14) (i := 165) rfl rfl rfl
theorem zok260 : zokC zm260.1 zm260.2.1 0 zc260 = true := zokQ_0 (hs := [12116, 12125]) (by decide +kernel)
theorem zoy260 : zokY zm260 = true := zokYh_ok (a := 8011) (b := 14168) (c := 7001) (by decide +kernel)
set_option maxRecDepth 20000 in
theorem zow260 : Cond.code zm260.1 zm260.2.1 zm260.2.2.1 zm260.2.2.2.1 ∈ zTw := zpw (p := 14) (i := 169) rfl rfl rfl
theorem zok261 : zokC zm261.1 zm261.2.1 0 zc261 = true := zokQ_0 (hs := [13157, 13042, 13162, 14138, 12116, 13162, 14162, 14023, 14138, 14166]) (by decide +kernel)
theorem zoy261 : zokY zm261 = true := zokYh_ok (a := 8011) (b := 14159) (c := 14160) (by decide +kernel)
set_option maxRecDepth 20000 in
theorem zow261 : Cond.code zm261.1 zm261.2.1 zm261.2.2.1 zm261.2.2.2.1 ∈ zTw := zpw (p := 14) (i := 161) rfl rfl rfl
theorem zok262 : zokC zm262.1 zm262.2.1 0 zc262 = true := zokQ_0 (hs := [14031, 14174, 13042, 14138, 12116, 12116, 13211, 13211, 14162, 14015, 14138, 14166]) (by decide +kernel)
theorem zoy262 : zokY zm262 = true := zokYh_ok (a := 8011) (b := 14171) (c := 14172) (by decide +kernel)
set_option maxRecDepth 20000 in
theorem zow262 : Cond.code zm262.1 zm262.2.1 zm262.2.2.1 zm262.2.2.2.1 ∈ zTw := zpw (p := 14) (i := 173) rfl rfl rfl
theorem zok263 : zokC zm263.1 zm263.2.1 0 zc263 = true := zokQ_0 (hs := [12116, 12116, 14062, 13207]) (by decide +kernel)
theorem zoy263 : zokY zm263 = true := zokYh_ok (a := 8011) (b := 14181) (c := 7002) (by decide +kernel)
set_option maxRecDepth 20000 in
theorem zow263 : Cond.code zm263.1 zm263.2.1 zm263.2.2.1 zm263.2.2.2.1 ∈ zTw := zpw (p := 14) (i := 182) rfl rfl rfl
theorem zok264 : zokC zm264.1 zm264.2.1 0 zc264 = true := zokQ_0 (hs := [14031, 13161, 13042, 12116, 14179, 14062, 14043, 12120, 14058]) (by decide +kernel)
theorem zoy264 : zokY zm264 = true := zokYh_ok (a := 8011) (b := 14176) (c := 14177) (by decide +kernel)
set_option maxRecDepth 20000 in
theorem zow264 : Cond.code zm264.1 zm264.2.1 zm264.2.2.1 zm264.2.2.2.1 ∈ zTw := zpw (p := 14) (i := 178) rfl rfl rfl
theorem zok265 : zokC zm265.1 zm265.2.1 0 zc265 = true := zokQ_0 (hs := [13203, 12116, 13207, 13207]) (by decide +kernel)
theorem zoy265 : zokY zm265 = true := zokYh_ok (a := 8011) (b := 14184) (c := 14185) (by decide +kernel)
set_option maxRecDepth 20000 in
theorem zow265 : Cond.code zm265.1 zm265.2.1 zm265.2.2.1 zm265.2.2.2.1 ∈ zTw := zpw (p := 14) (i := 186) rfl rfl rfl
theorem zok266 : zokC zm266.1 zm266.2.1 0 zc266 = true := zokQ_0 (hs := [12126, 12127, 12128, 12116, 12116, 14047, 14058, 13162, 14054, 13162, 14126, 13162, 14130, 13162, 14058, 12126, 12128, 12127, 12127, 12126, 12126]) (by decide +kernel)
theorem zoy266 : zokY zm266 = true := zokYh_ok (a := 8011) (b := 14193) (c := 7003) (by decide +kernel)
set_option maxRecDepth 20000 in
theorem zow266 : Cond.code zm266.1 zm266.2.1 zm266.2.2.1 zm266.2.2.2.1 ∈ zTw := zpw (p := 14) (i := 194) rfl rfl rfl
theorem zok267 : zokC zm267.1 zm267.2.1 0 zc267 = true := zokQ_0 (hs := [13157, 14174, 13042, 13170, 13162, 14191, 12126, 12127, 12128]) (by decide +kernel)
theorem zoy267 : zokY zm267 = true := zokYh_ok (a := 8011) (b := 14188) (c := 14189) (by decide +kernel)
set_option maxRecDepth 20000 in
theorem zow267 : Cond.code zm267.1 zm267.2.1 zm267.2.2.1 zm267.2.2.2.1 ∈ zTw := zpw (p := 14) (i := 190) rfl rfl rfl
theorem zok268 : zokC zm268.1 zm268.2.1 0 zc268 = true := zokQ_0 (hs := [12116, 13195]) (by decide +kernel)
theorem zoy268 : zokY zm268 = true := zokYh_ok (a := 8011) (b := 14201) (c := 7004) (by decide +kernel)
set_option maxRecDepth 20000 in
theorem zow268 : Cond.code zm268.1 zm268.2.1 zm268.2.2.1 zm268.2.2.2.1 ∈ zTw := zpw (p := 14) (i := 202) rfl rfl rfl
theorem zok269 : zokC zm269.1 zm269.2.1 0 zc269 = true := zokQ_0 (hs := [14031, 14069, 14199, 12116, 14162, 14074, 14199, 12116, 14166]) (by decide +kernel)
theorem zoy269 : zokY zm269 = true := zokYh_ok (a := 8011) (b := 14196) (c := 14197) (by decide +kernel)
set_option maxRecDepth 20000 in
theorem zow269 : Cond.code zm269.1 zm269.2.1 zm269.2.2.1 zm269.2.2.2.1 ∈ zTw := zpw (p := 14) (i := 198) rfl rfl rfl
theorem zok270 : zokC zm270.1 zm270.2.1 0 zc270 = true := zokQ_0 (hs := [12116, 13162, 13162, 14114]) (by decide +kernel)
theorem zoy270 : zokY zm270 = true := zokYh_ok (a := 8011) (b := 14214) (c := 7006) (by decide +kernel)
set_option maxRecDepth 20000 in
theorem zow270 : Cond.code zm270.1 zm270.2.1 zm270.2.2.1 zm270.2.2.2.1 ∈ zTw := zpw (p := 14) (i := 215) rfl rfl rfl
theorem zok271 : zokC zm271.1 zm271.2.1 0 zc271 = true := zokQ_0 (hs := [12116, 14162, 14015, 14212, 14166]) (by decide +kernel)
theorem zoy271 : zokY zm271 = true := zokYh_ok (a := 8011) (b := 14210) (c := 7005) (by decide +kernel)
set_option maxRecDepth 20000 in
theorem zow271 : Cond.code zm271.1 zm271.2.1 zm271.2.2.1 zm271.2.2.2.1 ∈ zTw := zpw (p := 14) (i := 211) rfl rfl rfl
theorem zok272 : zokC zm272.1 zm272.2.1 0 zc272 = true := zokQ_0 (hs := [14031, 14207, 13042, 12116, 14208]) (by decide +kernel)
theorem zoy272 : zokY zm272 = true := zokYh_ok (a := 8011) (b := 14204) (c := 14205) (by decide +kernel)
set_option maxRecDepth 20000 in
theorem zow272 : Cond.code zm272.1 zm272.2.1 zm272.2.2.1 zm272.2.2.2.1 ∈ zTw := zpw (p := 14) (i := 206) rfl rfl rfl
theorem zok273 : zokC zm273.1 zm273.2.1 0 zc273 = true := zokQ_0 (hs := [12117, 12117]) (by decide +kernel)
theorem zoy273 : zokY zm273 = true := zokYh_ok (a := 8011) (b := 14217) (c := 14218) (by decide +kernel)
set_option maxRecDepth 20000 in
theorem zow273 : Cond.code zm273.1 zm273.2.1 zm273.2.2.1 zm273.2.2.2.1 ∈ zTw := zpw (p := 14) (i := 219) rfl rfl rfl
theorem zok274 : zokC zm274.1 zm274.2.1 0 zc274 = true := zokQ_0 (hs := [12129, 14233, 14234, 14235, 12129, 12129, 14236]) (by decide +kernel)
theorem zoy274 : zokY zm274 = true := zokYh_ok (a := 8011) (b := 14231) (c := 7008) (by decide +kernel)
set_option maxRecDepth 20000 in
theorem zow274 : Cond.code zm274.1 zm274.2.1 zm274.2.2.1 zm274.2.2.2.1 ∈ zTw := zpw (p := 14) (i := 232) rfl rfl rfl
theorem zok275 : zokC zm275.1 zm275.2.1 0 zc275 = true := zokQ_0 (hs := [12116, 12116, 14229, 12116, 13239, 13223, 13231]) (by decide +kernel)
theorem zoy275 : zokY zm275 = true := zokYh_ok (a := 8011) (b := 14227) (c := 7007) (by decide +kernel)
set_option maxRecDepth 20000 in
theorem zow275 : Cond.code zm275.1 zm275.2.1 zm275.2.2.1 zm275.2.2.2.1 ∈ zTw := zpw (p := 14) (i := 228) rfl rfl rfl
theorem zok276 : zokC zm276.1 zm276.2.1 0 zc276 = true := zokQ_0 (hs := [14031, 14224, 13042, 14073, 13042, 13042, 12117, 12129, 14162, 14225, 14105, 14035, 14166]) (by decide +kernel)
theorem zoy276 : zokY zm276 = true := zokYh_ok (a := 8011) (b := 14221) (c := 14222) (by decide +kernel)
set_option maxRecDepth 20000 in
theorem zow276 : Cond.code zm276.1 zm276.2.1 zm276.2.2.1 zm276.2.2.2.1 ∈ zTw := zpw (p := 14) (i := 223) rfl rfl rfl
theorem zok277 : zokC zm277.1 zm277.2.1 0 zc277 = true := zokQ_0 (hs := [12116, 12096, 12116, 12116, 12116, 13195, 12116, 12119, 12117, 12095]) (by decide +kernel)
theorem zoy277 : zokY zm277 = true := zokYh_ok (a := 8011) (b := 14238) (c := 14239) (by decide +kernel)
set_option maxRecDepth 20000 in
theorem zow277 : Cond.code zm277.1 zm277.2.1 zm277.2.2.1 zm277.2.2.2.1 ∈ zTw := zpw (p := 15) (i := 0) rfl rfl rfl
theorem zok278 : zokC zm278.1 zm278.2.1 0 zc278 = true := zokQ_0 (hs := [15005, 13042, 12132, 12131, 12117, 12130, 12116, 12116]) (by decide +kernel)
theorem zoy278 : zokY zm278 = true := zokYh_ok (a := 8011) (b := 15002) (c := 15003) (by decide +kernel)
set_option maxRecDepth 20000 in
theorem zow278 : Cond.code zm278.1 zm278.2.1 zm278.2.2.1 zm278.2.2.2.1 ∈ zTw := zpw (p := 15) (i := 4) rfl rfl rfl
theorem zok279 : zokC zm279.1 zm279.2.1 0 zc279 = true := zokQ_0 (hs := [15005, 13042, 12132, 12131, 12117, 12119, 12116, 12130, 12116]) (by decide +kernel)
theorem zoy279 : zokY zm279 = true := zokYh_ok (a := 8011) (b := 15007) (c := 15008) (by decide +kernel)
set_option maxRecDepth 20000 in
theorem zow279 : Cond.code zm279.1 zm279.2.1 zm279.2.2.1 zm279.2.2.2.1 ∈ zTw := zpw (p := 15) (i := 9) rfl rfl rfl
theorem zok280 : zokC zm280.1 zm280.2.1 0 zc280 = true := zokQ_0 (hs := [11149, 11150, 11150, 11151]) (by decide +kernel)
theorem zoy280 : zokY zm280 = true := zokYh_ok (a := 8020) (b := 11147) (c := 0) (by decide +kernel)
set_option maxRecDepth 20000 in
theorem zow280 : Cond.code zm280.1 zm280.2.1 zm280.2.2.1 zm280.2.2.2.1 ∈ zTw := zpw (p := 11) (i := 148) rfl rfl rfl
theorem zok281 : zokC zm281.1 zm281.2.1 0 zc281 = true := zokQ_0 (hs := [15010, 9103]) (by decide +kernel)
theorem zoy281 : zokY zm281 = true := zokYh_ok (a := 8013) (b := 9100) (c := 9101) (by decide +kernel)
set_option maxRecDepth 20000 in
theorem zow281 : Cond.code zm281.1 zm281.2.1 zm281.2.2.1 zm281.2.2.2.1 ∈ zTw := zpw (p := 9) (i := 102) rfl rfl rfl
theorem zok282 : zokC zm282.1 zm282.2.1 0 zc282 = true := zokQ_0 (hs := [9113, 15010, 9117, 15010, 9128]) (by decide +kernel)
theorem zoy282 : zokY zm282 = true := zokYh_ok (a := 8013) (b := 9110) (c := 9111) (by decide +kernel)
set_option maxRecDepth 20000 in
theorem zow282 : Cond.code zm282.1 zm282.2.1 zm282.2.2.1 zm282.2.2.2.1 ∈ zTw := zpw (p := 9) (i := 112) rfl rfl rfl
theorem zok283 : zokC zm283.1 zm283.2.1 0 zc283 = true := zokQ_0 (hs := [9107, 15011]) (by decide +kernel)
theorem zoy283 : zokY zm283 = true := zokYh_ok (a := 8013) (b := 9104) (c := 9105) (by decide +kernel)
set_option maxRecDepth 20000 in
theorem zow283 : Cond.code zm283.1 zm283.2.1 zm283.2.2.1 zm283.2.2.2.1 ∈ zTw := zpw (p := 9) (i := 106) rfl rfl rfl
theorem zok284 : zokC zm284.1 zm284.2.1 0 zc284 = true := zokQ_0 (hs := [9107, 15011]) (by decide +kernel)
theorem zoy284 : zokY zm284 = true := zokYh_ok (a := 8013) (b := 9114) (c := 9115) (by decide +kernel)
set_option maxRecDepth 20000 in
theorem zow284 : Cond.code zm284.1 zm284.2.1 zm284.2.2.1 zm284.2.2.2.1 ∈ zTw := zpw (p := 9) (i := 116) rfl rfl rfl
theorem zok285 : zokC zm285.1 zm285.2.1 0 zc285 = true := zokQ_0 (hs := [9123, 9125]) (by decide +kernel)
theorem zoy285 : zokY zm285 = true := zokYh_ok (a := 8013) (b := 9121) (c := 0) (by decide +kernel)
set_option maxRecDepth 20000 in
theorem zow285 : Cond.code zm285.1 zm285.2.1 zm285.2.2.1 zm285.2.2.2.1 ∈ zTw := zpw (p := 9) (i := 122) rfl rfl rfl
theorem zok286 : zokC zm286.1 zm286.2.1 0 zc286 = true := zokQ_0 (hs := [9120]) (by decide +kernel)
theorem zoy286 : zokY zm286 = true := zokYh_ok (a := 8014) (b := 9118) (c := 0) (by decide +kernel)
set_option maxRecDepth 20000 in
theorem zow286 : Cond.code zm286.1 zm286.2.1 zm286.2.2.1 zm286.2.2.2.1 ∈ zTw := zpw (p := 9) (i := 119) rfl rfl rfl
theorem zok287 : zokC zm287.1 zm287.2.1 0 zc287 = true := zokQ_0 (hs := [9134]) (by decide +kernel)
theorem zoy287 : zokY zm287 = true := zokYh_ok (a := 8016) (b := 9139) (c := 0) (by decide +kernel)
set_option maxRecDepth 20000 in
theorem zow287 : Cond.code zm287.1 zm287.2.1 zm287.2.2.1 zm287.2.2.2.1 ∈ zTw := zpw (p := 9) (i := 140) rfl rfl rfl
theorem zok288 : zokC zm288.1 zm288.2.1 0 zc288 = true := zokQ_0 (hs := []) (by decide +kernel)
theorem zoy288 : zokY zm288 = true := zokYh_ok (a := 8016) (b := 9135) (c := 0) (by decide +kernel)
set_option maxRecDepth 20000 in
theorem zow288 : Cond.code zm288.1 zm288.2.1 zm288.2.2.1 zm288.2.2.2.1 ∈ zTw := zpw (p := 9) (i := 136) rfl rfl rfl
theorem zok289 : zokC zm289.1 zm289.2.1 0 zc289 = true := zokQ_0 (hs := [9131, 9138]) (by decide +kernel)
theorem zoy289 : zokY zm289 = true := zokYh_ok (a := 8016) (b := 9129) (c := 0) (by decide +kernel)
set_option maxRecDepth 20000 in
theorem zow289 : Cond.code zm289.1 zm289.2.1 zm289.2.2.1 zm289.2.2.2.1 ∈ zTw := zpw (p := 9) (i := 130) rfl rfl rfl
theorem zok290 : zokC zm290.1 zm290.2.1 0 zc290 = true := zokQ_0 (hs := [9134, 9137]) (by decide +kernel)
theorem zoy290 : zokY zm290 = true := zokYh_ok (a := 8016) (b := 9132) (c := 0) (by decide +kernel)
set_option maxRecDepth 20000 in
theorem zow290 : Cond.code zm290.1 zm290.2.1 zm290.2.2.1 zm290.2.2.2.1 ∈ zTw := zpw (p := 9) (i := 133) rfl rfl rfl
theorem zok291 : zokC zm291.1 zm291.2.1 0 zc291 = true := zokQ_0 (hs := []) (by decide +kernel)
theorem zoy291 : zokY zm291 = true := zokYh_ok (a := 8017) (b := 9197) (c := 0) (by decide +kernel)
set_option maxRecDepth 20000 in
theorem zow291 : Cond.code zm291.1 zm291.2.1 zm291.2.2.1 zm291.2.2.2.1 ∈ zTw := zpw (p := 9) (i := 198) rfl rfl rfl
theorem zok292 : zokC zm292.1 zm292.2.1 0 zc292 = true := by decide +kernel
theorem zoy292 : zokY zm292 = true := zokYh_ok (a := 8017) (b := 10100) (c := 0) (by decide +kernel)
set_option maxRecDepth 20000 in
theorem zow292 : Cond.code zm292.1 zm292.2.1 zm292.2.2.1 zm292.2.2.2.1 ∈ zTw := zpw (p := 10) (i := 101) rfl rfl rfl
theorem zok293 : zokC zm293.1 zm293.2.1 0 zc293 = true := zokQ_0 (hs := []) (by decide +kernel)
theorem zoy293 : zokY zm293 = true := zokYh_ok (a := 8015) (b := 9126) (c := 0) (by decide +kernel)
set_option maxRecDepth 20000 in
theorem zow293 : Cond.code zm293.1 zm293.2.1 zm293.2.2.1 zm293.2.2.2.1 ∈ zTw := zpw (p := 9) (i := 127) rfl rfl rfl
end
section
theorem zokL0 : zokC ⟨"LentToolsLaw", "law", "([I)Z"⟩ code 0 zcL0 = true := zokQ_n (hs := [8021, 8022, 8001, 8023, 12088, 12089, 8011, 12090]) (by decide +kernel)
theorem zokL1 : zokC ⟨"LentToolsLaw", "law", "([I)Z"⟩ code 75 zcL1 = true := zokQ_n (hs := []) (by decide +kernel)
theorem zokL2 : zokC ⟨"LentToolsLaw", "law", "([I)Z"⟩ code 150 zcL2 = true := zokQ_n (hs := [9048]) (by decide +kernel)
theorem zokL3 : zokC ⟨"LentToolsLaw", "law", "([I)Z"⟩ code 225 zcL3 = true := zokQ_n (hs := [12212, 9056, 12220, 9060, 13149, 10008, 12224, 10123]) (by decide +kernel)
end
section
theorem zokL4 : zokC ⟨"LentToolsLaw", "law", "([I)Z"⟩ code 300 zcL4 = true := zokQ_n (hs := [13153, 10160, 13178, 10182]) (by decide +kernel)
theorem zokL5 : zokC ⟨"LentToolsLaw", "law", "([I)Z"⟩ code 375 zcL5 = true := zokQ_n (hs := [13199, 10207, 13219, 10233, 13235]) (by decide +kernel)
theorem zokL6 : zokC ⟨"LentToolsLaw", "law", "([I)Z"⟩ code 450 zcL6 = true := zokQ_n (hs := [11006, 14003, 11018, 14011, 11030, 14039]) (by decide +kernel)
theorem zokL7 : zokC ⟨"LentToolsLaw", "law", "([I)Z"⟩ code 525 zcL7 = true := zokQ_n (hs := [11049, 14019, 11054, 14027, 11071, 13215, 11087]) (by decide +kernel)
end
section
theorem zokL8 : zokC ⟨"LentToolsLaw", "law", "([I)Z"⟩ code 600 zcL8 = true := zokQ_n (hs := [14065, 11135, 14109]) (by decide +kernel)
theorem zokL9 : zokC ⟨"LentToolsLaw", "law", "([I)Z"⟩ code 675 zcL9 = true := zokQ_n (hs := [11181, 14134, 11220, 14154, 11224]) (by decide +kernel)
theorem zokL10 : zokC ⟨"LentToolsLaw", "law", "([I)Z"⟩ code 750 zcL10 = true := zokQ_n (hs := [14158, 11229, 14170, 11233, 14175, 12001, 14183]) (by decide +kernel)
theorem zokL11 : zokC ⟨"LentToolsLaw", "law", "([I)Z"⟩ code 825 zcL11 = true := zokQ_n (hs := [12009, 14187, 12017, 14195, 12029, 14203]) (by decide +kernel)
end
section
theorem zokL12 : zokC ⟨"LentToolsLaw", "law", "([I)Z"⟩ code 900 zcL12 = true := zokQ_n (hs := [12043, 14216, 12047, 14220]) (by decide +kernel)
theorem zokL13 : zokC ⟨"LentToolsLaw", "law", "([I)Z"⟩ code 975 zcL13 = true := zokQ_n (hs := [12068, 14237, 12078, 15001, 12083, 15006]) (by decide +kernel)
theorem zokC_app {y : MethodName} {bs : ByteArray} : ∀ {l1 l2 : List (Option zEn)} {n : Nat}, zokC y bs n l1 = true → zokC y bs (n + l1.length) l2 = true → zokC y bs n (l1 ++ l2) = true
  | [], _, _, _, h => h
  | none :: l, l2, n, h1, h2 => zokC_app (l1 := l) (n := n + 1) h1 (by rw [show n + 1 + l.length = n + (none :: l).length by simp; omega]; exact h2)
  | some q :: l, l2, n, h1, h2 => by
    have h3 : zokE y bs n q = true ∧ zokC y bs (n + 1) l = true := by
      rw [← Bool.and_eq_true]
      exact h1
    have h4 := zokC_app (l1 := l) (n := n + 1) h3.2 (by rw [show n + 1 + l.length = n + (some q :: l).length by simp; omega]; exact h2)
    show (zokE y bs n q && zokC y bs (n + 1) (l ++ l2)) = true
    rw [h3.1, h4]
    rfl
theorem zokL : zokC ⟨"LentToolsLaw", "law", "([I)Z"⟩ code 0 zcL = true := zokC_app (l1 := zcL0) zokL0 (zokC_app (l1 := zcL1) zokL1 (zokC_app (l1 := zcL2) zokL2 (zokC_app (l1 := zcL3) zokL3 (zokC_app (l1 := zcL4) zokL4 (zokC_app (l1 := zcL5) zokL5 (zokC_app (l1 := zcL6) zokL6 (zokC_app (l1 := zcL7) zokL7 (zokC_app (l1 := zcL8) zokL8 (zokC_app (l1 := zcL9) zokL9 (zokC_app (l1 := zcL10) zokL10 (zokC_app (l1 := zcL11) zokL11 (zokC_app (l1 := zcL12) zokL12 (zokL13)))))))))))))
end
