theorem zok0 : zokC zm0.1 zm0.2.1 0 zc0 = true := zokH_ok (hs := [272, 273, 276, 278, 281, 287]) (by decide +kernel)
theorem zoy0 : zokY zm0 = true := by decide +kernel
set_option maxRecDepth 20000 in
theorem zow0 : Cond.code zm0.1 zm0.2.1 zm0.2.2.1 zm0.2.2.2.1 ∈ zTw := List.mem_filter.mpr ⟨List.mem_of_getElem? (i := 271) rfl, rfl⟩
theorem zok1 : zokC zm1.1 zm1.2.1 0 zc1 = true := zokH_ok (hs := [273, 984, 276, 984, 278, 984, 985, 985, 278, 986, 278, 278, 986, 278, 987, 993, 998]) (by decide +kernel)
theorem zoy1 : zokY zm1 = true := by decide +kernel
set_option maxRecDepth 20000 in
theorem zow1 : Cond.code zm1.1 zm1.2.1 zm1.2.2.1 zm1.2.2.2.1 ∈ zTw := List.mem_filter.mpr ⟨List.mem_of_getElem? (i := 983) rfl, rfl⟩
theorem zok2 : zokC zm2.1 zm2.2.1 0 zc2 = true := zokH_ok (hs := [273, 273, 997, 276, 276, 276]) (by decide +kernel)
theorem zoy2 : zokY zm2 = true := by decide +kernel
set_option maxRecDepth 20000 in
theorem zow2 : Cond.code zm2.1 zm2.2.1 zm2.2.2.1 zm2.2.2.2.1 ∈ zTw := List.mem_filter.mpr ⟨List.mem_of_getElem? (i := 996) rfl, rfl⟩
theorem zok3 : zokC zm3.1 zm3.2.1 0 zc3 = true := zokH_ok (hs := [986, 278, 1002, 986, 278]) (by decide +kernel)
theorem zoy3 : zokY zm3 = true := by decide +kernel
set_option maxRecDepth 20000 in
theorem zow3 : Cond.code zm3.1 zm3.2.1 zm3.2.2.1 zm3.2.2.2.1 ∈ zTw := List.mem_filter.mpr ⟨List.mem_of_getElem? (i := 1001) rfl, rfl⟩
theorem zok4 : zokC zm4.1 zm4.2.1 0 zc4 = true := zokH_ok (hs := [1122, 985, 985, 1123, 273]) (by decide +kernel)
theorem zoy4 : zokY zm4 = true := by decide +kernel
set_option maxRecDepth 20000 in
theorem zow4 : Cond.code zm4.1 zm4.2.1 zm4.2.2.1 zm4.2.2.2.1 ∈ zTw := List.mem_filter.mpr ⟨List.mem_of_getElem? (i := 1121) rfl, rfl⟩
theorem zok5 : zokC zm5.1 zm5.2.1 0 zc5 = true := zokH_ok (hs := [985, 985, 1008]) (by decide +kernel)
theorem zoy5 : zokY zm5 = true := by decide +kernel
set_option maxRecDepth 20000 in
theorem zow5 : Cond.code zm5.1 zm5.2.1 zm5.2.2.1 zm5.2.2.2.1 ∈ zTw := List.mem_filter.mpr ⟨List.mem_of_getElem? (i := 1007) rfl, rfl⟩
theorem zok6 : zokC zm6.1 zm6.2.1 0 zc6 = true := zokH_ok (hs := [985, 985, 985, 1008]) (by decide +kernel)
theorem zoy6 : zokY zm6 = true := by decide +kernel
set_option maxRecDepth 20000 in
theorem zow6 : Cond.code zm6.1 zm6.2.1 zm6.2.2.1 zm6.2.2.2.1 ∈ zTw := List.mem_filter.mpr ⟨List.mem_of_getElem? (i := 1097) rfl, rfl⟩
theorem zok7 : zokC zm7.1 zm7.2.1 0 zc7 = true := zokH_ok (hs := [279, 283, 285, 288, 289, 290, 1012]) (by decide +kernel)
theorem zoy7 : zokY zm7 = true := by decide +kernel
set_option maxRecDepth 20000 in
theorem zow7 : Cond.code zm7.1 zm7.2.1 zm7.2.2.1 zm7.2.2.2.1 ∈ zTw := List.mem_filter.mpr ⟨List.mem_of_getElem? (i := 1011) rfl, rfl⟩
theorem zok8 : zokC zm8.1 zm8.2.1 0 zc8 = true := zokH_ok (hs := [290, 289, 1016, 986, 1021, 287, 1012]) (by decide +kernel)
theorem zoy8 : zokY zm8 = true := by decide +kernel
set_option maxRecDepth 20000 in
theorem zow8 : Cond.code zm8.1 zm8.2.1 zm8.2.2.1 zm8.2.2.2.1 ∈ zTw := List.mem_filter.mpr ⟨List.mem_of_getElem? (i := 1015) rfl, rfl⟩
theorem zok9 : zokC zm9.1 zm9.2.1 0 zc9 = true := zokH_ok (hs := [290, 287, 290, 288, 290, 283, 283, 279, 285, 287, 281, 1020, 279, 279]) (by decide +kernel)
theorem zoy9 : zokY zm9 = true := by decide +kernel
set_option maxRecDepth 20000 in
theorem zow9 : Cond.code zm9.1 zm9.2.1 zm9.2.2.1 zm9.2.2.2.1 ∈ zTw := List.mem_filter.mpr ⟨List.mem_of_getElem? (i := 1019) rfl, rfl⟩
theorem zok10 : zokC zm10.1 zm10.2.1 0 zc10 = true := zokH_ok (hs := [260]) (by decide +kernel)
theorem zoy10 : zokY zm10 = true := by decide +kernel
set_option maxRecDepth 20000 in
theorem zow10 : Cond.code zm10.1 zm10.2.1 zm10.2.2.1 zm10.2.2.2.1 ∈ zTw := List.mem_filter.mpr ⟨List.mem_of_getElem? (i := 259) rfl, rfl⟩
theorem zok11 : zokC zm11.1 zm11.2.1 0 zc11 = true := zokH_ok (hs := [261, 1141, 1142, 1143, 261, 261, 1144]) (by decide +kernel)
theorem zoy11 : zokY zm11 = true := by decide +kernel
set_option maxRecDepth 20000 in
theorem zow11 : Cond.code zm11.1 zm11.2.1 zm11.2.2.1 zm11.2.2.2.1 ∈ zTw := List.mem_filter.mpr ⟨List.mem_of_getElem? (i := 1140) rfl, rfl⟩
theorem zok12 : zokC zm12.1 zm12.2.1 0 zc12 = true := zokH_ok (hs := [1136, 1137, 1145, 1145, 1146, 1147, 1148]) (by decide +kernel)
theorem zoy12 : zokY zm12 = true := by decide +kernel
set_option maxRecDepth 20000 in
theorem zow12 : Cond.code zm12.1 zm12.2.1 zm12.2.2.1 zm12.2.2.2.1 ∈ zTw := List.mem_filter.mpr ⟨List.mem_of_getElem? (i := 1135) rfl, rfl⟩
theorem zok13 : zokC zm13.1 zm13.2.1 0 zc13 = true := zokH_ok (hs := [241, 242, 244]) (by decide +kernel)
theorem zoy13 : zokY zm13 = true := by decide +kernel
set_option maxRecDepth 20000 in
theorem zow13 : Cond.code zm13.1 zm13.2.1 zm13.2.2.1 zm13.2.2.2.1 ∈ zTw := List.mem_filter.mpr ⟨List.mem_of_getElem? (i := 240) rfl, rfl⟩
theorem zok14 : zokC zm14.1 zm14.2.1 0 zc14 = true := zokH_ok (hs := [246]) (by decide +kernel)
theorem zoy14 : zokY zm14 = true := by decide +kernel
set_option maxRecDepth 20000 in
theorem zow14 : Cond.code zm14.1 zm14.2.1 zm14.2.2.1 zm14.2.2.2.1 ∈ zTw := List.mem_filter.mpr ⟨List.mem_of_getElem? (i := 919) rfl, rfl⟩
theorem zok15 : zokC zm15.1 zm15.2.1 0 zc15 = true := zokH_ok (hs := [246]) (by decide +kernel)
theorem zoy15 : zokY zm15 = true := by decide +kernel
set_option maxRecDepth 20000 in
theorem zow15 : Cond.code zm15.1 zm15.2.1 zm15.2.2.1 zm15.2.2.2.1 ∈ zTw := List.mem_filter.mpr ⟨List.mem_of_getElem? (i := 606) rfl, rfl⟩
theorem zok16 : zokC zm16.1 zm16.2.1 0 zc16 = true := zokH_ok (hs := [244, 245, 822, 245, 245, 246, 826, 246]) (by decide +kernel)
theorem zoy16 : zokY zm16 = true := by decide +kernel
set_option maxRecDepth 20000 in
theorem zow16 : Cond.code zm16.1 zm16.2.1 zm16.2.2.1 zm16.2.2.2.1 ∈ zTw := List.mem_filter.mpr ⟨List.mem_of_getElem? (i := 821) rfl, rfl⟩
theorem zok17 : zokC zm17.1 zm17.2.1 0 zc17 = true := zokH_ok (hs := [246, 245, 245, 246, 246, 244, 245, 924]) (by decide +kernel)
theorem zoy17 : zokY zm17 = true := by decide +kernel
set_option maxRecDepth 20000 in
theorem zow17 : Cond.code zm17.1 zm17.2.1 zm17.2.2.1 zm17.2.2.2.1 ∈ zTw := List.mem_filter.mpr ⟨List.mem_of_getElem? (i := 923) rfl, rfl⟩
theorem zok18 : zokC zm18.1 zm18.2.1 0 zc18 = true := zokH_ok (hs := [319, 320, 268, 129, 323, 325, 326, 322, 327]) (by decide +kernel)
theorem zoy18 : zokY zm18 = true := by decide +kernel
set_option maxRecDepth 20000 in
theorem zow18 : Cond.code zm18.1 zm18.2.1 zm18.2.2.1 zm18.2.2.2.1 ∈ zTw := List.mem_filter.mpr ⟨List.mem_of_getElem? (i := 318) rfl, rfl⟩
theorem zok19 : zokC zm19.1 zm19.2.1 0 zc19 = true := zokH_ok (hs := [1031, 1032, 324, 1033, 1038, 1032, 327, 324, 1047, 324, 327, 1048, 327]) (by decide +kernel)
theorem zoy19 : zokY zm19 = true := by decide +kernel
set_option maxRecDepth 20000 in
theorem zow19 : Cond.code zm19.1 zm19.2.1 zm19.2.2.1 zm19.2.2.2.1 ∈ zTw := List.mem_filter.mpr ⟨List.mem_of_getElem? (i := 1030) rfl, rfl⟩
theorem zok20 : zokC zm20.1 zm20.2.1 0 zc20 = true := zokH_ok (hs := [327, 325, 326, 327, 1052]) (by decide +kernel)
theorem zoy20 : zokY zm20 = true := by decide +kernel
set_option maxRecDepth 20000 in
theorem zow20 : Cond.code zm20.1 zm20.2.1 zm20.2.2.1 zm20.2.2.2.1 ∈ zTw := List.mem_filter.mpr ⟨List.mem_of_getElem? (i := 1051) rfl, rfl⟩
theorem zok21 : zokC zm21.1 zm21.2.1 0 zc21 = true := zokH_ok (hs := [324, 325, 326, 1037, 1038, 1039]) (by decide +kernel)
theorem zoy21 : zokY zm21 = true := by decide +kernel
set_option maxRecDepth 20000 in
theorem zow21 : Cond.code zm21.1 zm21.2.1 zm21.2.2.1 zm21.2.2.2.1 ∈ zTw := List.mem_filter.mpr ⟨List.mem_of_getElem? (i := 1036) rfl, rfl⟩
theorem zok22 : zokC zm22.1 zm22.2.1 0 zc22 = true := zokH_ok (hs := [323, 1043, 324, 323, 274, 1037, 1044, 1037, 1045, 1046, 1037, 325]) (by decide +kernel)
theorem zoy22 : zokY zm22 = true := by decide +kernel
set_option maxRecDepth 20000 in
theorem zow22 : Cond.code zm22.1 zm22.2.1 zm22.2.2.1 zm22.2.2.2.1 ∈ zTw := List.mem_filter.mpr ⟨List.mem_of_getElem? (i := 1042) rfl, rfl⟩
theorem zok23 : zokC zm23.1 zm23.2.1 0 zc23 = true := zokH_ok (hs := [324, 1057]) (by decide +kernel)
theorem zoy23 : zokY zm23 = true := by decide +kernel
set_option maxRecDepth 20000 in
theorem zow23 : Cond.code zm23.1 zm23.2.1 zm23.2.2.1 zm23.2.2.2.1 ∈ zTw := List.mem_filter.mpr ⟨List.mem_of_getElem? (i := 1056) rfl, rfl⟩
theorem zok24 : zokC zm24.1 zm24.2.1 0 zc24 = true := zokH_ok (hs := [327, 327, 325, 326, 327, 327]) (by decide +kernel)
theorem zoy24 : zokY zm24 = true := by decide +kernel
set_option maxRecDepth 20000 in
theorem zow24 : Cond.code zm24.1 zm24.2.1 zm24.2.2.1 zm24.2.2.2.1 ∈ zTw := List.mem_filter.mpr ⟨List.mem_of_getElem? (i := 1060) rfl, rfl⟩
theorem zok25 : zokC zm25.1 zm25.2.1 0 zc25 = true := zokH_ok (hs := [715, 717, 716]) (by decide +kernel)
theorem zoy25 : zokY zm25 = true := by decide +kernel
set_option maxRecDepth 20000 in
theorem zow25 : Cond.code zm25.1 zm25.2.1 zm25.2.2.1 zm25.2.2.2.1 ∈ zTw := List.mem_filter.mpr ⟨List.mem_of_getElem? (i := 714) rfl, rfl⟩
theorem zok26 : zokC zm26.1 zm26.2.1 0 zc26 = true := zokH_ok (hs := []) (by decide +kernel)
theorem zoy26 : zokY zm26 = true := by decide +kernel
set_option maxRecDepth 20000 in
theorem zow26 : Cond.code zm26.1 zm26.2.1 zm26.2.2.1 zm26.2.2.2.1 ∈ zTw := List.mem_filter.mpr ⟨List.mem_of_getElem? (i := 670) rfl, rfl⟩
theorem zok27 : zokC zm27.1 zm27.2.1 0 zc27 = true := zokH_ok (hs := [944, 945, 946, 947, 969]) (by decide +kernel)
theorem zoy27 : zokY zm27 = true := by decide +kernel
set_option maxRecDepth 20000 in
theorem zow27 : Cond.code zm27.1 zm27.2.1 zm27.2.2.1 zm27.2.2.2.1 ∈ zTw := List.mem_filter.mpr ⟨List.mem_of_getElem? (i := 943) rfl, rfl⟩
theorem zok28 : zokC zm28.1 zm28.2.1 0 zc28 = true := zokH_ok (hs := [716, 716, 717, 951, 717, 717, 717, 717, 717, 717, 717, 717, 963]) (by decide +kernel)
theorem zoy28 : zokY zm28 = true := by decide +kernel
set_option maxRecDepth 20000 in
theorem zow28 : Cond.code zm28.1 zm28.2.1 zm28.2.2.1 zm28.2.2.2.1 ∈ zTw := List.mem_filter.mpr ⟨List.mem_of_getElem? (i := 950) rfl, rfl⟩
theorem zok29 : zokC zm29.1 zm29.2.1 0 zc29 = true := zokH_ok (hs := [966]) (by decide +kernel)
theorem zoy29 : zokY zm29 = true := by decide +kernel
set_option maxRecDepth 20000 in
theorem zow29 : Cond.code zm29.1 zm29.2.1 zm29.2.2.1 zm29.2.2.2.1 ∈ zTw := List.mem_filter.mpr ⟨List.mem_of_getElem? (i := 965) rfl, rfl⟩
theorem zok30 : zokC zm30.1 zm30.2.1 0 zc30 = true := zokH_ok (hs := []) (by decide +kernel)
theorem zoy30 : zokY zm30 = true := by decide +kernel
set_option maxRecDepth 20000 in
theorem zow30 : Cond.code zm30.1 zm30.2.1 zm30.2.2.1 zm30.2.2.2.1 ∈ zTw := List.mem_filter.mpr ⟨List.mem_of_getElem? (i := 968) rfl, rfl⟩
theorem zok31 : zokC zm31.1 zm31.2.1 0 zc31 = true := zokH_ok (hs := [954, 954, 954, 954, 955, 954, 956, 957, 957, 961, 962]) (by decide +kernel)
theorem zoy31 : zokY zm31 = true := by decide +kernel
set_option maxRecDepth 20000 in
theorem zow31 : Cond.code zm31.1 zm31.2.1 zm31.2.2.1 zm31.2.2.2.1 ∈ zTw := List.mem_filter.mpr ⟨List.mem_of_getElem? (i := 953) rfl, rfl⟩
theorem zok32 : zokC zm32.1 zm32.2.1 0 zc32 = true := zokH_ok (hs := [192, 193, 195]) (by decide +kernel)
theorem zoy32 : zokY zm32 = true := by decide +kernel
set_option maxRecDepth 20000 in
theorem zow32 : Cond.code zm32.1 zm32.2.1 zm32.2.2.1 zm32.2.2.2.1 ∈ zTw := List.mem_filter.mpr ⟨List.mem_of_getElem? (i := 191) rfl, rfl⟩
theorem zok33 : zokC zm33.1 zm33.2.1 0 zc33 = true := zokH_ok (hs := [194, 196, 197, 198, 199, 200, 201, 201, 617, 201, 618, 201, 625, 201, 632, 653, 617, 698, 699, 140, 193, 194, 700, 712]) (by decide +kernel)
theorem zoy33 : zokY zm33 = true := by decide +kernel
set_option maxRecDepth 20000 in
theorem zow33 : Cond.code zm33.1 zm33.2.1 zm33.2.2.1 zm33.2.2.2.1 ∈ zTw := List.mem_filter.mpr ⟨List.mem_of_getElem? (i := 616) rfl, rfl⟩
theorem zok34 : zokC zm34.1 zm34.2.1 0 zc34 = true := zokH_ok (hs := [623, 197, 160, 624, 197, 197, 202, 201]) (by decide +kernel)
theorem zoy34 : zokY zm34 = true := by decide +kernel
set_option maxRecDepth 20000 in
theorem zow34 : Cond.code zm34.1 zm34.2.1 zm34.2.2.1 zm34.2.2.2.1 ∈ zTw := List.mem_filter.mpr ⟨List.mem_of_getElem? (i := 621) rfl, rfl⟩
theorem zok35 : zokC zm35.1 zm35.2.1 0 zc35 = true := zokH_ok (hs := [629, 159, 631, 202, 632, 199, 624, 199, 199, 648, 200, 200, 649]) (by decide +kernel)
theorem zoy35 : zokY zm35 = true := by decide +kernel
set_option maxRecDepth 20000 in
theorem zow35 : Cond.code zm35.1 zm35.2.1 zm35.2.2.1 zm35.2.2.2.1 ∈ zTw := List.mem_filter.mpr ⟨List.mem_of_getElem? (i := 628) rfl, rfl⟩
theorem zok36 : zokC zm36.1 zm36.2.1 0 zc36 = true := zokH_ok (hs := [629, 636, 637, 638, 639, 623, 639, 160, 644, 201]) (by decide +kernel)
theorem zoy36 : zokY zm36 = true := by decide +kernel
set_option maxRecDepth 20000 in
theorem zow36 : Cond.code zm36.1 zm36.2.1 zm36.2.2.1 zm36.2.2.2.1 ∈ zTw := List.mem_filter.mpr ⟨List.mem_of_getElem? (i := 635) rfl, rfl⟩
theorem zok37 : zokC zm37.1 zm37.2.1 0 zc37 = true := zokH_ok (hs := [198, 624, 198, 198]) (by decide +kernel)
theorem zoy37 : zokY zm37 = true := by decide +kernel
set_option maxRecDepth 20000 in
theorem zow37 : Cond.code zm37.1 zm37.2.1 zm37.2.2.1 zm37.2.2.2.1 ∈ zTw := List.mem_filter.mpr ⟨List.mem_of_getElem? (i := 647) rfl, rfl⟩
theorem zok38 : zokC zm38.1 zm38.2.1 0 zc38 = true := zokH_ok (hs := [202, 629, 657, 648, 660, 201, 202, 671, 202, 681, 689]) (by decide +kernel)
theorem zoy38 : zokY zm38 = true := by decide +kernel
set_option maxRecDepth 20000 in
theorem zow38 : Cond.code zm38.1 zm38.2.1 zm38.2.2.1 zm38.2.2.2.1 ∈ zTw := List.mem_filter.mpr ⟨List.mem_of_getElem? (i := 656) rfl, rfl⟩
theorem zok39 : zokC zm39.1 zm39.2.1 0 zc39 = true := zokH_ok (hs := []) (by decide +kernel)
theorem zoy39 : zokY zm39 = true := by decide +kernel
set_option maxRecDepth 20000 in
theorem zow39 : Cond.code zm39.1 zm39.2.1 zm39.2.2.1 zm39.2.2.2.1 ∈ zTw := List.mem_filter.mpr ⟨List.mem_of_getElem? (i := 659) rfl, rfl⟩
theorem zok40 : zokC zm40.1 zm40.2.1 0 zc40 = true := zokH_ok (hs := [631, 664, 201, 676]) (by decide +kernel)
theorem zoy40 : zokY zm40 = true := by decide +kernel
set_option maxRecDepth 20000 in
theorem zow40 : Cond.code zm40.1 zm40.2.1 zm40.2.2.1 zm40.2.2.2.1 ∈ zTw := List.mem_filter.mpr ⟨List.mem_of_getElem? (i := 674) rfl, rfl⟩
theorem zok41 : zokC zm41.1 zm41.2.1 0 zc41 = true := zokH_ok (hs := [629, 159, 624, 644, 648, 660, 685, 660, 660, 202, 201]) (by decide +kernel)
theorem zoy41 : zokY zm41 = true := by decide +kernel
set_option maxRecDepth 20000 in
theorem zow41 : Cond.code zm41.1 zm41.2.1 zm41.2.2.1 zm41.2.2.2.1 ∈ zTw := List.mem_filter.mpr ⟨List.mem_of_getElem? (i := 684) rfl, rfl⟩
theorem zok42 : zokC zm42.1 zm42.2.1 0 zc42 = true := zokH_ok (hs := [631, 660, 201, 200, 676, 629, 648, 694, 159, 624]) (by decide +kernel)
theorem zoy42 : zokY zm42 = true := by decide +kernel
set_option maxRecDepth 20000 in
theorem zow42 : Cond.code zm42.1 zm42.2.1 zm42.2.2.1 zm42.2.2.2.1 ∈ zTw := List.mem_filter.mpr ⟨List.mem_of_getElem? (i := 692) rfl, rfl⟩
theorem zok43 : zokC zm43.1 zm43.2.1 0 zc43 = true := zokH_ok (hs := [664, 196, 196, 196, 200, 200, 199, 199, 202]) (by decide +kernel)
theorem zoy43 : zokY zm43 = true := by decide +kernel
set_option maxRecDepth 20000 in
theorem zow43 : Cond.code zm43.1 zm43.2.1 zm43.2.2.1 zm43.2.2.2.1 ∈ zTw := List.mem_filter.mpr ⟨List.mem_of_getElem? (i := 697) rfl, rfl⟩
theorem zok44 : zokC zm44.1 zm44.2.1 0 zc44 = true := zokH_ok (hs := [664, 639, 680, 201]) (by decide +kernel)
theorem zoy44 : zokY zm44 = true := by decide +kernel
set_option maxRecDepth 20000 in
theorem zow44 : Cond.code zm44.1 zm44.2.1 zm44.2.2.1 zm44.2.2.2.1 ∈ zTw := List.mem_filter.mpr ⟨List.mem_of_getElem? (i := 679) rfl, rfl⟩
theorem zok45 : zokC zm45.1 zm45.2.1 0 zc45 = true := zokH_ok (hs := [664, 649]) (by decide +kernel)
theorem zoy45 : zokY zm45 = true := by decide +kernel
set_option maxRecDepth 20000 in
theorem zow45 : Cond.code zm45.1 zm45.2.1 zm45.2.2.1 zm45.2.2.2.1 ∈ zTw := List.mem_filter.mpr ⟨List.mem_of_getElem? (i := 663) rfl, rfl⟩
theorem zok46 : zokC zm46.1 zm46.2.1 0 zc46 = true := zokH_ok (hs := [196, 195, 196, 668, 668, 196, 196, 195, 196, 639, 195, 196, 199, 199]) (by decide +kernel)
theorem zoy46 : zokY zm46 = true := by decide +kernel
set_option maxRecDepth 20000 in
theorem zow46 : Cond.code zm46.1 zm46.2.1 zm46.2.2.1 zm46.2.2.2.1 ∈ zTw := List.mem_filter.mpr ⟨List.mem_of_getElem? (i := 667) rfl, rfl⟩
theorem zok47 : zokC zm47.1 zm47.2.1 0 zc47 = true := zokH_ok (hs := [196, 195, 195, 196, 196, 196]) (by decide +kernel)
theorem zoy47 : zokY zm47 = true := by decide +kernel
set_option maxRecDepth 20000 in
theorem zow47 : Cond.code zm47.1 zm47.2.1 zm47.2.2.1 zm47.2.2.2.1 ∈ zTw := List.mem_filter.mpr ⟨List.mem_of_getElem? (i := 652) rfl, rfl⟩
theorem zok48 : zokC zm48.1 zm48.2.1 0 zc48 = true := zokH_ok (hs := [194, 193, 193, 194, 194, 194]) (by decide +kernel)
theorem zoy48 : zokY zm48 = true := by decide +kernel
set_option maxRecDepth 20000 in
theorem zow48 : Cond.code zm48.1 zm48.2.1 zm48.2.2.1 zm48.2.2.2.1 ∈ zTw := List.mem_filter.mpr ⟨List.mem_of_getElem? (i := 642) rfl, rfl⟩
