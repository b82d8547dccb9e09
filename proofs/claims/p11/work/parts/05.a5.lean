theorem zok245 : zokC zm245.1 zm245.2.1 0 zc245 = true := zokH_ok (hs := [12116, 13223, 14082, 14086]) (by decide +kernel)
theorem zoy245 : zokY zm245 = true := zokYh_ok (a := 8011) (b := 14080) (c := 6000) (by decide +kernel)
set_option maxRecDepth 20000 in
theorem zow245 : Cond.code zm245.1 zm245.2.1 zm245.2.2.1 zm245.2.2.2.1 ∈ zTw := zpw (p := 14) (i := 81) rfl rfl rfl
theorem zok246 : zokC zm246.1 zm246.2.1 0 zc246 = true := zokH_ok (hs := [12116, 13191, 14007]) (by decide +kernel)
theorem zoy246 : zokY zm246 = true := zokYh_ok (a := 8011) (b := 14107) (c := 6006) (by decide +kernel)
set_option maxRecDepth 20000 in
theorem zow246 : Cond.code zm246.1 zm246.2.1 zm246.2.2.1 zm246.2.2.2.1 ∈ zTw := zpw (p := 14) (i := 108) rfl rfl rfl
theorem zok247 : zokC zm247.1 zm247.2.1 0 zc247 = true := zokH_ok (hs := [12116, 14078, 13231, 14105, 14035]) (by decide +kernel)
theorem zoy247 : zokY zm247 = true := zokYh_ok (a := 8011) (b := 14076) (c := 5015) (by decide +kernel)
set_option maxRecDepth 20000 in
theorem zow247 : Cond.code zm247.1 zm247.2.1 zm247.2.2.1 zm247.2.2.2.1 ∈ zTw := zpw (p := 14) (i := 77) rfl rfl rfl
theorem zok248 : zokC zm248.1 zm248.2.1 0 zc248 = true := zokH_ok (hs := [14031, 14069, 14073, 13042, 12116, 12119, 14074]) (by decide +kernel)
theorem zoy248 : zokY zm248 = true := zokYh_ok (a := 8011) (b := 14066) (c := 14067) (by decide +kernel)
set_option maxRecDepth 20000 in
theorem zow248 : Cond.code zm248.1 zm248.2.1 zm248.2.2.1 zm248.2.2.2.1 ∈ zTw := zpw (p := 14) (i := 68) rfl rfl rfl
theorem zok249 : zokC zm249.1 zm249.2.1 0 zc249 = true := zokH_ok (hs := [14058, 14054, 13162, 14126, 13162, 14126, 13162, 14130]) (by decide +kernel)
theorem zoy249 : zokY zm249 = true := zokYh_ok (a := 8011) (b := 14124) (c := 6009) (by decide +kernel)
set_option maxRecDepth 20000 in
theorem zow249 : Cond.code zm249.1 zm249.2.1 zm249.2.2.1 zm249.2.2.2.1 ∈ zTw := zpw (p := 14) (i := 125) rfl rfl rfl
theorem zok250 : zokC zm250.1 zm250.2.1 0 zc250 = true := zokH_ok (hs := [12116, 14047, 14122, 12121]) (by decide +kernel)
theorem zoy250 : zokY zm250 = true := zokYh_ok (a := 8011) (b := 14120) (c := 6008) (by decide +kernel)
set_option maxRecDepth 20000 in
theorem zow250 : Cond.code zm250.1 zm250.2.1 zm250.2.2.1 zm250.2.2.2.1 ∈ zTw := zpw (p := 14) (i := 121) rfl rfl rfl
theorem zok251 : zokC zm251.1 zm251.2.1 0 zc251 = true := zokH_ok (hs := [13162, 13162, 12116, 14118]) (by decide +kernel)
theorem zoy251 : zokY zm251 = true := zokYh_ok (a := 8011) (b := 14116) (c := 6007) (by decide +kernel)
set_option maxRecDepth 20000 in
theorem zow251 : Cond.code zm251.1 zm251.2.1 zm251.2.2.1 zm251.2.2.2.1 ∈ zTw := zpw (p := 14) (i := 117) rfl rfl rfl
theorem zok252 : zokC zm252.1 zm252.2.1 0 zc252 = true := zokH_ok (hs := [13157, 13203, 14113, 13042, 13162, 13170, 14114, 13166, 12121, 14058]) (by decide +kernel)
theorem zoy252 : zokY zm252 = true := zokYh_ok (a := 8011) (b := 14110) (c := 14111) (by decide +kernel)
set_option maxRecDepth 20000 in
theorem zow252 : Cond.code zm252.1 zm252.2.1 zm252.2.2.1 zm252.2.2.2.1 ∈ zTw := zpw (p := 14) (i := 112) rfl rfl rfl
theorem zok253 : zokC zm253.1 zm253.2.1 0 zc253 = true := zokH_ok (hs := [12116, 12116, 13195, 13162, 13187, 13187, 14114, 12122, 13166, 13187]) (by decide +kernel)
theorem zoy253 : zokY zm253 = true := zokYh_ok (a := 8011) (b := 14144) (c := 6013) (by decide +kernel)
set_option maxRecDepth 20000 in
theorem zow253 : Cond.code zm253.1 zm253.2.1 zm253.2.2.1 zm253.2.2.2.1 ∈ zTw := zpw (p := 14) (i := 145) rfl rfl rfl
theorem zok254 : zokC zm254.1 zm254.2.1 0 zc254 = true := zokH_ok (hs := [12116, 12116, 14047, 12116]) (by decide +kernel)
theorem zoy254 : zokY zm254 = true := zokYh_ok (a := 8011) (b := 14152) (c := 6015) (by decide +kernel)
set_option maxRecDepth 20000 in
theorem zow254 : Cond.code zm254.1 zm254.2.1 zm254.2.2.1 zm254.2.2.2.1 ∈ zTw := zpw (p := 14) (i := 153) rfl rfl rfl
theorem zok255 : zokC zm255.1 zm255.2.1 0 zc255 = true := zokH_ok (hs := [12116, 14150, 12122, 14062, 13187]) (by decide +kernel)
theorem zoy255 : zokY zm255 = true := zokYh_ok (a := 8011) (b := 14148) (c := 6014) (by decide +kernel)
set_option maxRecDepth 20000 in
theorem zow255 : Cond.code zm255.1 zm255.2.1 zm255.2.2.1 zm255.2.2.2.1 ∈ zTw := zpw (p := 14) (i := 149) rfl rfl rfl
theorem zok256 : zokC zm256.1 zm256.2.1 0 zc256 = true := zokH_ok (hs := [14142, 12124, 12116, 12116, 14047, 14146, 12124, 12124, 12116, 12123, 14150, 12124]) (by decide +kernel)
theorem zoy256 : zokY zm256 = true := zokYh_ok (a := 8011) (b := 14140) (c := 6012) (by decide +kernel)
set_option maxRecDepth 20000 in
theorem zow256 : Cond.code zm256.1 zm256.2.1 zm256.2.2.1 zm256.2.2.2.1 ∈ zTw := zpw (p := 14) (i := 141) rfl rfl rfl
theorem zok257 : zokC zm257.1 zm257.2.1 0 zc257 = true := zokH_ok (hs := [14031, 14113, 13042, 14138, 12124, 12116, 12123]) (by decide +kernel)
theorem zoy257 : zokY zm257 = true := zokYh_ok (a := 8011) (b := 14135) (c := 14136) (by decide +kernel)
set_option maxRecDepth 20000 in
theorem zow257 : Cond.code zm257.1 zm257.2.1 zm257.2.2.1 zm257.2.2.2.1 ∈ zTw := zpw (p := 14) (i := 137) rfl rfl rfl
theorem zok258 : zokC zm258.1 zm258.2.1 0 zc258 = true := zokH_ok (hs := [13157, 14138, 14138]) (by decide +kernel)
theorem zoy258 : zokY zm258 = true := zokYh_ok (a := 8011) (b := 14155) (c := 14156) (by decide +kernel)
set_option maxRecDepth 20000 in
theorem zow258 : Cond.code zm258.1 zm258.2.1 zm258.2.2.1 zm258.2.2.2.1 ∈ zTw := zpw (p := 14) (i := 157) rfl rfl rfl
theorem zok259 : zokC zm259.1 zm259.2.1 0 zc259 = true := zokH_ok (hs := [12125, 12116]) (by decide +kernel)
theorem zoy259 : zokY zm259 = true := zokYh_ok (a := 8011) (b := 14164) (c := 7000) (by decide +kernel)
set_option maxRecDepth 20000 in
theorem zow259 : Cond.code zm259.1 zm259.2.1 zm259.2.2.1 zm259.2.2.2.1 ∈ zTw := zpw (p := 14) (i := 165) rfl rfl rfl
theorem zok260 : zokC zm260.1 zm260.2.1 0 zc260 = true := zokH_ok (hs := [12116, 12125]) (by decide +kernel)
theorem zoy260 : zokY zm260 = true := zokYh_ok (a := 8011) (b := 14168) (c := 7001) (by decide +kernel)
set_option maxRecDepth 20000 in
theorem zow260 : Cond.code zm260.1 zm260.2.1 zm260.2.2.1 zm260.2.2.2.1 ∈ zTw := zpw (p := 14) (i := 169) rfl rfl rfl
theorem zok261 : zokC zm261.1 zm261.2.1 0 zc261 = true := zokH_ok (hs := [13157, 13042, 13162, 14138, 12116, 13162, 14162, 14023, 14138, 14166]) (by decide +kernel)
theorem zoy261 : zokY zm261 = true := zokYh_ok (a := 8011) (b := 14159) (c := 14160) (by decide +kernel)
set_option maxRecDepth 20000 in
theorem zow261 : Cond.code zm261.1 zm261.2.1 zm261.2.2.1 zm261.2.2.2.1 ∈ zTw := zpw (p := 14) (i := 161) rfl rfl rfl
theorem zok262 : zokC zm262.1 zm262.2.1 0 zc262 = true := zokH_ok (hs := [14031, 14174, 13042, 14138, 12116, 12116, 13211, 13211, 14162, 14015, 14138, 14166]) (by decide +kernel)
theorem zoy262 : zokY zm262 = true := zokYh_ok (a := 8011) (b := 14171) (c := 14172) (by decide +kernel)
set_option maxRecDepth 20000 in
theorem zow262 : Cond.code zm262.1 zm262.2.1 zm262.2.2.1 zm262.2.2.2.1 ∈ zTw := zpw (p := 14) (i := 173) rfl rfl rfl
theorem zok263 : zokC zm263.1 zm263.2.1 0 zc263 = true := zokH_ok (hs := [12116, 12116, 14062, 13207]) (by decide +kernel)
theorem zoy263 : zokY zm263 = true := zokYh_ok (a := 8011) (b := 14181) (c := 7002) (by decide +kernel)
set_option maxRecDepth 20000 in
theorem zow263 : Cond.code zm263.1 zm263.2.1 zm263.2.2.1 zm263.2.2.2.1 ∈ zTw := zpw (p := 14) (i := 182) rfl rfl rfl
theorem zok264 : zokC zm264.1 zm264.2.1 0 zc264 = true := zokH_ok (hs := [14031, 13161, 13042, 12116, 14179, 14062, 14043, 12120, 14058]) (by decide +kernel)
theorem zoy264 : zokY zm264 = true := zokYh_ok (a := 8011) (b := 14176) (c := 14177) (by decide +kernel)
set_option maxRecDepth 20000 in
theorem zow264 : Cond.code zm264.1 zm264.2.1 zm264.2.2.1 zm264.2.2.2.1 ∈ zTw := zpw (p := 14) (i := 178) rfl rfl rfl
theorem zok265 : zokC zm265.1 zm265.2.1 0 zc265 = true := zokH_ok (hs := [13203, 12116, 13207, 13207]) (by decide +kernel)
theorem zoy265 : zokY zm265 = true := zokYh_ok (a := 8011) (b := 14184) (c := 14185) (by decide +kernel)
set_option maxRecDepth 20000 in
theorem zow265 : Cond.code zm265.1 zm265.2.1 zm265.2.2.1 zm265.2.2.2.1 ∈ zTw := zpw (p := 14) (i := 186) rfl rfl rfl
theorem zok266 : zokC zm266.1 zm266.2.1 0 zc266 = true := zokH_ok (hs := [12126, 12127, 12128, 12116, 12116, 14047, 14058, 13162, 14054, 13162, 14126, 13162, 14130, 13162, 14058, 12126, 12128, 12127, 12127, 12126, 12126]) (by decide +kernel)
theorem zoy266 : zokY zm266 = true := zokYh_ok (a := 8011) (b := 14193) (c := 7003) (by decide +kernel)
set_option maxRecDepth 20000 in
theorem zow266 : Cond.code zm266.1 zm266.2.1 zm266.2.2.1 zm266.2.2.2.1 ∈ zTw := zpw (p := 14) (i := 194) rfl rfl rfl
theorem zok267 : zokC zm267.1 zm267.2.1 0 zc267 = true := zokH_ok (hs := [13157, 14174, 13042, 13170, 13162, 14191, 12126, 12127, 12128]) (by decide +kernel)
theorem zoy267 : zokY zm267 = true := zokYh_ok (a := 8011) (b := 14188) (c := 14189) (by decide +kernel)
set_option maxRecDepth 20000 in
theorem zow267 : Cond.code zm267.1 zm267.2.1 zm267.2.2.1 zm267.2.2.2.1 ∈ zTw := zpw (p := 14) (i := 190) rfl rfl rfl
theorem zok268 : zokC zm268.1 zm268.2.1 0 zc268 = true := zokH_ok (hs := [12116, 13195]) (by decide +kernel)
theorem zoy268 : zokY zm268 = true := zokYh_ok (a := 8011) (b := 14201) (c := 7004) (by decide +kernel)
set_option maxRecDepth 20000 in
theorem zow268 : Cond.code zm268.1 zm268.2.1 zm268.2.2.1 zm268.2.2.2.1 ∈ zTw := zpw (p := 14) (i := 202) rfl rfl rfl
theorem zok269 : zokC zm269.1 zm269.2.1 0 zc269 = true := zokH_ok (hs := [14031, 14069, 14199, 12116, 14162, 14074, 14199, 12116, 14166]) (by decide +kernel)
theorem zoy269 : zokY zm269 = true := zokYh_ok (a := 8011) (b := 14196) (c := 14197) (by decide +kernel)
set_option maxRecDepth 20000 in
theorem zow269 : Cond.code zm269.1 zm269.2.1 zm269.2.2.1 zm269.2.2.2.1 ∈ zTw := zpw (p := 14) (i := 198) rfl rfl rfl
theorem zok270 : zokC zm270.1 zm270.2.1 0 zc270 = true := zokH_ok (hs := [12116, 13162, 13162, 14114]) (by decide +kernel)
theorem zoy270 : zokY zm270 = true := zokYh_ok (a := 8011) (b := 14214) (c := 7006) (by decide +kernel)
set_option maxRecDepth 20000 in
theorem zow270 : Cond.code zm270.1 zm270.2.1 zm270.2.2.1 zm270.2.2.2.1 ∈ zTw := zpw (p := 14) (i := 215) rfl rfl rfl
theorem zok271 : zokC zm271.1 zm271.2.1 0 zc271 = true := zokH_ok (hs := [12116, 14162, 14015, 14212, 14166]) (by decide +kernel)
theorem zoy271 : zokY zm271 = true := zokYh_ok (a := 8011) (b := 14210) (c := 7005) (by decide +kernel)
set_option maxRecDepth 20000 in
theorem zow271 : Cond.code zm271.1 zm271.2.1 zm271.2.2.1 zm271.2.2.2.1 ∈ zTw := zpw (p := 14) (i := 211) rfl rfl rfl
theorem zok272 : zokC zm272.1 zm272.2.1 0 zc272 = true := zokH_ok (hs := [14031, 14207, 13042, 12116, 14208]) (by decide +kernel)
theorem zoy272 : zokY zm272 = true := zokYh_ok (a := 8011) (b := 14204) (c := 14205) (by decide +kernel)
set_option maxRecDepth 20000 in
theorem zow272 : Cond.code zm272.1 zm272.2.1 zm272.2.2.1 zm272.2.2.2.1 ∈ zTw := zpw (p := 14) (i := 206) rfl rfl rfl
theorem zok273 : zokC zm273.1 zm273.2.1 0 zc273 = true := zokH_ok (hs := [12117, 12117]) (by decide +kernel)
theorem zoy273 : zokY zm273 = true := zokYh_ok (a := 8011) (b := 14217) (c := 14218) (by decide +kernel)
set_option maxRecDepth 20000 in
theorem zow273 : Cond.code zm273.1 zm273.2.1 zm273.2.2.1 zm273.2.2.2.1 ∈ zTw := zpw (p := 14) (i := 219) rfl rfl rfl
theorem zok274 : zokC zm274.1 zm274.2.1 0 zc274 = true := zokH_ok (hs := [12129, 14233, 14234, 14235, 12129, 12129, 14236]) (by decide +kernel)
theorem zoy274 : zokY zm274 = true := zokYh_ok (a := 8011) (b := 14231) (c := 7008) (by decide +kernel)
set_option maxRecDepth 20000 in
theorem zow274 : Cond.code zm274.1 zm274.2.1 zm274.2.2.1 zm274.2.2.2.1 ∈ zTw := zpw (p := 14) (i := 232) rfl rfl rfl
theorem zok275 : zokC zm275.1 zm275.2.1 0 zc275 = true := zokH_ok (hs := [12116, 12116, 14229, 12116, 13239, 13223, 13231]) (by decide +kernel)
theorem zoy275 : zokY zm275 = true := zokYh_ok (a := 8011) (b := 14227) (c := 7007) (by decide +kernel)
set_option maxRecDepth 20000 in
theorem zow275 : Cond.code zm275.1 zm275.2.1 zm275.2.2.1 zm275.2.2.2.1 ∈ zTw := zpw (p := 14) (i := 228) rfl rfl rfl
theorem zok276 : zokC zm276.1 zm276.2.1 0 zc276 = true := zokH_ok (hs := [14031, 14224, 13042, 14073, 13042, 13042, 12117, 12129, 14162, 14225, 14105, 14035, 14166]) (by decide +kernel)
theorem zoy276 : zokY zm276 = true := zokYh_ok (a := 8011) (b := 14221) (c := 14222) (by decide +kernel)
set_option maxRecDepth 20000 in
theorem zow276 : Cond.code zm276.1 zm276.2.1 zm276.2.2.1 zm276.2.2.2.1 ∈ zTw := zpw (p := 14) (i := 223) rfl rfl rfl
theorem zok277 : zokC zm277.1 zm277.2.1 0 zc277 = true := zokH_ok (hs := [12116, 12096, 12116, 12116, 12116, 13195, 12116, 12119, 12117, 12095]) (by decide +kernel)
theorem zoy277 : zokY zm277 = true := zokYh_ok (a := 8011) (b := 14238) (c := 14239) (by decide +kernel)
set_option maxRecDepth 20000 in
theorem zow277 : Cond.code zm277.1 zm277.2.1 zm277.2.2.1 zm277.2.2.2.1 ∈ zTw := zpw (p := 15) (i := 0) rfl rfl rfl
theorem zok278 : zokC zm278.1 zm278.2.1 0 zc278 = true := zokH_ok (hs := [15005, 13042, 12132, 12131, 12117, 12130, 12116, 12116]) (by decide +kernel)
theorem zoy278 : zokY zm278 = true := zokYh_ok (a := 8011) (b := 15002) (c := 15003) (by decide +kernel)
set_option maxRecDepth 20000 in
theorem zow278 : Cond.code zm278.1 zm278.2.1 zm278.2.2.1 zm278.2.2.2.1 ∈ zTw := zpw (p := 15) (i := 4) rfl rfl rfl
theorem zok279 : zokC zm279.1 zm279.2.1 0 zc279 = true := zokH_ok (hs := [15005, 13042, 12132, 12131, 12117, 12119, 12116, 12130, 12116]) (by decide +kernel)
theorem zoy279 : zokY zm279 = true := zokYh_ok (a := 8011) (b := 15007) (c := 15008) (by decide +kernel)
set_option maxRecDepth 20000 in
theorem zow279 : Cond.code zm279.1 zm279.2.1 zm279.2.2.1 zm279.2.2.2.1 ∈ zTw := zpw (p := 15) (i := 9) rfl rfl rfl
theorem zok280 : zokC zm280.1 zm280.2.1 0 zc280 = true := zokH_ok (hs := [11149, 11150, 11150, 11151]) (by decide +kernel)
theorem zoy280 : zokY zm280 = true := zokYh_ok (a := 8020) (b := 11147) (c := 0) (by decide +kernel)
set_option maxRecDepth 20000 in
theorem zow280 : Cond.code zm280.1 zm280.2.1 zm280.2.2.1 zm280.2.2.2.1 ∈ zTw := zpw (p := 11) (i := 148) rfl rfl rfl
theorem zok281 : zokC zm281.1 zm281.2.1 0 zc281 = true := zokH_ok (hs := [15010, 9103]) (by decide +kernel)
theorem zoy281 : zokY zm281 = true := zokYh_ok (a := 8013) (b := 9100) (c := 9101) (by decide +kernel)
set_option maxRecDepth 20000 in
theorem zow281 : Cond.code zm281.1 zm281.2.1 zm281.2.2.1 zm281.2.2.2.1 ∈ zTw := zpw (p := 9) (i := 102) rfl rfl rfl
theorem zok282 : zokC zm282.1 zm282.2.1 0 zc282 = true := zokH_ok (hs := [9113, 15010, 9117, 15010, 9128]) (by decide +kernel)
theorem zoy282 : zokY zm282 = true := zokYh_ok (a := 8013) (b := 9110) (c := 9111) (by decide +kernel)
set_option maxRecDepth 20000 in
theorem zow282 : Cond.code zm282.1 zm282.2.1 zm282.2.2.1 zm282.2.2.2.1 ∈ zTw := zpw (p := 9) (i := 112) rfl rfl rfl
theorem zok283 : zokC zm283.1 zm283.2.1 0 zc283 = true := zokH_ok (hs := [9107, 15011]) (by decide +kernel)
theorem zoy283 : zokY zm283 = true := zokYh_ok (a := 8013) (b := 9104) (c := 9105) (by decide +kernel)
set_option maxRecDepth 20000 in
theorem zow283 : Cond.code zm283.1 zm283.2.1 zm283.2.2.1 zm283.2.2.2.1 ∈ zTw := zpw (p := 9) (i := 106) rfl rfl rfl
theorem zok284 : zokC zm284.1 zm284.2.1 0 zc284 = true := zokH_ok (hs := [9107, 15011]) (by decide +kernel)
theorem zoy284 : zokY zm284 = true := zokYh_ok (a := 8013) (b := 9114) (c := 9115) (by decide +kernel)
set_option maxRecDepth 20000 in
theorem zow284 : Cond.code zm284.1 zm284.2.1 zm284.2.2.1 zm284.2.2.2.1 ∈ zTw := zpw (p := 9) (i := 116) rfl rfl rfl
theorem zok285 : zokC zm285.1 zm285.2.1 0 zc285 = true := zokH_ok (hs := [9123, 9125]) (by decide +kernel)
theorem zoy285 : zokY zm285 = true := zokYh_ok (a := 8013) (b := 9121) (c := 0) (by decide +kernel)
set_option maxRecDepth 20000 in
theorem zow285 : Cond.code zm285.1 zm285.2.1 zm285.2.2.1 zm285.2.2.2.1 ∈ zTw := zpw (p := 9) (i := 122) rfl rfl rfl
theorem zok286 : zokC zm286.1 zm286.2.1 0 zc286 = true := zokH_ok (hs := [9120]) (by decide +kernel)
theorem zoy286 : zokY zm286 = true := zokYh_ok (a := 8014) (b := 9118) (c := 0) (by decide +kernel)
set_option maxRecDepth 20000 in
theorem zow286 : Cond.code zm286.1 zm286.2.1 zm286.2.2.1 zm286.2.2.2.1 ∈ zTw := zpw (p := 9) (i := 119) rfl rfl rfl
theorem zok287 : zokC zm287.1 zm287.2.1 0 zc287 = true := zokH_ok (hs := [9134]) (by decide +kernel)
theorem zoy287 : zokY zm287 = true := zokYh_ok (a := 8016) (b := 9139) (c := 0) (by decide +kernel)
set_option maxRecDepth 20000 in
theorem zow287 : Cond.code zm287.1 zm287.2.1 zm287.2.2.1 zm287.2.2.2.1 ∈ zTw := zpw (p := 9) (i := 140) rfl rfl rfl
theorem zok288 : zokC zm288.1 zm288.2.1 0 zc288 = true := zokH_ok (hs := []) (by decide +kernel)
theorem zoy288 : zokY zm288 = true := zokYh_ok (a := 8016) (b := 9135) (c := 0) (by decide +kernel)
set_option maxRecDepth 20000 in
theorem zow288 : Cond.code zm288.1 zm288.2.1 zm288.2.2.1 zm288.2.2.2.1 ∈ zTw := zpw (p := 9) (i := 136) rfl rfl rfl
theorem zok289 : zokC zm289.1 zm289.2.1 0 zc289 = true := zokH_ok (hs := [9131, 9138]) (by decide +kernel)
theorem zoy289 : zokY zm289 = true := zokYh_ok (a := 8016) (b := 9129) (c := 0) (by decide +kernel)
set_option maxRecDepth 20000 in
theorem zow289 : Cond.code zm289.1 zm289.2.1 zm289.2.2.1 zm289.2.2.2.1 ∈ zTw := zpw (p := 9) (i := 130) rfl rfl rfl
theorem zok290 : zokC zm290.1 zm290.2.1 0 zc290 = true := zokH_ok (hs := [9134, 9137]) (by decide +kernel)
theorem zoy290 : zokY zm290 = true := zokYh_ok (a := 8016) (b := 9132) (c := 0) (by decide +kernel)
set_option maxRecDepth 20000 in
theorem zow290 : Cond.code zm290.1 zm290.2.1 zm290.2.2.1 zm290.2.2.2.1 ∈ zTw := zpw (p := 9) (i := 133) rfl rfl rfl
theorem zok291 : zokC zm291.1 zm291.2.1 0 zc291 = true := zokH_ok (hs := []) (by decide +kernel)
theorem zoy291 : zokY zm291 = true := zokYh_ok (a := 8017) (b := 9197) (c := 0) (by decide +kernel)
set_option maxRecDepth 20000 in
theorem zow291 : Cond.code zm291.1 zm291.2.1 zm291.2.2.1 zm291.2.2.2.1 ∈ zTw := zpw (p := 9) (i := 198) rfl rfl rfl
theorem zok292 : zokC zm292.1 zm292.2.1 0 zc292 = true := by decide +kernel
theorem zoy292 : zokY zm292 = true := zokYh_ok (a := 8017) (b := 10100) (c := 0) (by decide +kernel)
set_option maxRecDepth 20000 in
theorem zow292 : Cond.code zm292.1 zm292.2.1 zm292.2.2.1 zm292.2.2.2.1 ∈ zTw := zpw (p := 10) (i := 101) rfl rfl rfl
theorem zok293 : zokC zm293.1 zm293.2.1 0 zc293 = true := zokH_ok (hs := []) (by decide +kernel)
theorem zoy293 : zokY zm293 = true := zokYh_ok (a := 8015) (b := 9126) (c := 0) (by decide +kernel)
set_option maxRecDepth 20000 in
theorem zow293 : Cond.code zm293.1 zm293.2.1 zm293.2.2.1 zm293.2.2.2.1 ∈ zTw := zpw (p := 9) (i := 127) rfl rfl rfl
