theorem zok49 : zokC zm49.1 zm49.2.1 0 zc49 = true := zokH_ok (hs := [8034, 8035]) (by decide +kernel)
theorem zoy49 : zokY zm49 = true := zokYh_ok (a := 8002) (b := 8032) (c := 0) (by decide +kernel)
set_option maxRecDepth 20000 in
theorem zow49 : Cond.code zm49.1 zm49.2.1 zm49.2.2.1 zm49.2.2.2.1 ∈ zTw := zpw (p := 8) (i := 33) rfl rfl rfl
theorem zok50 : zokC zm50.1 zm50.2.1 0 zc50 = true := zokH_ok (hs := [8035, 9072, 8036, 8037, 8042]) (by decide +kernel)
theorem zoy50 : zokY zm50 = true := zokYh_ok (a := 8002) (b := 9069) (c := 9070) (by decide +kernel)
set_option maxRecDepth 20000 in
theorem zow50 : Cond.code zm50.1 zm50.2.1 zm50.2.2.1 zm50.2.2.2.1 ∈ zTw := zpw (p := 9) (i := 71) rfl rfl rfl
theorem zok51 : zokC zm51.1 zm51.2.1 0 zc51 = true := zokH_ok (hs := [8042]) (by decide +kernel)
theorem zoy51 : zokY zm51 = true := zokYh_ok (a := 8002) (b := 9174) (c := 9175) (by decide +kernel)
set_option maxRecDepth 20000 in
theorem zow51 : Cond.code zm51.1 zm51.2.1 zm51.2.2.1 zm51.2.2.2.1 ∈ zTw := zpw (p := 9) (i := 176) rfl rfl rfl
theorem zok52 : zokC zm52.1 zm52.2.1 0 zc52 = true := zokH_ok (hs := [8042, 8042]) (by decide +kernel)
theorem zoy52 : zokY zm52 = true := zokYh_ok (a := 8002) (b := 9148) (c := 9149) (by decide +kernel)
set_option maxRecDepth 20000 in
theorem zow52 : Cond.code zm52.1 zm52.2.1 zm52.2.2.1 zm52.2.2.2.1 ∈ zTw := zpw (p := 9) (i := 150) rfl rfl rfl
theorem zok53 : zokC zm53.1 zm53.2.1 0 zc53 = true := zokH_ok (hs := [8037, 8036, 8035, 8037, 8037, 8037, 8037, 8036, 8035, 8037]) (by decide +kernel)
theorem zoy53 : zokY zm53 = true := zokYh_ok (a := 8002) (b := 9093) (c := 9094) (by decide +kernel)
set_option maxRecDepth 20000 in
theorem zow53 : Cond.code zm53.1 zm53.2.1 zm53.2.2.1 zm53.2.2.2.1 ∈ zTw := zpw (p := 9) (i := 95) rfl rfl rfl
theorem zok54 : zokC zm54.1 zm54.2.1 0 zc54 = true := zokH_ok (hs := [8037, 8037]) (by decide +kernel)
theorem zoy54 : zokY zm54 = true := zokYh_ok (a := 8002) (b := 9231) (c := 9232) (by decide +kernel)
set_option maxRecDepth 20000 in
theorem zow54 : Cond.code zm54.1 zm54.2.1 zm54.2.2.1 zm54.2.2.2.1 ∈ zTw := zpw (p := 9) (i := 233) rfl rfl rfl
theorem zok55 : zokC zm55.1 zm55.2.1 0 zc55 = true := zokH_ok (hs := [8037, 8036, 8035, 8037, 8037, 8037]) (by decide +kernel)
theorem zoy55 : zokY zm55 = true := zokYh_ok (a := 8002) (b := 10085) (c := 10086) (by decide +kernel)
set_option maxRecDepth 20000 in
theorem zow55 : Cond.code zm55.1 zm55.2.1 zm55.2.2.1 zm55.2.2.2.1 ∈ zTw := zpw (p := 10) (i := 87) rfl rfl rfl
theorem zok56 : zokC zm56.1 zm56.2.1 0 zc56 = true := zokH_ok (hs := []) (by decide +kernel)
theorem zoy56 : zokY zm56 = true := zokYh_ok (a := 8002) (b := 9186) (c := 0) (by decide +kernel)
set_option maxRecDepth 20000 in
theorem zow56 : Cond.code zm56.1 zm56.2.1 zm56.2.2.1 zm56.2.2.2.1 ∈ zTw := zpw (p := 9) (i := 187) rfl rfl rfl
theorem zok57 : zokC zm57.1 zm57.2.1 0 zc57 = true := zokH_ok (hs := []) (by decide +kernel)
theorem zoy57 : zokY zm57 = true := zokYh_ok (a := 8002) (b := 9097) (c := 0) (by decide +kernel)
set_option maxRecDepth 20000 in
theorem zow57 : Cond.code zm57.1 zm57.2.1 zm57.2.2.1 zm57.2.2.2.1 ∈ zTw := zpw (p := 9) (i := 98) rfl rfl rfl
theorem zok58 : zokC zm58.1 zm58.2.1 0 zc58 = true := zokH_ok (hs := [9092, 8037, 8041, 8037, 8036, 8035, 8037, 9185, 8037, 8041, 8035, 8037, 8037, 8037, 8037, 8041, 8041, 9147, 8037, 8041, 8041, 9147]) (by decide +kernel)
theorem zoy58 : zokY zm58 = true := zokYh_ok (a := 8002) (b := 9182) (c := 9183) (by decide +kernel)
set_option maxRecDepth 20000 in
theorem zow58 : Cond.code zm58.1 zm58.2.1 zm58.2.2.1 zm58.2.2.2.1 ∈ zTw := zpw (p := 9) (i := 184) rfl rfl rfl
theorem zok59 : zokC zm59.1 zm59.2.1 0 zc59 = true := zokH_ok (hs := [9092, 8037, 8041, 8037, 8036, 8035, 9096, 8041, 9099, 9109, 8035, 9109, 8037, 8041]) (by decide +kernel)
theorem zoy59 : zokY zm59 = true := zokYh_ok (a := 8002) (b := 9089) (c := 9090) (by decide +kernel)
set_option maxRecDepth 20000 in
theorem zow59 : Cond.code zm59.1 zm59.2.1 zm59.2.2.1 zm59.2.2.2.1 ∈ zTw := zpw (p := 9) (i := 91) rfl rfl rfl
theorem zok60 : zokC zm60.1 zm60.2.1 0 zc60 = true := zokH_ok (hs := [9088, 8041, 9147]) (by decide +kernel)
theorem zoy60 : zokY zm60 = true := zokYh_ok (a := 8002) (b := 9085) (c := 9086) (by decide +kernel)
set_option maxRecDepth 20000 in
theorem zow60 : Cond.code zm60.1 zm60.2.1 zm60.2.2.1 zm60.2.2.2.1 ∈ zTw := zpw (p := 9) (i := 87) rfl rfl rfl
theorem zok61 : zokC zm61.1 zm61.2.1 0 zc61 = true := zokH_ok (hs := [9229, 9092, 9230, 8037, 9147]) (by decide +kernel)
theorem zoy61 : zokY zm61 = true := zokYh_ok (a := 8002) (b := 9226) (c := 9227) (by decide +kernel)
set_option maxRecDepth 20000 in
theorem zow61 : Cond.code zm61.1 zm61.2.1 zm61.2.2.1 zm61.2.2.2.1 ∈ zTw := zpw (p := 9) (i := 228) rfl rfl rfl
theorem zok62 : zokC zm62.1 zm62.2.1 0 zc62 = true := zokH_ok (hs := [8223, 8224, 8228]) (by decide +kernel)
theorem zoy62 : zokY zm62 = true := zokYh_ok (a := 8010) (b := 8221) (c := 0) (by decide +kernel)
set_option maxRecDepth 20000 in
theorem zow62 : Cond.code zm62.1 zm62.2.1 zm62.2.2.1 zm62.2.2.2.1 ∈ zTw := zpw (p := 8) (i := 222) rfl rfl rfl
theorem zok63 : zokC zm63.1 zm63.2.1 0 zc63 = true := zokH_ok (hs := [11038, 8226, 11038, 8224, 11039, 8226]) (by decide +kernel)
theorem zoy63 : zokY zm63 = true := zokYh_ok (a := 8010) (b := 11035) (c := 11036) (by decide +kernel)
set_option maxRecDepth 20000 in
theorem zow63 : Cond.code zm63.1 zm63.2.1 zm63.2.2.1 zm63.2.2.2.1 ∈ zTw := zpw (p := 11) (i := 37) rfl rfl rfl
theorem zok64 : zokC zm64.1 zm64.2.1 0 zc64 = true := zokH_ok (hs := [8226, 8224, 11043, 8224, 11038, 11043, 8224, 11039]) (by decide +kernel)
theorem zoy64 : zokY zm64 = true := zokYh_ok (a := 8010) (b := 11041) (c := 1005) (by decide +kernel)
set_option maxRecDepth 20000 in
theorem zow64 : Cond.code zm64.1 zm64.2.1 zm64.2.2.1 zm64.2.2.2.1 ∈ zTw := zpw (p := 11) (i := 42) rfl rfl rfl
theorem zok65 : zokC zm65.1 zm65.2.1 0 zc65 = true := zokH_ok (hs := [8226, 8226, 8224, 8224, 8224, 8224, 11043, 11048]) (by decide +kernel)
theorem zoy65 : zokY zm65 = true := zokYh_ok (a := 8010) (b := 11045) (c := 11046) (by decide +kernel)
set_option maxRecDepth 20000 in
theorem zow65 : Cond.code zm65.1 zm65.2.1 zm65.2.2.1 zm65.2.2.2.1 ∈ zTw := zpw (p := 11) (i := 47) rfl rfl rfl
theorem zok66 : zokC zm66.1 zm66.2.1 0 zc66 = true := zokH_ok (hs := [11038, 8228, 11043, 8228, 8228, 8228, 8228, 8228]) (by decide +kernel)
theorem zoy66 : zokY zm66 = true := zokYh_ok (a := 8010) (b := 11238) (c := 11239) (by decide +kernel)
set_option maxRecDepth 20000 in
theorem zow66 : Cond.code zm66.1 zm66.2.1 zm66.2.2.1 zm66.2.2.2.1 ∈ zTw := zpw (p := 12) (i := 0) rfl rfl rfl
theorem zok67 : zokC zm67.1 zm67.2.1 0 zc67 = true := zokH_ok (hs := [8108, 8109]) (by decide +kernel)
theorem zoy67 : zokY zm67 = true := zokYh_ok (a := 8005) (b := 8106) (c := 0) (by decide +kernel)
set_option maxRecDepth 20000 in
theorem zow67 : Cond.code zm67.1 zm67.2.1 zm67.2.2.1 zm67.2.2.2.1 ∈ zTw := zpw (p := 8) (i := 107) rfl rfl rfl
theorem zok68 : zokC zm68.1 zm68.2.1 0 zc68 = true := zokH_ok (hs := [8109, 9239]) (by decide +kernel)
theorem zoy68 : zokY zm68 = true := zokYh_ok (a := 8005) (b := 10222) (c := 10223) (by decide +kernel)
set_option maxRecDepth 20000 in
theorem zow68 : Cond.code zm68.1 zm68.2.1 zm68.2.2.1 zm68.2.2.2.1 ∈ zTw := zpw (p := 10) (i := 224) rfl rfl rfl
theorem zok69 : zokC zm69.1 zm69.2.1 0 zc69 = true := zokH_ok (hs := [8109, 9239]) (by decide +kernel)
theorem zoy69 : zokY zm69 = true := zokYh_ok (a := 8005) (b := 11084) (c := 11085) (by decide +kernel)
set_option maxRecDepth 20000 in
theorem zow69 : Cond.code zm69.1 zm69.2.1 zm69.2.2.1 zm69.2.2.2.1 ∈ zTw := zpw (p := 11) (i := 86) rfl rfl rfl
theorem zok70 : zokC zm70.1 zm70.2.1 0 zc70 = true := zokH_ok (hs := [8109, 8109, 9239]) (by decide +kernel)
theorem zoy70 : zokY zm70 = true := zokYh_ok (a := 8005) (b := 9236) (c := 9237) (by decide +kernel)
set_option maxRecDepth 20000 in
theorem zow70 : Cond.code zm70.1 zm70.2.1 zm70.2.2.1 zm70.2.2.2.1 ∈ zTw := zpw (p := 9) (i := 238) rfl rfl rfl
theorem zok71 : zokC zm71.1 zm71.2.1 0 zc71 = true := zokH_ok (hs := [8109, 9196, 8109, 8109]) (by decide +kernel)
theorem zoy71 : zokY zm71 = true := zokYh_ok (a := 8005) (b := 9193) (c := 9194) (by decide +kernel)
set_option maxRecDepth 20000 in
theorem zow71 : Cond.code zm71.1 zm71.2.1 zm71.2.2.1 zm71.2.2.2.1 ∈ zTw := zpw (p := 9) (i := 195) rfl rfl rfl
theorem zok72 : zokC zm72.1 zm72.2.1 0 zc72 = true := zokH_ok (hs := [9203, 9204, 9204, 9204, 9204, 8109]) (by decide +kernel)
theorem zoy72 : zokY zm72 = true := zokYh_ok (a := 8005) (b := 9200) (c := 9201) (by decide +kernel)
set_option maxRecDepth 20000 in
theorem zow72 : Cond.code zm72.1 zm72.2.1 zm72.2.2.1 zm72.2.2.2.1 ∈ zTw := zpw (p := 9) (i := 202) rfl rfl rfl
theorem zok73 : zokC zm73.1 zm73.2.1 0 zc73 = true := zokH_ok (hs := [9216, 9217, 9217, 9217, 9217, 9217, 8109]) (by decide +kernel)
theorem zoy73 : zokY zm73 = true := zokYh_ok (a := 8005) (b := 9213) (c := 9214) (by decide +kernel)
set_option maxRecDepth 20000 in
theorem zow73 : Cond.code zm73.1 zm73.2.1 zm73.2.2.1 zm73.2.2.2.1 ∈ zTw := zpw (p := 9) (i := 215) rfl rfl rfl
theorem zok74 : zokC zm74.1 zm74.2.1 0 zc74 = true := zokH_ok (hs := [8109]) (by decide +kernel)
theorem zoy74 : zokY zm74 = true := zokYh_ok (a := 8005) (b := 9209) (c := 9210) (by decide +kernel)
set_option maxRecDepth 20000 in
theorem zow74 : Cond.code zm74.1 zm74.2.1 zm74.2.2.1 zm74.2.2.2.1 ∈ zTw := zpw (p := 9) (i := 211) rfl rfl rfl
theorem zok75 : zokC zm75.1 zm75.2.1 0 zc75 = true := zokH_ok (hs := [8109]) (by decide +kernel)
theorem zoy75 : zokY zm75 = true := zokYh_ok (a := 8005) (b := 9222) (c := 9223) (by decide +kernel)
set_option maxRecDepth 20000 in
theorem zow75 : Cond.code zm75.1 zm75.2.1 zm75.2.2.1 zm75.2.2.2.1 ∈ zTw := zpw (p := 9) (i := 224) rfl rfl rfl
theorem zok76 : zokC zm76.1 zm76.2.1 0 zc76 = true := zokH_ok (hs := [10194]) (by decide +kernel)
theorem zoy76 : zokY zm76 = true := zokYh_ok (a := 8005) (b := 11059) (c := 11060) (by decide +kernel)
set_option maxRecDepth 20000 in
theorem zow76 : Cond.code zm76.1 zm76.2.1 zm76.2.2.1 zm76.2.2.2.1 ∈ zTw := zpw (p := 11) (i := 61) rfl rfl rfl
theorem zok77 : zokC zm77.1 zm77.2.1 0 zc77 = true := zokH_ok (hs := [8109]) (by decide +kernel)
theorem zoy77 : zokY zm77 = true := zokYh_ok (a := 8005) (b := 9164) (c := 9165) (by decide +kernel)
set_option maxRecDepth 20000 in
theorem zow77 : Cond.code zm77.1 zm77.2.1 zm77.2.2.1 zm77.2.2.2.1 ∈ zTw := zpw (p := 9) (i := 166) rfl rfl rfl
theorem zok78 : zokC zm78.1 zm78.2.1 0 zc78 = true := zokH_ok (hs := [8109]) (by decide +kernel)
theorem zoy78 : zokY zm78 = true := zokYh_ok (a := 8005) (b := 10152) (c := 10153) (by decide +kernel)
set_option maxRecDepth 20000 in
theorem zow78 : Cond.code zm78.1 zm78.2.1 zm78.2.2.1 zm78.2.2.2.1 ∈ zTw := zpw (p := 10) (i := 154) rfl rfl rfl
theorem zok79 : zokC zm79.1 zm79.2.1 0 zc79 = true := zokH_ok (hs := [8109]) (by decide +kernel)
theorem zoy79 : zokY zm79 = true := zokYh_ok (a := 8005) (b := 9155) (c := 9156) (by decide +kernel)
set_option maxRecDepth 20000 in
theorem zow79 : Cond.code zm79.1 zm79.2.1 zm79.2.2.1 zm79.2.2.2.1 ∈ zTw := zpw (p := 9) (i := 157) rfl rfl rfl
theorem zok80 : zokC zm80.1 zm80.2.1 0 zc80 = true := zokH_ok (hs := [8109]) (by decide +kernel)
theorem zoy80 : zokY zm80 = true := zokYh_ok (a := 8005) (b := 9159) (c := 9160) (by decide +kernel)
set_option maxRecDepth 20000 in
theorem zow80 : Cond.code zm80.1 zm80.2.1 zm80.2.2.1 zm80.2.2.2.1 ∈ zTw := zpw (p := 9) (i := 161) rfl rfl rfl
theorem zok81 : zokC zm81.1 zm81.2.1 0 zc81 = true := zokH_ok (hs := [8109]) (by decide +kernel)
theorem zoy81 : zokY zm81 = true := zokYh_ok (a := 8005) (b := 11015) (c := 11016) (by decide +kernel)
set_option maxRecDepth 20000 in
theorem zow81 : Cond.code zm81.1 zm81.2.1 zm81.2.2.1 zm81.2.2.2.1 ∈ zTw := zpw (p := 11) (i := 17) rfl rfl rfl
theorem zok82 : zokC zm82.1 zm82.2.1 0 zc82 = true := zokH_ok (hs := [8109]) (by decide +kernel)
theorem zoy82 : zokY zm82 = true := zokYh_ok (a := 8005) (b := 11096) (c := 11097) (by decide +kernel)
set_option maxRecDepth 20000 in
theorem zow82 : Cond.code zm82.1 zm82.2.1 zm82.2.2.1 zm82.2.2.2.1 ∈ zTw := zpw (p := 11) (i := 98) rfl rfl rfl
theorem zok83 : zokC zm83.1 zm83.2.1 0 zc83 = true := zokH_ok (hs := [9203]) (by decide +kernel)
theorem zoy83 : zokY zm83 = true := zokYh_ok (a := 8005) (b := 10128) (c := 10129) (by decide +kernel)
set_option maxRecDepth 20000 in
theorem zow83 : Cond.code zm83.1 zm83.2.1 zm83.2.2.1 zm83.2.2.2.1 ∈ zTw := zpw (p := 10) (i := 130) rfl rfl rfl
theorem zok84 : zokC zm84.1 zm84.2.1 0 zc84 = true := zokH_ok (hs := [9216]) (by decide +kernel)
theorem zoy84 : zokY zm84 = true := zokYh_ok (a := 8005) (b := 10165) (c := 10166) (by decide +kernel)
set_option maxRecDepth 20000 in
theorem zow84 : Cond.code zm84.1 zm84.2.1 zm84.2.2.1 zm84.2.2.2.1 ∈ zTw := zpw (p := 10) (i := 167) rfl rfl rfl
theorem zok85 : zokC zm85.1 zm85.2.1 0 zc85 = true := zokH_ok (hs := [10194]) (by decide +kernel)
theorem zoy85 : zokY zm85 = true := zokYh_ok (a := 8005) (b := 10191) (c := 10192) (by decide +kernel)
set_option maxRecDepth 20000 in
theorem zow85 : Cond.code zm85.1 zm85.2.1 zm85.2.2.1 zm85.2.2.2.1 ∈ zTw := zpw (p := 10) (i := 193) rfl rfl rfl
theorem zok86 : zokC zm86.1 zm86.2.1 0 zc86 = true := zokH_ok (hs := [10190, 10190]) (by decide +kernel)
theorem zoy86 : zokY zm86 = true := zokYh_ok (a := 8005) (b := 10187) (c := 10188) (by decide +kernel)
set_option maxRecDepth 20000 in
theorem zow86 : Cond.code zm86.1 zm86.2.1 zm86.2.2.1 zm86.2.2.2.1 ∈ zTw := zpw (p := 10) (i := 189) rfl rfl rfl
theorem zok87 : zokC zm87.1 zm87.2.1 0 zc87 = true := zokH_ok (hs := [8109]) (by decide +kernel)
theorem zoy87 : zokY zm87 = true := zokYh_ok (a := 8005) (b := 10144) (c := 10145) (by decide +kernel)
set_option maxRecDepth 20000 in
theorem zow87 : Cond.code zm87.1 zm87.2.1 zm87.2.2.1 zm87.2.2.2.1 ∈ zTw := zpw (p := 10) (i := 146) rfl rfl rfl
theorem zok88 : zokC zm88.1 zm88.2.1 0 zc88 = true := zokH_ok (hs := [8109]) (by decide +kernel)
theorem zoy88 : zokY zm88 = true := zokYh_ok (a := 8005) (b := 9206) (c := 5) (by decide +kernel)
set_option maxRecDepth 20000 in
theorem zow88 : Cond.code zm88.1 zm88.2.1 zm88.2.2.1 zm88.2.2.2.1 ∈ zTw := zpw (p := 9) (i := 207) rfl rfl rfl
theorem zok89 : zokC zm89.1 zm89.2.1 0 zc89 = true := zokH_ok (hs := [8109]) (by decide +kernel)
theorem zoy89 : zokY zm89 = true := zokYh_ok (a := 8005) (b := 10177) (c := 10178) (by decide +kernel)
set_option maxRecDepth 20000 in
theorem zow89 : Cond.code zm89.1 zm89.2.1 zm89.2.2.1 zm89.2.2.2.1 ∈ zTw := zpw (p := 10) (i := 179) rfl rfl rfl
theorem zok90 : zokC zm90.1 zm90.2.1 0 zc90 = true := zokH_ok (hs := [8109]) (by decide +kernel)
theorem zoy90 : zokY zm90 = true := zokYh_ok (a := 8005) (b := 9219) (c := 6) (by decide +kernel)
set_option maxRecDepth 20000 in
theorem zow90 : Cond.code zm90.1 zm90.2.1 zm90.2.2.1 zm90.2.2.2.1 ∈ zTw := zpw (p := 9) (i := 220) rfl rfl rfl
theorem zok91 : zokC zm91.1 zm91.2.1 0 zc91 = true := zokH_ok (hs := [8109]) (by decide +kernel)
theorem zoy91 : zokY zm91 = true := zokYh_ok (a := 8005) (b := 10200) (c := 10201) (by decide +kernel)
set_option maxRecDepth 20000 in
theorem zow91 : Cond.code zm91.1 zm91.2.1 zm91.2.2.1 zm91.2.2.2.1 ∈ zTw := zpw (p := 10) (i := 202) rfl rfl rfl
theorem zok92 : zokC zm92.1 zm92.2.1 0 zc92 = true := zokH_ok (hs := [10199]) (by decide +kernel)
theorem zoy92 : zokY zm92 = true := zokYh_ok (a := 8005) (b := 10196) (c := 10197) (by decide +kernel)
set_option maxRecDepth 20000 in
theorem zow92 : Cond.code zm92.1 zm92.2.1 zm92.2.2.1 zm92.2.2.2.1 ∈ zTw := zpw (p := 10) (i := 198) rfl rfl rfl
theorem zok93 : zokC zm93.1 zm93.2.1 0 zc93 = true := zokH_ok (hs := [10216, 10216]) (by decide +kernel)
theorem zoy93 : zokY zm93 = true := zokYh_ok (a := 8005) (b := 11023) (c := 11024) (by decide +kernel)
set_option maxRecDepth 20000 in
theorem zow93 : Cond.code zm93.1 zm93.2.1 zm93.2.2.1 zm93.2.2.2.1 ∈ zTw := zpw (p := 11) (i := 25) rfl rfl rfl
theorem zok94 : zokC zm94.1 zm94.2.1 0 zc94 = true := zokH_ok (hs := [8109]) (by decide +kernel)
theorem zoy94 : zokY zm94 = true := zokYh_ok (a := 8005) (b := 10204) (c := 10205) (by decide +kernel)
set_option maxRecDepth 20000 in
theorem zow94 : Cond.code zm94.1 zm94.2.1 zm94.2.2.1 zm94.2.2.2.1 ∈ zTw := zpw (p := 10) (i := 206) rfl rfl rfl
theorem zok95 : zokC zm95.1 zm95.2.1 0 zc95 = true := zokH_ok (hs := [10194, 10230, 10230]) (by decide +kernel)
theorem zoy95 : zokY zm95 = true := zokYh_ok (a := 8005) (b := 12006) (c := 12007) (by decide +kernel)
set_option maxRecDepth 20000 in
theorem zow95 : Cond.code zm95.1 zm95.2.1 zm95.2.2.1 zm95.2.2.2.1 ∈ zTw := zpw (p := 12) (i := 8) rfl rfl rfl
theorem zok96 : zokC zm96.1 zm96.2.1 0 zc96 = true := zokH_ok (hs := [8109]) (by decide +kernel)
theorem zoy96 : zokY zm96 = true := zokYh_ok (a := 8005) (b := 12075) (c := 12076) (by decide +kernel)
set_option maxRecDepth 20000 in
theorem zow96 : Cond.code zm96.1 zm96.2.1 zm96.2.2.1 zm96.2.2.2.1 ∈ zTw := zpw (p := 12) (i := 77) rfl rfl rfl
theorem zok97 : zokC zm97.1 zm97.2.1 0 zc97 = true := zokH_ok (hs := [10143, 10143]) (by decide +kernel)
theorem zoy97 : zokY zm97 = true := zokYh_ok (a := 8005) (b := 10140) (c := 10141) (by decide +kernel)
set_option maxRecDepth 20000 in
theorem zow97 : Cond.code zm97.1 zm97.2.1 zm97.2.2.1 zm97.2.2.2.1 ∈ zTw := zpw (p := 10) (i := 142) rfl rfl rfl
