theorem zok0 : zokC zm0.1 zm0.2.1 0 zc0 = true := by decide +kernel
theorem zoy0 : zokY zm0 = true := by decide +kernel
set_option maxRecDepth 20000 in
theorem zow0 : Cond.code zm0.1 zm0.2.1 zm0.2.2.1 zm0.2.2.2.1 ∈ zTw := List.mem_filter.mpr ⟨List.mem_of_getElem? (i := 271) rfl, rfl⟩
theorem zok10 : zokC zm10.1 zm10.2.1 0 zc10 = true := by decide +kernel
theorem zoy10 : zokY zm10 = true := by decide +kernel
set_option maxRecDepth 20000 in
theorem zow10 : Cond.code zm10.1 zm10.2.1 zm10.2.2.1 zm10.2.2.2.1 ∈ zTw := List.mem_filter.mpr ⟨List.mem_of_getElem? (i := 259) rfl, rfl⟩
theorem zok13 : zokC zm13.1 zm13.2.1 0 zc13 = true := by decide +kernel
theorem zoy13 : zokY zm13 = true := by decide +kernel
set_option maxRecDepth 20000 in
theorem zow13 : Cond.code zm13.1 zm13.2.1 zm13.2.2.1 zm13.2.2.2.1 ∈ zTw := List.mem_filter.mpr ⟨List.mem_of_getElem? (i := 240) rfl, rfl⟩
theorem zok14 : zokC zm14.1 zm14.2.1 0 zc14 = true := by decide +kernel
theorem zoy14 : zokY zm14 = true := by decide +kernel
set_option maxRecDepth 20000 in
theorem zow14 : Cond.code zm14.1 zm14.2.1 zm14.2.2.1 zm14.2.2.2.1 ∈ zTw := List.mem_filter.mpr ⟨List.mem_of_getElem? (i := 919) rfl, rfl⟩
theorem zok18 : zokC zm18.1 zm18.2.1 0 zc18 = true := by decide +kernel
theorem zoy18 : zokY zm18 = true := by decide +kernel
set_option maxRecDepth 20000 in
theorem zow18 : Cond.code zm18.1 zm18.2.1 zm18.2.2.1 zm18.2.2.2.1 ∈ zTw := List.mem_filter.mpr ⟨List.mem_of_getElem? (i := 318) rfl, rfl⟩
theorem zok32 : zokC zm32.1 zm32.2.1 0 zc32 = true := by decide +kernel
theorem zoy32 : zokY zm32 = true := by decide +kernel
set_option maxRecDepth 20000 in
theorem zow32 : Cond.code zm32.1 zm32.2.1 zm32.2.2.1 zm32.2.2.2.1 ∈ zTw := List.mem_filter.mpr ⟨List.mem_of_getElem? (i := 191) rfl, rfl⟩
theorem zok33 : zokC zm33.1 zm33.2.1 0 zc33 = true := by decide +kernel
theorem zoy33 : zokY zm33 = true := by decide +kernel
set_option maxRecDepth 20000 in
theorem zow33 : Cond.code zm33.1 zm33.2.1 zm33.2.2.1 zm33.2.2.2.1 ∈ zTw := List.mem_filter.mpr ⟨List.mem_of_getElem? (i := 616) rfl, rfl⟩
theorem zok34 : zokC zm34.1 zm34.2.1 0 zc34 = true := by decide +kernel
theorem zoy34 : zokY zm34 = true := by decide +kernel
set_option maxRecDepth 20000 in
theorem zow34 : Cond.code zm34.1 zm34.2.1 zm34.2.2.1 zm34.2.2.2.1 ∈ zTw := List.mem_filter.mpr ⟨List.mem_of_getElem? (i := 621) rfl, rfl⟩
theorem zok49 : zokC zm49.1 zm49.2.1 0 zc49 = true := by decide +kernel
theorem zoy49 : zokY zm49 = true := by decide +kernel
set_option maxRecDepth 20000 in
theorem zow49 : Cond.code zm49.1 zm49.2.1 zm49.2.2.1 zm49.2.2.2.1 ∈ zTw := List.mem_filter.mpr ⟨List.mem_of_getElem? (i := 154) rfl, rfl⟩
theorem zok50 : zokC zm50.1 zm50.2.1 0 zc50 = true := by decide +kernel
theorem zoy50 : zokY zm50 = true := by decide +kernel
set_option maxRecDepth 20000 in
theorem zow50 : Cond.code zm50.1 zm50.2.1 zm50.2.2.1 zm50.2.2.2.1 ∈ zTw := List.mem_filter.mpr ⟨List.mem_of_getElem? (i := 432) rfl, rfl⟩
theorem zok51 : zokC zm51.1 zm51.2.1 0 zc51 = true := by decide +kernel
theorem zoy51 : zokY zm51 = true := by decide +kernel
set_option maxRecDepth 20000 in
theorem zow51 : Cond.code zm51.1 zm51.2.1 zm51.2.2.1 zm51.2.2.2.1 ∈ zTw := List.mem_filter.mpr ⟨List.mem_of_getElem? (i := 537) rfl, rfl⟩
theorem zok52 : zokC zm52.1 zm52.2.1 0 zc52 = true := by decide +kernel
theorem zoy52 : zokY zm52 = true := by decide +kernel
set_option maxRecDepth 20000 in
theorem zow52 : Cond.code zm52.1 zm52.2.1 zm52.2.2.1 zm52.2.2.2.1 ∈ zTw := List.mem_filter.mpr ⟨List.mem_of_getElem? (i := 511) rfl, rfl⟩
theorem zok53 : zokC zm53.1 zm53.2.1 0 zc53 = true := by decide +kernel
theorem zoy53 : zokY zm53 = true := by decide +kernel
set_option maxRecDepth 20000 in
theorem zow53 : Cond.code zm53.1 zm53.2.1 zm53.2.2.1 zm53.2.2.2.1 ∈ zTw := List.mem_filter.mpr ⟨List.mem_of_getElem? (i := 456) rfl, rfl⟩
theorem zok59 : zokC zm59.1 zm59.2.1 0 zc59 = true := by decide +kernel
theorem zoy59 : zokY zm59 = true := by decide +kernel
set_option maxRecDepth 20000 in
theorem zow59 : Cond.code zm59.1 zm59.2.1 zm59.2.2.1 zm59.2.2.2.1 ∈ zTw := List.mem_filter.mpr ⟨List.mem_of_getElem? (i := 452) rfl, rfl⟩
theorem zok60 : zokC zm60.1 zm60.2.1 0 zc60 = true := by decide +kernel
theorem zoy60 : zokY zm60 = true := by decide +kernel
set_option maxRecDepth 20000 in
theorem zow60 : Cond.code zm60.1 zm60.2.1 zm60.2.2.1 zm60.2.2.2.1 ∈ zTw := List.mem_filter.mpr ⟨List.mem_of_getElem? (i := 448) rfl, rfl⟩
theorem zok61 : zokC zm61.1 zm61.2.1 0 zc61 = true := by decide +kernel
theorem zoy61 : zokY zm61 = true := by decide +kernel
set_option maxRecDepth 20000 in
theorem zow61 : Cond.code zm61.1 zm61.2.1 zm61.2.2.1 zm61.2.2.2.1 ∈ zTw := List.mem_filter.mpr ⟨List.mem_of_getElem? (i := 589) rfl, rfl⟩
theorem zok62 : zokC zm62.1 zm62.2.1 0 zc62 = true := by decide +kernel
theorem zoy62 : zokY zm62 = true := by decide +kernel
set_option maxRecDepth 20000 in
theorem zow62 : Cond.code zm62.1 zm62.2.1 zm62.2.2.1 zm62.2.2.2.1 ∈ zTw := List.mem_filter.mpr ⟨List.mem_of_getElem? (i := 343) rfl, rfl⟩
theorem zok63 : zokC zm63.1 zm63.2.1 0 zc63 = true := by decide +kernel
theorem zoy63 : zokY zm63 = true := by decide +kernel
set_option maxRecDepth 20000 in
theorem zow63 : Cond.code zm63.1 zm63.2.1 zm63.2.2.1 zm63.2.2.2.1 ∈ zTw := List.mem_filter.mpr ⟨List.mem_of_getElem? (i := 878) rfl, rfl⟩
theorem zok67 : zokC zm67.1 zm67.2.1 0 zc67 = true := by decide +kernel
theorem zoy67 : zokY zm67 = true := by decide +kernel
set_option maxRecDepth 20000 in
theorem zow67 : Cond.code zm67.1 zm67.2.1 zm67.2.2.1 zm67.2.2.2.1 ∈ zTw := List.mem_filter.mpr ⟨List.mem_of_getElem? (i := 228) rfl, rfl⟩
theorem zok68 : zokC zm68.1 zm68.2.1 0 zc68 = true := by decide +kernel
theorem zoy68 : zokY zm68 = true := by decide +kernel
set_option maxRecDepth 20000 in
theorem zow68 : Cond.code zm68.1 zm68.2.1 zm68.2.2.1 zm68.2.2.2.1 ∈ zTw := List.mem_filter.mpr ⟨List.mem_of_getElem? (i := 825) rfl, rfl⟩
theorem zok76 : zokC zm76.1 zm76.2.1 0 zc76 = true := by decide +kernel
theorem zoy76 : zokY zm76 = true := by decide +kernel
set_option maxRecDepth 20000 in
theorem zow76 : Cond.code zm76.1 zm76.2.1 zm76.2.2.1 zm76.2.2.2.1 ∈ zTw := List.mem_filter.mpr ⟨List.mem_of_getElem? (i := 902) rfl, rfl⟩
theorem zok77 : zokC zm77.1 zm77.2.1 0 zc77 = true := by decide +kernel
theorem zoy77 : zokY zm77 = true := by decide +kernel
set_option maxRecDepth 20000 in
theorem zow77 : Cond.code zm77.1 zm77.2.1 zm77.2.2.1 zm77.2.2.2.1 ∈ zTw := List.mem_filter.mpr ⟨List.mem_of_getElem? (i := 527) rfl, rfl⟩
theorem zok78 : zokC zm78.1 zm78.2.1 0 zc78 = true := by decide +kernel
theorem zoy78 : zokY zm78 = true := by decide +kernel
set_option maxRecDepth 20000 in
theorem zow78 : Cond.code zm78.1 zm78.2.1 zm78.2.2.1 zm78.2.2.2.1 ∈ zTw := List.mem_filter.mpr ⟨List.mem_of_getElem? (i := 755) rfl, rfl⟩
theorem zok79 : zokC zm79.1 zm79.2.1 0 zc79 = true := by decide +kernel
theorem zoy79 : zokY zm79 = true := by decide +kernel
set_option maxRecDepth 20000 in
theorem zow79 : Cond.code zm79.1 zm79.2.1 zm79.2.2.1 zm79.2.2.2.1 ∈ zTw := List.mem_filter.mpr ⟨List.mem_of_getElem? (i := 518) rfl, rfl⟩
theorem zok80 : zokC zm80.1 zm80.2.1 0 zc80 = true := by decide +kernel
theorem zoy80 : zokY zm80 = true := by decide +kernel
set_option maxRecDepth 20000 in
theorem zow80 : Cond.code zm80.1 zm80.2.1 zm80.2.2.1 zm80.2.2.2.1 ∈ zTw := List.mem_filter.mpr ⟨List.mem_of_getElem? (i := 522) rfl, rfl⟩
theorem zok81 : zokC zm81.1 zm81.2.1 0 zc81 = true := by decide +kernel
theorem zoy81 : zokY zm81 = true := by decide +kernel
set_option maxRecDepth 20000 in
theorem zow81 : Cond.code zm81.1 zm81.2.1 zm81.2.2.1 zm81.2.2.2.1 ∈ zTw := List.mem_filter.mpr ⟨List.mem_of_getElem? (i := 858) rfl, rfl⟩
theorem zok82 : zokC zm82.1 zm82.2.1 0 zc82 = true := by decide +kernel
theorem zoy82 : zokY zm82 = true := by decide +kernel
set_option maxRecDepth 20000 in
theorem zow82 : Cond.code zm82.1 zm82.2.1 zm82.2.2.1 zm82.2.2.2.1 ∈ zTw := List.mem_filter.mpr ⟨List.mem_of_getElem? (i := 939) rfl, rfl⟩
theorem zok83 : zokC zm83.1 zm83.2.1 0 zc83 = true := by decide +kernel
theorem zoy83 : zokY zm83 = true := by decide +kernel
set_option maxRecDepth 20000 in
theorem zow83 : Cond.code zm83.1 zm83.2.1 zm83.2.2.1 zm83.2.2.2.1 ∈ zTw := List.mem_filter.mpr ⟨List.mem_of_getElem? (i := 731) rfl, rfl⟩
theorem zok84 : zokC zm84.1 zm84.2.1 0 zc84 = true := by decide +kernel
theorem zoy84 : zokY zm84 = true := by decide +kernel
set_option maxRecDepth 20000 in
theorem zow84 : Cond.code zm84.1 zm84.2.1 zm84.2.2.1 zm84.2.2.2.1 ∈ zTw := List.mem_filter.mpr ⟨List.mem_of_getElem? (i := 768) rfl, rfl⟩
theorem zok85 : zokC zm85.1 zm85.2.1 0 zc85 = true := by decide +kernel
theorem zoy85 : zokY zm85 = true := by decide +kernel
set_option maxRecDepth 20000 in
theorem zow85 : Cond.code zm85.1 zm85.2.1 zm85.2.2.1 zm85.2.2.2.1 ∈ zTw := List.mem_filter.mpr ⟨List.mem_of_getElem? (i := 794) rfl, rfl⟩
theorem zok86 : zokC zm86.1 zm86.2.1 0 zc86 = true := by decide +kernel
theorem zoy86 : zokY zm86 = true := by decide +kernel
set_option maxRecDepth 20000 in
theorem zow86 : Cond.code zm86.1 zm86.2.1 zm86.2.2.1 zm86.2.2.2.1 ∈ zTw := List.mem_filter.mpr ⟨List.mem_of_getElem? (i := 790) rfl, rfl⟩
theorem zok96 : zokC zm96.1 zm96.2.1 0 zc96 = true := by decide +kernel
theorem zoy96 : zokY zm96 = true := by decide +kernel
set_option maxRecDepth 20000 in
theorem zow96 : Cond.code zm96.1 zm96.2.1 zm96.2.2.1 zm96.2.2.2.1 ∈ zTw := List.mem_filter.mpr ⟨List.mem_of_getElem? (i := 1158) rfl, rfl⟩
theorem zok110 : zokC zm110.1 zm110.2.1 0 zc110 = true := by decide +kernel
theorem zoy110 : zokY zm110 = true := by decide +kernel
set_option maxRecDepth 20000 in
theorem zow110 : Cond.code zm110.1 zm110.2.1 zm110.2.2.1 zm110.2.2.2.1 ∈ zTw := List.mem_filter.mpr ⟨List.mem_of_getElem? (i := 1109) rfl, rfl⟩
theorem zok115 : zokC zm115.1 zm115.2.1 0 zc115 = true := by decide +kernel
theorem zoy115 : zokY zm115 = true := by decide +kernel
set_option maxRecDepth 20000 in
theorem zow115 : Cond.code zm115.1 zm115.2.1 zm115.2.2.1 zm115.2.2.2.1 ∈ zTw := List.mem_filter.mpr ⟨List.mem_of_getElem? (i := 181) rfl, rfl⟩
theorem zok116 : zokC zm116.1 zm116.2.1 0 zc116 = true := by decide +kernel
theorem zoy116 : zokY zm116 = true := by decide +kernel
set_option maxRecDepth 20000 in
theorem zow116 : Cond.code zm116.1 zm116.2.1 zm116.2.2.1 zm116.2.2.2.1 ∈ zTw := List.mem_filter.mpr ⟨List.mem_of_getElem? (i := 439) rfl, rfl⟩
theorem zok117 : zokC zm117.1 zm117.2.1 0 zc117 = true := by decide +kernel
theorem zoy117 : zokY zm117 = true := by decide +kernel
set_option maxRecDepth 20000 in
theorem zow117 : Cond.code zm117.1 zm117.2.1 zm117.2.2.1 zm117.2.2.2.1 ∈ zTw := List.mem_filter.mpr ⟨List.mem_of_getElem? (i := 443) rfl, rfl⟩
theorem zok121 : zokC zm121.1 zm121.2.1 0 zc121 = true := by decide +kernel
theorem zoy121 : zokY zm121 = true := by decide +kernel
set_option maxRecDepth 20000 in
theorem zow121 : Cond.code zm121.1 zm121.2.1 zm121.2.2.1 zm121.2.2.2.1 ∈ zTw := List.mem_filter.mpr ⟨List.mem_of_getElem? (i := 146) rfl, rfl⟩
theorem zok122 : zokC zm122.1 zm122.2.1 0 zc122 = true := by decide +kernel
theorem zoy122 : zokY zm122 = true := by decide +kernel
set_option maxRecDepth 20000 in
theorem zow122 : Cond.code zm122.1 zm122.2.1 zm122.2.2.1 zm122.2.2.2.1 ∈ zTw := List.mem_filter.mpr ⟨List.mem_of_getElem? (i := 412) rfl, rfl⟩
theorem zok123 : zokC zm123.1 zm123.2.1 0 zc123 = true := by decide +kernel
theorem zoy123 : zokY zm123 = true := by decide +kernel
set_option maxRecDepth 20000 in
theorem zow123 : Cond.code zm123.1 zm123.2.1 zm123.2.2.1 zm123.2.2.2.1 ∈ zTw := List.mem_filter.mpr ⟨List.mem_of_getElem? (i := 416) rfl, rfl⟩
theorem zok124 : zokC zm124.1 zm124.2.1 0 zc124 = true := by decide +kernel
theorem zoy124 : zokY zm124 = true := by decide +kernel
set_option maxRecDepth 20000 in
theorem zow124 : Cond.code zm124.1 zm124.2.1 zm124.2.2.1 zm124.2.2.2.1 ∈ zTw := List.mem_filter.mpr ⟨List.mem_of_getElem? (i := 420) rfl, rfl⟩
