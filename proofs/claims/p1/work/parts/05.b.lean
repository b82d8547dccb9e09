theorem zok125 : zokC zm125.1 zm125.2.1 0 zc125 = true := by decide +kernel
theorem zoy125 : zokY zm125 = true := by decide +kernel
set_option maxRecDepth 20000 in
theorem zow125 : Cond.code zm125.1 zm125.2.1 zm125.2.2.1 zm125.2.2.2.1 ∈ zTw := List.mem_filter.mpr ⟨List.mem_of_getElem? (i := 424) rfl, rfl⟩
theorem zok126 : zokC zm126.1 zm126.2.1 0 zc126 = true := by decide +kernel
theorem zoy126 : zokY zm126 = true := by decide +kernel
set_option maxRecDepth 20000 in
theorem zow126 : Cond.code zm126.1 zm126.2.1 zm126.2.2.1 zm126.2.2.2.1 ∈ zTw := List.mem_filter.mpr ⟨List.mem_of_getElem? (i := 612) rfl, rfl⟩
theorem zok127 : zokC zm127.1 zm127.2.1 0 zc127 = true := by decide +kernel
theorem zoy127 : zokY zm127 = true := by decide +kernel
set_option maxRecDepth 20000 in
theorem zow127 : Cond.code zm127.1 zm127.2.1 zm127.2.2.1 zm127.2.2.2.1 ∈ zTw := List.mem_filter.mpr ⟨List.mem_of_getElem? (i := 428) rfl, rfl⟩
theorem zok128 : zokC zm128.1 zm128.2.1 0 zc128 = true := by decide +kernel
theorem zoy128 : zokY zm128 = true := by decide +kernel
set_option maxRecDepth 20000 in
theorem zow128 : Cond.code zm128.1 zm128.2.1 zm128.2.2.1 zm128.2.2.2.1 ∈ zTw := List.mem_filter.mpr ⟨List.mem_of_getElem? (i := 727) rfl, rfl⟩
theorem zok129 : zokC zm129.1 zm129.2.1 0 zc129 = true := by decide +kernel
theorem zoy129 : zokY zm129 = true := by decide +kernel
set_option maxRecDepth 20000 in
theorem zow129 : Cond.code zm129.1 zm129.2.1 zm129.2.2.1 zm129.2.2.2.1 ∈ zTw := List.mem_filter.mpr ⟨List.mem_of_getElem? (i := 764) rfl, rfl⟩
theorem zok130 : zokC zm130.1 zm130.2.1 0 zc130 = true := by decide +kernel
theorem zoy130 : zokY zm130 = true := by decide +kernel
set_option maxRecDepth 20000 in
theorem zow130 : Cond.code zm130.1 zm130.2.1 zm130.2.2.1 zm130.2.2.2.1 ∈ zTw := List.mem_filter.mpr ⟨List.mem_of_getElem? (i := 786) rfl, rfl⟩
theorem zok131 : zokC zm131.1 zm131.2.1 0 zc131 = true := by decide +kernel
theorem zoy131 : zokY zm131 = true := by decide +kernel
set_option maxRecDepth 20000 in
theorem zow131 : Cond.code zm131.1 zm131.2.1 zm131.2.2.1 zm131.2.2.2.1 ∈ zTw := List.mem_filter.mpr ⟨List.mem_of_getElem? (i := 811) rfl, rfl⟩
theorem zok132 : zokC zm132.1 zm132.2.1 0 zc132 = true := by decide +kernel
theorem zoy132 : zokY zm132 = true := by decide +kernel
set_option maxRecDepth 20000 in
theorem zow132 : Cond.code zm132.1 zm132.2.1 zm132.2.2.1 zm132.2.2.2.1 ∈ zTw := List.mem_filter.mpr ⟨List.mem_of_getElem? (i := 837) rfl, rfl⟩
theorem zok133 : zokC zm133.1 zm133.2.1 0 zc133 = true := by decide +kernel
theorem zoy133 : zokY zm133 = true := by decide +kernel
set_option maxRecDepth 20000 in
theorem zow133 : Cond.code zm133.1 zm133.2.1 zm133.2.2.1 zm133.2.2.2.1 ∈ zTw := List.mem_filter.mpr ⟨List.mem_of_getElem? (i := 850) rfl, rfl⟩
theorem zok134 : zokC zm134.1 zm134.2.1 0 zc134 = true := by decide +kernel
theorem zoy134 : zokY zm134 = true := by decide +kernel
set_option maxRecDepth 20000 in
theorem zow134 : Cond.code zm134.1 zm134.2.1 zm134.2.2.1 zm134.2.2.2.1 ∈ zTw := List.mem_filter.mpr ⟨List.mem_of_getElem? (i := 862) rfl, rfl⟩
theorem zok135 : zokC zm135.1 zm135.2.1 0 zc135 = true := by decide +kernel
theorem zoy135 : zokY zm135 = true := by decide +kernel
set_option maxRecDepth 20000 in
theorem zow135 : Cond.code zm135.1 zm135.2.1 zm135.2.2.1 zm135.2.2.2.1 ∈ zTw := List.mem_filter.mpr ⟨List.mem_of_getElem? (i := 874) rfl, rfl⟩
theorem zok136 : zokC zm136.1 zm136.2.1 0 zc136 = true := by decide +kernel
theorem zoy136 : zokY zm136 = true := by decide +kernel
set_option maxRecDepth 20000 in
theorem zow136 : Cond.code zm136.1 zm136.2.1 zm136.2.2.1 zm136.2.2.2.1 ∈ zTw := List.mem_filter.mpr ⟨List.mem_of_getElem? (i := 893) rfl, rfl⟩
theorem zok137 : zokC zm137.1 zm137.2.1 0 zc137 = true := by decide +kernel
theorem zoy137 : zokY zm137 = true := by decide +kernel
set_option maxRecDepth 20000 in
theorem zow137 : Cond.code zm137.1 zm137.2.1 zm137.2.2.1 zm137.2.2.2.1 ∈ zTw := List.mem_filter.mpr ⟨List.mem_of_getElem? (i := 898) rfl, rfl⟩
theorem zok138 : zokC zm138.1 zm138.2.1 0 zc138 = true := by decide +kernel
theorem zoy138 : zokY zm138 = true := by decide +kernel
set_option maxRecDepth 20000 in
theorem zow138 : Cond.code zm138.1 zm138.2.1 zm138.2.2.1 zm138.2.2.2.1 ∈ zTw := List.mem_filter.mpr ⟨List.mem_of_getElem? (i := 915) rfl, rfl⟩
theorem zok139 : zokC zm139.1 zm139.2.1 0 zc139 = true := by decide +kernel
theorem zoy139 : zokY zm139 = true := by decide +kernel
set_option maxRecDepth 20000 in
theorem zow139 : Cond.code zm139.1 zm139.2.1 zm139.2.2.1 zm139.2.2.2.1 ∈ zTw := List.mem_filter.mpr ⟨List.mem_of_getElem? (i := 931) rfl, rfl⟩
theorem zok141 : zokC zm141.1 zm141.2.1 0 zc141 = true := by decide +kernel
theorem zoy141 : zokY zm141 = true := by decide +kernel
set_option maxRecDepth 20000 in
theorem zow141 : Cond.code zm141.1 zm141.2.1 zm141.2.2.1 zm141.2.2.2.1 ∈ zTw := List.mem_filter.mpr ⟨List.mem_of_getElem? (i := 979) rfl, rfl⟩
theorem zok142 : zokC zm142.1 zm142.2.1 0 zc142 = true := by decide +kernel
theorem zoy142 : zokY zm142 = true := by decide +kernel
set_option maxRecDepth 20000 in
theorem zow142 : Cond.code zm142.1 zm142.2.1 zm142.2.2.1 zm142.2.2.2.1 ∈ zTw := List.mem_filter.mpr ⟨List.mem_of_getElem? (i := 1025) rfl, rfl⟩
theorem zok143 : zokC zm143.1 zm143.2.1 0 zc143 = true := by decide +kernel
theorem zoy143 : zokY zm143 = true := by decide +kernel
set_option maxRecDepth 20000 in
theorem zow143 : Cond.code zm143.1 zm143.2.1 zm143.2.2.1 zm143.2.2.2.1 ∈ zTw := List.mem_filter.mpr ⟨List.mem_of_getElem? (i := 1064) rfl, rfl⟩
theorem zok144 : zokC zm144.1 zm144.2.1 0 zc144 = true := by decide +kernel
theorem zoy144 : zokY zm144 = true := by decide +kernel
set_option maxRecDepth 20000 in
theorem zow144 : Cond.code zm144.1 zm144.2.1 zm144.2.2.1 zm144.2.2.2.1 ∈ zTw := List.mem_filter.mpr ⟨List.mem_of_getElem? (i := 1068) rfl, rfl⟩
theorem zok145 : zokC zm145.1 zm145.2.1 0 zc145 = true := by decide +kernel
theorem zoy145 : zokY zm145 = true := by decide +kernel
set_option maxRecDepth 20000 in
theorem zow145 : Cond.code zm145.1 zm145.2.1 zm145.2.2.1 zm145.2.2.2.1 ∈ zTw := List.mem_filter.mpr ⟨List.mem_of_getElem? (i := 1073) rfl, rfl⟩
theorem zok146 : zokC zm146.1 zm146.2.1 0 zc146 = true := by decide +kernel
theorem zoy146 : zokY zm146 = true := by decide +kernel
set_option maxRecDepth 20000 in
theorem zow146 : Cond.code zm146.1 zm146.2.1 zm146.2.2.1 zm146.2.2.2.1 ∈ zTw := List.mem_filter.mpr ⟨List.mem_of_getElem? (i := 1077) rfl, rfl⟩
theorem zok147 : zokC zm147.1 zm147.2.1 0 zc147 = true := by decide +kernel
theorem zoy147 : zokY zm147 = true := by decide +kernel
set_option maxRecDepth 20000 in
theorem zow147 : Cond.code zm147.1 zm147.2.1 zm147.2.2.1 zm147.2.2.2.1 ∈ zTw := List.mem_filter.mpr ⟨List.mem_of_getElem? (i := 1085) rfl, rfl⟩
theorem zok148 : zokC zm148.1 zm148.2.1 0 zc148 = true := by decide +kernel
theorem zoy148 : zokY zm148 = true := by decide +kernel
set_option maxRecDepth 20000 in
theorem zow148 : Cond.code zm148.1 zm148.2.1 zm148.2.2.1 zm148.2.2.2.1 ∈ zTw := List.mem_filter.mpr ⟨List.mem_of_getElem? (i := 1093) rfl, rfl⟩
theorem zok149 : zokC zm149.1 zm149.2.1 0 zc149 = true := by decide +kernel
theorem zoy149 : zokY zm149 = true := by decide +kernel
set_option maxRecDepth 20000 in
theorem zow149 : Cond.code zm149.1 zm149.2.1 zm149.2.2.1 zm149.2.2.2.1 ∈ zTw := List.mem_filter.mpr ⟨List.mem_of_getElem? (i := 1101) rfl, rfl⟩
theorem zok150 : zokC zm150.1 zm150.2.1 0 zc150 = true := by decide +kernel
theorem zoy150 : zokY zm150 = true := by decide +kernel
set_option maxRecDepth 20000 in
theorem zow150 : Cond.code zm150.1 zm150.2.1 zm150.2.2.1 zm150.2.2.2.1 ∈ zTw := List.mem_filter.mpr ⟨List.mem_of_getElem? (i := 1113) rfl, rfl⟩
theorem zok152 : zokC zm152.1 zm152.2.1 0 zc152 = true := by decide +kernel
theorem zoy152 : zokY zm152 = true := by decide +kernel
set_option maxRecDepth 20000 in
theorem zow152 : Cond.code zm152.1 zm152.2.1 zm152.2.2.1 zm152.2.2.2.1 ∈ zTw := List.mem_filter.mpr ⟨List.mem_of_getElem? (i := 1127) rfl, rfl⟩
theorem zok153 : zokC zm153.1 zm153.2.1 0 zc153 = true := by decide +kernel
theorem zoy153 : zokY zm153 = true := by decide +kernel
set_option maxRecDepth 20000 in
theorem zow153 : Cond.code zm153.1 zm153.2.1 zm153.2.2.1 zm153.2.2.2.1 ∈ zTw := List.mem_filter.mpr ⟨List.mem_of_getElem? (i := 1131) rfl, rfl⟩
theorem zok154 : zokC zm154.1 zm154.2.1 0 zc154 = true := by decide +kernel
theorem zoy154 : zokY zm154 = true := by decide +kernel
set_option maxRecDepth 20000 in
theorem zow154 : Cond.code zm154.1 zm154.2.1 zm154.2.2.1 zm154.2.2.2.1 ∈ zTw := List.mem_filter.mpr ⟨List.mem_of_getElem? (i := 1152) rfl, rfl⟩
theorem zok155 : zokC zm155.1 zm155.2.1 0 zc155 = true := by decide +kernel
theorem zoy155 : zokY zm155 = true := by decide +kernel
set_option maxRecDepth 20000 in
theorem zow155 : Cond.code zm155.1 zm155.2.1 zm155.2.2.1 zm155.2.2.2.1 ∈ zTw := List.mem_filter.mpr ⟨List.mem_of_getElem? (i := 1162) rfl, rfl⟩
theorem zok156 : zokC zm156.1 zm156.2.1 0 zc156 = true := by decide +kernel
theorem zoy156 : zokY zm156 = true := by decide +kernel
set_option maxRecDepth 20000 in
theorem zow156 : Cond.code zm156.1 zm156.2.1 zm156.2.2.1 zm156.2.2.2.1 ∈ zTw := List.mem_filter.mpr ⟨List.mem_of_getElem? (i := 1167) rfl, rfl⟩
theorem zok157 : zokC zm157.1 zm157.2.1 0 zc157 = true := by decide +kernel
theorem zoy157 : zokY zm157 = true := by decide +kernel
set_option maxRecDepth 20000 in
theorem zow157 : Cond.code zm157.1 zm157.2.1 zm157.2.2.1 zm157.2.2.2.1 ∈ zTw := List.mem_filter.mpr ⟨List.mem_of_getElem? (i := 1173) rfl, rfl⟩
theorem zok158 : zokC zm158.1 zm158.2.1 0 zc158 = true := by decide +kernel
theorem zoy158 : zokY zm158 = true := by decide +kernel
set_option maxRecDepth 20000 in
theorem zow158 : Cond.code zm158.1 zm158.2.1 zm158.2.2.1 zm158.2.2.2.1 ∈ zTw := List.mem_filter.mpr ⟨List.mem_of_getElem? (i := 1365) rfl, rfl⟩
theorem zok160 : zokC zm160.1 zm160.2.1 0 zc160 = true := by decide +kernel
theorem zoy160 : zokY zm160 = true := by decide +kernel
set_option maxRecDepth 20000 in
theorem zow160 : Cond.code zm160.1 zm160.2.1 zm160.2.2.1 zm160.2.2.2.1 ∈ zTw := List.mem_filter.mpr ⟨List.mem_of_getElem? (i := 1300) rfl, rfl⟩
theorem zok161 : zokC zm161.1 zm161.2.1 0 zc161 = true := by decide +kernel
theorem zoy161 : zokY zm161 = true := by decide +kernel
set_option maxRecDepth 20000 in
theorem zow161 : Cond.code zm161.1 zm161.2.1 zm161.2.2.1 zm161.2.2.2.1 ∈ zTw := List.mem_filter.mpr ⟨List.mem_of_getElem? (i := 1296) rfl, rfl⟩
theorem zok162 : zokC zm162.1 zm162.2.1 0 zc162 = true := by decide +kernel
theorem zoy162 : zokY zm162 = true := by decide +kernel
set_option maxRecDepth 20000 in
theorem zow162 : Cond.code zm162.1 zm162.2.1 zm162.2.2.1 zm162.2.2.2.1 ∈ zTw := List.mem_filter.mpr ⟨List.mem_of_getElem? (i := 1304) rfl, rfl⟩
theorem zok163 : zokC zm163.1 zm163.2.1 0 zc163 = true := by decide +kernel
theorem zoy163 : zokY zm163 = true := by decide +kernel
set_option maxRecDepth 20000 in
theorem zow163 : Cond.code zm163.1 zm163.2.1 zm163.2.2.1 zm163.2.2.2.1 ∈ zTw := List.mem_filter.mpr ⟨List.mem_of_getElem? (i := 1342) rfl, rfl⟩
theorem zok164 : zokC zm164.1 zm164.2.1 0 zc164 = true := by decide +kernel
theorem zoy164 : zokY zm164 = true := by decide +kernel
set_option maxRecDepth 20000 in
theorem zow164 : Cond.code zm164.1 zm164.2.1 zm164.2.2.1 zm164.2.2.2.1 ∈ zTw := List.mem_filter.mpr ⟨List.mem_of_getElem? (i := 1320) rfl, rfl⟩
theorem zok166 : zokC zm166.1 zm166.2.1 0 zc166 = true := by decide +kernel
theorem zoy166 : zokY zm166 = true := by decide +kernel
set_option maxRecDepth 20000 in
theorem zow166 : Cond.code zm166.1 zm166.2.1 zm166.2.2.1 zm166.2.2.2.1 ∈ zTw := List.mem_filter.mpr ⟨List.mem_of_getElem? (i := 1333) rfl, rfl⟩
theorem zok167 : zokC zm167.1 zm167.2.1 0 zc167 = true := by decide +kernel
theorem zoy167 : zokY zm167 = true := by decide +kernel
set_option maxRecDepth 20000 in
theorem zow167 : Cond.code zm167.1 zm167.2.1 zm167.2.2.1 zm167.2.2.2.1 ∈ zTw := List.mem_filter.mpr ⟨List.mem_of_getElem? (i := 1329) rfl, rfl⟩
theorem zok194 : zokC zm194.1 zm194.2.1 0 zc194 = true := by decide +kernel
theorem zoy194 : zokY zm194 = true := by decide +kernel
set_option maxRecDepth 20000 in
theorem zow194 : Cond.code zm194.1 zm194.2.1 zm194.2.2.1 zm194.2.2.2.1 ∈ zTw := List.mem_filter.mpr ⟨List.mem_of_getElem? (i := 1324) rfl, rfl⟩
theorem zok195 : zokC zm195.1 zm195.2.1 0 zc195 = true := by decide +kernel
theorem zoy195 : zokY zm195 = true := by decide +kernel
set_option maxRecDepth 20000 in
theorem zow195 : Cond.code zm195.1 zm195.2.1 zm195.2.2.1 zm195.2.2.2.1 ∈ zTw := List.mem_filter.mpr ⟨List.mem_of_getElem? (i := 1316) rfl, rfl⟩
