theorem zok196 : zokC zm196.1 zm196.2.1 0 zc196 = true := by decide +kernel
theorem zoy196 : zokY zm196 = true := by decide +kernel
set_option maxRecDepth 20000 in
theorem zow196 : Cond.code zm196.1 zm196.2.1 zm196.2.2.1 zm196.2.2.2.1 ∈ zTw := List.mem_filter.mpr ⟨List.mem_of_getElem? (i := 1312) rfl, rfl⟩
theorem zok197 : zokC zm197.1 zm197.2.1 0 zc197 = true := by decide +kernel
theorem zoy197 : zokY zm197 = true := by decide +kernel
set_option maxRecDepth 20000 in
theorem zow197 : Cond.code zm197.1 zm197.2.1 zm197.2.2.1 zm197.2.2.2.1 ∈ zTw := List.mem_filter.mpr ⟨List.mem_of_getElem? (i := 1308) rfl, rfl⟩
theorem zok198 : zokC zm198.1 zm198.2.1 0 zc198 = true := by decide +kernel
theorem zoy198 : zokY zm198 = true := by decide +kernel
set_option maxRecDepth 20000 in
theorem zow198 : Cond.code zm198.1 zm198.2.1 zm198.2.2.1 zm198.2.2.2.1 ∈ zTw := List.mem_filter.mpr ⟨List.mem_of_getElem? (i := 1473) rfl, rfl⟩
theorem zok204 : zokC zm204.1 zm204.2.1 0 zc204 = true := by decide +kernel
theorem zoy204 : zokY zm204 = true := by decide +kernel
set_option maxRecDepth 20000 in
theorem zow204 : Cond.code zm204.1 zm204.2.1 zm204.2.2.1 zm204.2.2.2.1 ∈ zTw := List.mem_filter.mpr ⟨List.mem_of_getElem? (i := 1595) rfl, rfl⟩
theorem zok205 : zokC zm205.1 zm205.2.1 0 zc205 = true := by decide +kernel
theorem zoy205 : zokY zm205 = true := by decide +kernel
set_option maxRecDepth 20000 in
theorem zow205 : Cond.code zm205.1 zm205.2.1 zm205.2.2.1 zm205.2.2.2.1 ∈ zTw := List.mem_filter.mpr ⟨List.mem_of_getElem? (i := 1527) rfl, rfl⟩
theorem zok206 : zokC zm206.1 zm206.2.1 0 zc206 = true := by decide +kernel
theorem zoy206 : zokY zm206 = true := by decide +kernel
set_option maxRecDepth 20000 in
theorem zow206 : Cond.code zm206.1 zm206.2.1 zm206.2.2.1 zm206.2.2.2.1 ∈ zTw := List.mem_filter.mpr ⟨List.mem_of_getElem? (i := 1481) rfl, rfl⟩
theorem zok207 : zokC zm207.1 zm207.2.1 0 zc207 = true := by decide +kernel
theorem zoy207 : zokY zm207 = true := by decide +kernel
set_option maxRecDepth 20000 in
theorem zow207 : Cond.code zm207.1 zm207.2.1 zm207.2.2.1 zm207.2.2.2.1 ∈ zTw := List.mem_filter.mpr ⟨List.mem_of_getElem? (i := 1506) rfl, rfl⟩
theorem zok217 : zokC zm217.1 zm217.2.1 0 zc217 = true := by decide +kernel
theorem zoy217 : zokY zm217 = true := by decide +kernel
set_option maxRecDepth 20000 in
theorem zow217 : Cond.code zm217.1 zm217.2.1 zm217.2.2.1 zm217.2.2.2.1 ∈ zTw := List.mem_filter.mpr ⟨List.mem_of_getElem? (i := 1477) rfl, rfl⟩
theorem zok218 : zokC zm218.1 zm218.2.1 0 zc218 = true := by decide +kernel
theorem zoy218 : zokY zm218 = true := by decide +kernel
set_option maxRecDepth 20000 in
theorem zow218 : Cond.code zm218.1 zm218.2.1 zm218.2.2.1 zm218.2.2.2.1 ∈ zTw := List.mem_filter.mpr ⟨List.mem_of_getElem? (i := 1502) rfl, rfl⟩
theorem zok219 : zokC zm219.1 zm219.2.1 0 zc219 = true := by decide +kernel
theorem zoy219 : zokY zm219 = true := by decide +kernel
set_option maxRecDepth 20000 in
theorem zow219 : Cond.code zm219.1 zm219.2.1 zm219.2.2.1 zm219.2.2.2.1 ∈ zTw := List.mem_filter.mpr ⟨List.mem_of_getElem? (i := 1523) rfl, rfl⟩
theorem zok221 : zokC zm221.1 zm221.2.1 0 zc221 = true := by decide +kernel
theorem zoy221 : zokY zm221 = true := by decide +kernel
set_option maxRecDepth 20000 in
theorem zow221 : Cond.code zm221.1 zm221.2.1 zm221.2.2.1 zm221.2.2.2.1 ∈ zTw := List.mem_filter.mpr ⟨List.mem_of_getElem? (i := 1539) rfl, rfl⟩
theorem zok226 : zokC zm226.1 zm226.2.1 0 zc226 = true := by decide +kernel
theorem zoy226 : zokY zm226 = true := by decide +kernel
set_option maxRecDepth 20000 in
theorem zow226 : Cond.code zm226.1 zm226.2.1 zm226.2.2.1 zm226.2.2.2.1 ∈ zTw := List.mem_filter.mpr ⟨List.mem_of_getElem? (i := 1543) rfl, rfl⟩
theorem zok227 : zokC zm227.1 zm227.2.1 0 zc227 = true := by decide +kernel
theorem zoy227 : zokY zm227 = true := by decide +kernel
set_option maxRecDepth 20000 in
theorem zow227 : Cond.code zm227.1 zm227.2.1 zm227.2.2.1 zm227.2.2.2.1 ∈ zTw := List.mem_filter.mpr ⟨List.mem_of_getElem? (i := 1559) rfl, rfl⟩
theorem zok228 : zokC zm228.1 zm228.2.1 0 zc228 = true := by decide +kernel
theorem zoy228 : zokY zm228 = true := by decide +kernel
set_option maxRecDepth 20000 in
theorem zow228 : Cond.code zm228.1 zm228.2.1 zm228.2.2.1 zm228.2.2.2.1 ∈ zTw := List.mem_filter.mpr ⟨List.mem_of_getElem? (i := 1567) rfl, rfl⟩
theorem zok230 : zokC zm230.1 zm230.2.1 0 zc230 = true := by decide +kernel
theorem zoy230 : zokY zm230 = true := by decide +kernel
set_option maxRecDepth 20000 in
theorem zow230 : Cond.code zm230.1 zm230.2.1 zm230.2.2.1 zm230.2.2.2.1 ∈ zTw := List.mem_filter.mpr ⟨List.mem_of_getElem? (i := 1575) rfl, rfl⟩
theorem zok232 : zokC zm232.1 zm232.2.1 0 zc232 = true := by decide +kernel
theorem zoy232 : zokY zm232 = true := by decide +kernel
set_option maxRecDepth 20000 in
theorem zow232 : Cond.code zm232.1 zm232.2.1 zm232.2.2.1 zm232.2.2.2.1 ∈ zTw := List.mem_filter.mpr ⟨List.mem_of_getElem? (i := 1583) rfl, rfl⟩
theorem zok234 : zokC zm234.1 zm234.2.1 0 zc234 = true := by decide +kernel
theorem zoy234 : zokY zm234 = true := by decide +kernel
set_option maxRecDepth 20000 in
theorem zow234 : Cond.code zm234.1 zm234.2.1 zm234.2.2.1 zm234.2.2.2.1 ∈ zTw := List.mem_filter.mpr ⟨List.mem_of_getElem? (i := 1591) rfl, rfl⟩
theorem zok242 : zokC zm242.1 zm242.2.1 0 zc242 = true := by decide +kernel
theorem zoy242 : zokY zm242 = true := by decide +kernel
set_option maxRecDepth 20000 in
theorem zow242 : Cond.code zm242.1 zm242.2.1 zm242.2.2.1 zm242.2.2.2.1 ∈ zTw := List.mem_filter.mpr ⟨List.mem_of_getElem? (i := 1603) rfl, rfl⟩
theorem zok248 : zokC zm248.1 zm248.2.1 0 zc248 = true := by decide +kernel
theorem zoy248 : zokY zm248 = true := by decide +kernel
set_option maxRecDepth 20000 in
theorem zow248 : Cond.code zm248.1 zm248.2.1 zm248.2.2.1 zm248.2.2.2.1 ∈ zTw := List.mem_filter.mpr ⟨List.mem_of_getElem? (i := 1629) rfl, rfl⟩
theorem zok252 : zokC zm252.1 zm252.2.1 0 zc252 = true := by decide +kernel
theorem zoy252 : zokY zm252 = true := by decide +kernel
set_option maxRecDepth 20000 in
theorem zow252 : Cond.code zm252.1 zm252.2.1 zm252.2.2.1 zm252.2.2.2.1 ∈ zTw := List.mem_filter.mpr ⟨List.mem_of_getElem? (i := 1673) rfl, rfl⟩
theorem zok257 : zokC zm257.1 zm257.2.1 0 zc257 = true := by decide +kernel
theorem zoy257 : zokY zm257 = true := by decide +kernel
set_option maxRecDepth 20000 in
theorem zow257 : Cond.code zm257.1 zm257.2.1 zm257.2.2.1 zm257.2.2.2.1 ∈ zTw := List.mem_filter.mpr ⟨List.mem_of_getElem? (i := 1698) rfl, rfl⟩
theorem zok258 : zokC zm258.1 zm258.2.1 0 zc258 = true := by decide +kernel
theorem zoy258 : zokY zm258 = true := by decide +kernel
set_option maxRecDepth 20000 in
theorem zow258 : Cond.code zm258.1 zm258.2.1 zm258.2.2.1 zm258.2.2.2.1 ∈ zTw := List.mem_filter.mpr ⟨List.mem_of_getElem? (i := 1718) rfl, rfl⟩
theorem zok261 : zokC zm261.1 zm261.2.1 0 zc261 = true := by decide +kernel
theorem zoy261 : zokY zm261 = true := by decide +kernel
set_option maxRecDepth 20000 in
theorem zow261 : Cond.code zm261.1 zm261.2.1 zm261.2.2.1 zm261.2.2.2.1 ∈ zTw := List.mem_filter.mpr ⟨List.mem_of_getElem? (i := 1722) rfl, rfl⟩
theorem zok262 : zokC zm262.1 zm262.2.1 0 zc262 = true := by decide +kernel
theorem zoy262 : zokY zm262 = true := by decide +kernel
set_option maxRecDepth 20000 in
theorem zow262 : Cond.code zm262.1 zm262.2.1 zm262.2.2.1 zm262.2.2.2.1 ∈ zTw := List.mem_filter.mpr ⟨List.mem_of_getElem? (i := 1734) rfl, rfl⟩
theorem zok264 : zokC zm264.1 zm264.2.1 0 zc264 = true := by decide +kernel
theorem zoy264 : zokY zm264 = true := by decide +kernel
set_option maxRecDepth 20000 in
theorem zow264 : Cond.code zm264.1 zm264.2.1 zm264.2.2.1 zm264.2.2.2.1 ∈ zTw := List.mem_filter.mpr ⟨List.mem_of_getElem? (i := 1739) rfl, rfl⟩
theorem zok265 : zokC zm265.1 zm265.2.1 0 zc265 = true := by decide +kernel
theorem zoy265 : zokY zm265 = true := by decide +kernel
set_option maxRecDepth 20000 in
theorem zow265 : Cond.code zm265.1 zm265.2.1 zm265.2.2.1 zm265.2.2.2.1 ∈ zTw := List.mem_filter.mpr ⟨List.mem_of_getElem? (i := 1747) rfl, rfl⟩
theorem zok267 : zokC zm267.1 zm267.2.1 0 zc267 = true := by decide +kernel
theorem zoy267 : zokY zm267 = true := by decide +kernel
set_option maxRecDepth 20000 in
theorem zow267 : Cond.code zm267.1 zm267.2.1 zm267.2.2.1 zm267.2.2.2.1 ∈ zTw := List.mem_filter.mpr ⟨List.mem_of_getElem? (i := 1751) rfl, rfl⟩
theorem zok269 : zokC zm269.1 zm269.2.1 0 zc269 = true := by decide +kernel
theorem zoy269 : zokY zm269 = true := by decide +kernel
set_option maxRecDepth 20000 in
theorem zow269 : Cond.code zm269.1 zm269.2.1 zm269.2.2.1 zm269.2.2.2.1 ∈ zTw := List.mem_filter.mpr ⟨List.mem_of_getElem? (i := 1759) rfl, rfl⟩
theorem zok272 : zokC zm272.1 zm272.2.1 0 zc272 = true := by decide +kernel
theorem zoy272 : zokY zm272 = true := by decide +kernel
set_option maxRecDepth 20000 in
theorem zow272 : Cond.code zm272.1 zm272.2.1 zm272.2.2.1 zm272.2.2.2.1 ∈ zTw := List.mem_filter.mpr ⟨List.mem_of_getElem? (i := 1767) rfl, rfl⟩
theorem zok273 : zokC zm273.1 zm273.2.1 0 zc273 = true := by decide +kernel
theorem zoy273 : zokY zm273 = true := by decide +kernel
set_option maxRecDepth 20000 in
theorem zow273 : Cond.code zm273.1 zm273.2.1 zm273.2.2.1 zm273.2.2.2.1 ∈ zTw := List.mem_filter.mpr ⟨List.mem_of_getElem? (i := 1780) rfl, rfl⟩
theorem zok276 : zokC zm276.1 zm276.2.1 0 zc276 = true := by decide +kernel
theorem zoy276 : zokY zm276 = true := by decide +kernel
set_option maxRecDepth 20000 in
theorem zow276 : Cond.code zm276.1 zm276.2.1 zm276.2.2.1 zm276.2.2.2.1 ∈ zTw := List.mem_filter.mpr ⟨List.mem_of_getElem? (i := 1784) rfl, rfl⟩
theorem zok277 : zokC zm277.1 zm277.2.1 0 zc277 = true := by decide +kernel
theorem zoy277 : zokY zm277 = true := by decide +kernel
set_option maxRecDepth 20000 in
theorem zow277 : Cond.code zm277.1 zm277.2.1 zm277.2.2.1 zm277.2.2.2.1 ∈ zTw := List.mem_filter.mpr ⟨List.mem_of_getElem? (i := 1801) rfl, rfl⟩
theorem zok278 : zokC zm278.1 zm278.2.1 0 zc278 = true := by decide +kernel
theorem zoy278 : zokY zm278 = true := by decide +kernel
set_option maxRecDepth 20000 in
theorem zow278 : Cond.code zm278.1 zm278.2.1 zm278.2.2.1 zm278.2.2.2.1 ∈ zTw := List.mem_filter.mpr ⟨List.mem_of_getElem? (i := 1805) rfl, rfl⟩
theorem zok279 : zokC zm279.1 zm279.2.1 0 zc279 = true := by decide +kernel
theorem zoy279 : zokY zm279 = true := by decide +kernel
set_option maxRecDepth 20000 in
theorem zow279 : Cond.code zm279.1 zm279.2.1 zm279.2.2.1 zm279.2.2.2.1 ∈ zTw := List.mem_filter.mpr ⟨List.mem_of_getElem? (i := 1810) rfl, rfl⟩
theorem zok281 : zokC zm281.1 zm281.2.1 0 zc281 = true := by decide +kernel
theorem zoy281 : zokY zm281 = true := by decide +kernel
set_option maxRecDepth 20000 in
theorem zow281 : Cond.code zm281.1 zm281.2.1 zm281.2.2.1 zm281.2.2.2.1 ∈ zTw := List.mem_filter.mpr ⟨List.mem_of_getElem? (i := 463) rfl, rfl⟩
theorem zok282 : zokC zm282.1 zm282.2.1 0 zc282 = true := by decide +kernel
theorem zoy282 : zokY zm282 = true := by decide +kernel
set_option maxRecDepth 20000 in
theorem zow282 : Cond.code zm282.1 zm282.2.1 zm282.2.2.1 zm282.2.2.2.1 ∈ zTw := List.mem_filter.mpr ⟨List.mem_of_getElem? (i := 473) rfl, rfl⟩
theorem zok283 : zokC zm283.1 zm283.2.1 0 zc283 = true := by decide +kernel
theorem zoy283 : zokY zm283 = true := by decide +kernel
set_option maxRecDepth 20000 in
theorem zow283 : Cond.code zm283.1 zm283.2.1 zm283.2.2.1 zm283.2.2.2.1 ∈ zTw := List.mem_filter.mpr ⟨List.mem_of_getElem? (i := 467) rfl, rfl⟩
theorem zok284 : zokC zm284.1 zm284.2.1 0 zc284 = true := by decide +kernel
theorem zoy284 : zokY zm284 = true := by decide +kernel
set_option maxRecDepth 20000 in
theorem zow284 : Cond.code zm284.1 zm284.2.1 zm284.2.2.1 zm284.2.2.2.1 ∈ zTw := List.mem_filter.mpr ⟨List.mem_of_getElem? (i := 477) rfl, rfl⟩
theorem zok285 : zokC zm285.1 zm285.2.1 0 zc285 = true := by decide +kernel
theorem zoy285 : zokY zm285 = true := by decide +kernel
set_option maxRecDepth 20000 in
theorem zow285 : Cond.code zm285.1 zm285.2.1 zm285.2.2.1 zm285.2.2.2.1 ∈ zTw := List.mem_filter.mpr ⟨List.mem_of_getElem? (i := 483) rfl, rfl⟩
theorem zok286 : zokC zm286.1 zm286.2.1 0 zc286 = true := by decide +kernel
theorem zoy286 : zokY zm286 = true := by decide +kernel
set_option maxRecDepth 20000 in
theorem zow286 : Cond.code zm286.1 zm286.2.1 zm286.2.2.1 zm286.2.2.2.1 ∈ zTw := List.mem_filter.mpr ⟨List.mem_of_getElem? (i := 480) rfl, rfl⟩
theorem zok293 : zokC zm293.1 zm293.2.1 0 zc293 = true := by decide +kernel
theorem zoy293 : zokY zm293 = true := by decide +kernel
set_option maxRecDepth 20000 in
theorem zow293 : Cond.code zm293.1 zm293.2.1 zm293.2.2.1 zm293.2.2.2.1 ∈ zTw := List.mem_filter.mpr ⟨List.mem_of_getElem? (i := 488) rfl, rfl⟩

