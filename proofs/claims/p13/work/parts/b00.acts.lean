/-! Methods as functions over the memory. -/
set_option maxRecDepth 4000 in
theorem xg11 : zg zms 11 = some (zm11.2.2.1, zm11.2.2.2.1, zc11) := rfl
theorem xr11 : zar 11 = (0, 1) := by decide +kernel
set_option maxRecDepth 4000 in
theorem xg12 : zg zms 12 = some (zm12.2.2.1, zm12.2.2.2.1, zc12) := rfl
theorem xr12 : zar 12 = (1, 1) := by decide +kernel
set_option maxRecDepth 4000 in
theorem xg14 : zg zms 14 = some (zm14.2.2.1, zm14.2.2.2.1, zc14) := rfl
theorem xr14 : zar 14 = (0, 2) := by decide +kernel
set_option maxRecDepth 4000 in
theorem xg16 : zg zms 16 = some (zm16.2.2.1, zm16.2.2.2.1, zc16) := rfl
theorem xr16 : zar 16 = (1, 2) := by decide +kernel
set_option maxRecDepth 4000 in
theorem xg17 : zg zms 17 = some (zm17.2.2.1, zm17.2.2.2.1, zc17) := rfl
theorem xr17 : zar 17 = (1, 2) := by decide +kernel
set_option maxRecDepth 4000 in
theorem xg63 : zg zms 63 = some (zm63.2.2.1, zm63.2.2.2.1, zc63) := rfl
theorem xr63 : zar 63 = (1, 7) := by decide +kernel
set_option maxRecDepth 4000 in
theorem xg64 : zg zms 64 = some (zm64.2.2.1, zm64.2.2.2.1, zc64) := rfl
theorem xr64 : zar 64 = (4, 7) := by decide +kernel
set_option maxRecDepth 4000 in
theorem xg65 : zg zms 65 = some (zm65.2.2.1, zm65.2.2.2.1, zc65) := rfl
theorem xr65 : zar 65 = (1, 7) := by decide +kernel
set_option maxRecDepth 4000 in
theorem xg66 : zg zms 66 = some (zm66.2.2.1, zm66.2.2.2.1, zc66) := rfl
theorem xr66 : zar 66 = (1, 7) := by decide +kernel
set_option maxRecDepth 4000 in
theorem xg68 : zg zms 68 = some (zm68.2.2.1, zm68.2.2.2.1, zc68) := rfl
theorem xr68 : zar 68 = (1, 8) := by decide +kernel
set_option maxRecDepth 4000 in
theorem xg69 : zg zms 69 = some (zm69.2.2.1, zm69.2.2.2.1, zc69) := rfl
theorem xr69 : zar 69 = (1, 8) := by decide +kernel
set_option maxRecDepth 4000 in
theorem xg76 : zg zms 76 = some (zm76.2.2.1, zm76.2.2.2.1, zc76) := rfl
theorem xr76 : zar 76 = (0, 8) := by decide +kernel
set_option maxRecDepth 4000 in
theorem xg78 : zg zms 78 = some (zm78.2.2.1, zm78.2.2.2.1, zc78) := rfl
theorem xr78 : zar 78 = (0, 8) := by decide +kernel
set_option maxRecDepth 4000 in
theorem xg81 : zg zms 81 = some (zm81.2.2.1, zm81.2.2.2.1, zc81) := rfl
theorem xr81 : zar 81 = (0, 8) := by decide +kernel
set_option maxRecDepth 4000 in
theorem xg82 : zg zms 82 = some (zm82.2.2.1, zm82.2.2.2.1, zc82) := rfl
theorem xr82 : zar 82 = (0, 8) := by decide +kernel
set_option maxRecDepth 4000 in
theorem xg83 : zg zms 83 = some (zm83.2.2.1, zm83.2.2.2.1, zc83) := rfl
theorem xr83 : zar 83 = (1, 8) := by decide +kernel
set_option maxRecDepth 4000 in
theorem xg84 : zg zms 84 = some (zm84.2.2.1, zm84.2.2.2.1, zc84) := rfl
theorem xr84 : zar 84 = (1, 8) := by decide +kernel
set_option maxRecDepth 4000 in
theorem xg85 : zg zms 85 = some (zm85.2.2.1, zm85.2.2.2.1, zc85) := rfl
theorem xr85 : zar 85 = (1, 8) := by decide +kernel
set_option maxRecDepth 4000 in
theorem xg86 : zg zms 86 = some (zm86.2.2.1, zm86.2.2.2.1, zc86) := rfl
theorem xr86 : zar 86 = (2, 8) := by decide +kernel
set_option maxRecDepth 4000 in
theorem xg87 : zg zms 87 = some (zm87.2.2.1, zm87.2.2.2.1, zc87) := rfl
theorem xr87 : zar 87 = (2, 8) := by decide +kernel
set_option maxRecDepth 4000 in
theorem xg89 : zg zms 89 = some (zm89.2.2.1, zm89.2.2.2.1, zc89) := rfl
theorem xr89 : zar 89 = (2, 8) := by decide +kernel
set_option maxRecDepth 4000 in
theorem xg91 : zg zms 91 = some (zm91.2.2.1, zm91.2.2.2.1, zc91) := rfl
theorem xr91 : zar 91 = (1, 8) := by decide +kernel
set_option maxRecDepth 4000 in
theorem xg92 : zg zms 92 = some (zm92.2.2.1, zm92.2.2.2.1, zc92) := rfl
theorem xr92 : zar 92 = (2, 8) := by decide +kernel
set_option maxRecDepth 4000 in
theorem xg93 : zg zms 93 = some (zm93.2.2.1, zm93.2.2.2.1, zc93) := rfl
theorem xr93 : zar 93 = (2, 8) := by decide +kernel
set_option maxRecDepth 4000 in
theorem xg94 : zg zms 94 = some (zm94.2.2.1, zm94.2.2.2.1, zc94) := rfl
theorem xr94 : zar 94 = (2, 8) := by decide +kernel
set_option maxRecDepth 4000 in
theorem xg95 : zg zms 95 = some (zm95.2.2.1, zm95.2.2.2.1, zc95) := rfl
theorem xr95 : zar 95 = (1, 8) := by decide +kernel
set_option maxRecDepth 4000 in
theorem xg96 : zg zms 96 = some (zm96.2.2.1, zm96.2.2.2.1, zc96) := rfl
theorem xr96 : zar 96 = (0, 8) := by decide +kernel
set_option maxRecDepth 4000 in
theorem xg97 : zg zms 97 = some (zm97.2.2.1, zm97.2.2.2.1, zc97) := rfl
theorem xr97 : zar 97 = (1, 8) := by decide +kernel
set_option maxRecDepth 4000 in
theorem xg98 : zg zms 98 = some (zm98.2.2.1, zm98.2.2.2.1, zc98) := rfl
theorem xr98 : zar 98 = (1, 8) := by decide +kernel
set_option maxRecDepth 4000 in
theorem xg99 : zg zms 99 = some (zm99.2.2.1, zm99.2.2.2.1, zc99) := rfl
theorem xr99 : zar 99 = (1, 8) := by decide +kernel
set_option maxRecDepth 4000 in
theorem xg100 : zg zms 100 = some (zm100.2.2.1, zm100.2.2.2.1, zc100) := rfl
theorem xr100 : zar 100 = (2, 8) := by decide +kernel
set_option maxRecDepth 4000 in
theorem xg101 : zg zms 101 = some (zm101.2.2.1, zm101.2.2.2.1, zc101) := rfl
theorem xr101 : zar 101 = (2, 8) := by decide +kernel
set_option maxRecDepth 4000 in
theorem xg102 : zg zms 102 = some (zm102.2.2.1, zm102.2.2.2.1, zc102) := rfl
theorem xr102 : zar 102 = (2, 8) := by decide +kernel
set_option maxRecDepth 4000 in
theorem xg103 : zg zms 103 = some (zm103.2.2.1, zm103.2.2.2.1, zc103) := rfl
theorem xr103 : zar 103 = (1, 8) := by decide +kernel
set_option maxRecDepth 4000 in
theorem xg104 : zg zms 104 = some (zm104.2.2.1, zm104.2.2.2.1, zc104) := rfl
theorem xr104 : zar 104 = (2, 8) := by decide +kernel
set_option maxRecDepth 4000 in
theorem xg105 : zg zms 105 = some (zm105.2.2.1, zm105.2.2.2.1, zc105) := rfl
theorem xr105 : zar 105 = (2, 8) := by decide +kernel
set_option maxRecDepth 4000 in
theorem xg106 : zg zms 106 = some (zm106.2.2.1, zm106.2.2.2.1, zc106) := rfl
theorem xr106 : zar 106 = (1, 8) := by decide +kernel
set_option maxRecDepth 4000 in
theorem xg107 : zg zms 107 = some (zm107.2.2.1, zm107.2.2.2.1, zc107) := rfl
theorem xr107 : zar 107 = (1, 8) := by decide +kernel
set_option maxRecDepth 4000 in
theorem xg108 : zg zms 108 = some (zm108.2.2.1, zm108.2.2.2.1, zc108) := rfl
theorem xr108 : zar 108 = (1, 8) := by decide +kernel
set_option maxRecDepth 4000 in
theorem xg109 : zg zms 109 = some (zm109.2.2.1, zm109.2.2.2.1, zc109) := rfl
theorem xr109 : zar 109 = (0, 8) := by decide +kernel
set_option maxRecDepth 4000 in
theorem xg110 : zg zms 110 = some (zm110.2.2.1, zm110.2.2.2.1, zc110) := rfl
theorem xr110 : zar 110 = (0, 8) := by decide +kernel
set_option maxRecDepth 4000 in
theorem xg112 : zg zms 112 = some (zm112.2.2.1, zm112.2.2.2.1, zc112) := rfl
theorem xr112 : zar 112 = (0, 8) := by decide +kernel
set_option maxRecDepth 4000 in
theorem xg113 : zg zms 113 = some (zm113.2.2.1, zm113.2.2.2.1, zc113) := rfl
theorem xr113 : zar 113 = (0, 8) := by decide +kernel
set_option maxRecDepth 4000 in
theorem xg128 : zg zms 128 = some (zm128.2.2.1, zm128.2.2.2.1, zc128) := rfl
theorem xr128 : zar 128 = (2, 10) := by decide +kernel
set_option maxRecDepth 4000 in
theorem xg129 : zg zms 129 = some (zm129.2.2.1, zm129.2.2.2.1, zc129) := rfl
theorem xr129 : zar 129 = (2, 10) := by decide +kernel
set_option maxRecDepth 4000 in
theorem xg130 : zg zms 130 = some (zm130.2.2.1, zm130.2.2.2.1, zc130) := rfl
theorem xr130 : zar 130 = (3, 10) := by decide +kernel
set_option maxRecDepth 4000 in
theorem xg131 : zg zms 131 = some (zm131.2.2.1, zm131.2.2.2.1, zc131) := rfl
theorem xr131 : zar 131 = (2, 10) := by decide +kernel
set_option maxRecDepth 4000 in
theorem xg132 : zg zms 132 = some (zm132.2.2.1, zm132.2.2.2.1, zc132) := rfl
theorem xr132 : zar 132 = (1, 10) := by decide +kernel
set_option maxRecDepth 4000 in
theorem xg133 : zg zms 133 = some (zm133.2.2.1, zm133.2.2.2.1, zc133) := rfl
theorem xr133 : zar 133 = (1, 10) := by decide +kernel
set_option maxRecDepth 4000 in
theorem xg134 : zg zms 134 = some (zm134.2.2.1, zm134.2.2.2.1, zc134) := rfl
theorem xr134 : zar 134 = (2, 10) := by decide +kernel
set_option maxRecDepth 4000 in
theorem xg135 : zg zms 135 = some (zm135.2.2.1, zm135.2.2.2.1, zc135) := rfl
theorem xr135 : zar 135 = (0, 10) := by decide +kernel
set_option maxRecDepth 4000 in
theorem xg136 : zg zms 136 = some (zm136.2.2.1, zm136.2.2.2.1, zc136) := rfl
theorem xr136 : zar 136 = (2, 10) := by decide +kernel
set_option maxRecDepth 4000 in
theorem xg137 : zg zms 137 = some (zm137.2.2.1, zm137.2.2.2.1, zc137) := rfl
theorem xr137 : zar 137 = (0, 10) := by decide +kernel
set_option maxRecDepth 4000 in
theorem xg138 : zg zms 138 = some (zm138.2.2.1, zm138.2.2.2.1, zc138) := rfl
theorem xr138 : zar 138 = (0, 10) := by decide +kernel
set_option maxRecDepth 4000 in
theorem xg146 : zg zms 146 = some (zm146.2.2.1, zm146.2.2.2.1, zc146) := rfl
theorem xr146 : zar 146 = (1, 10) := by decide +kernel
set_option maxRecDepth 4000 in
theorem xg147 : zg zms 147 = some (zm147.2.2.1, zm147.2.2.2.1, zc147) := rfl
theorem xr147 : zar 147 = (1, 10) := by decide +kernel
set_option maxRecDepth 4000 in
theorem xg152 : zg zms 152 = some (zm152.2.2.1, zm152.2.2.2.1, zc152) := rfl
theorem xr152 : zar 152 = (1, 10) := by decide +kernel
set_option maxRecDepth 4000 in
theorem xg153 : zg zms 153 = some (zm153.2.2.1, zm153.2.2.2.1, zc153) := rfl
theorem xr153 : zar 153 = (3, 10) := by decide +kernel
set_option maxRecDepth 4000 in
theorem xg154 : zg zms 154 = some (zm154.2.2.1, zm154.2.2.2.1, zc154) := rfl
theorem xr154 : zar 154 = (1, 10) := by decide +kernel
set_option maxRecDepth 4000 in
theorem xg155 : zg zms 155 = some (zm155.2.2.1, zm155.2.2.2.1, zc155) := rfl
theorem xr155 : zar 155 = (1, 10) := by decide +kernel
set_option maxRecDepth 4000 in
theorem xg156 : zg zms 156 = some (zm156.2.2.1, zm156.2.2.2.1, zc156) := rfl
theorem xr156 : zar 156 = (1, 10) := by decide +kernel
set_option maxRecDepth 4000 in
theorem xg204 : zg zms 204 = some (zm204.2.2.1, zm204.2.2.2.1, zc204) := rfl
theorem xr204 : zar 204 = (0, 11) := by decide +kernel
set_option maxRecDepth 4000 in
theorem xg205 : zg zms 205 = some (zm205.2.2.1, zm205.2.2.2.1, zc205) := rfl
theorem xr205 : zar 205 = (1, 11) := by decide +kernel
set_option maxRecDepth 4000 in
theorem xg207 : zg zms 207 = some (zm207.2.2.1, zm207.2.2.2.1, zc207) := rfl
theorem xr207 : zar 207 = (1, 11) := by decide +kernel
set_option maxRecDepth 4000 in
theorem xg209 : zg zms 209 = some (zm209.2.2.1, zm209.2.2.2.1, zc209) := rfl
theorem xr209 : zar 209 = (2, 11) := by decide +kernel
set_option maxRecDepth 4000 in
theorem xg211 : zg zms 211 = some (zm211.2.2.1, zm211.2.2.2.1, zc211) := rfl
theorem xr211 : zar 211 = (2, 11) := by decide +kernel
set_option maxRecDepth 4000 in
theorem xg213 : zg zms 213 = some (zm213.2.2.1, zm213.2.2.2.1, zc213) := rfl
theorem xr213 : zar 213 = (1, 11) := by decide +kernel
set_option maxRecDepth 4000 in
theorem xg214 : zg zms 214 = some (zm214.2.2.1, zm214.2.2.2.1, zc214) := rfl
theorem xr214 : zar 214 = (2, 11) := by decide +kernel
set_option maxRecDepth 4000 in
theorem xg215 : zg zms 215 = some (zm215.2.2.1, zm215.2.2.2.1, zc215) := rfl
theorem xr215 : zar 215 = (1, 11) := by decide +kernel
set_option maxRecDepth 4000 in
theorem xg216 : zg zms 216 = some (zm216.2.2.1, zm216.2.2.2.1, zc216) := rfl
theorem xr216 : zar 216 = (1, 11) := by decide +kernel
set_option maxRecDepth 4000 in
theorem xg217 : zg zms 217 = some (zm217.2.2.1, zm217.2.2.2.1, zc217) := rfl
theorem xr217 : zar 217 = (2, 11) := by decide +kernel
set_option maxRecDepth 4000 in
theorem xg218 : zg zms 218 = some (zm218.2.2.1, zm218.2.2.2.1, zc218) := rfl
theorem xr218 : zar 218 = (2, 11) := by decide +kernel
set_option maxRecDepth 4000 in
theorem xg219 : zg zms 219 = some (zm219.2.2.1, zm219.2.2.2.1, zc219) := rfl
theorem xr219 : zar 219 = (3, 11) := by decide +kernel
set_option maxRecDepth 4000 in
theorem xg221 : zg zms 221 = some (zm221.2.2.1, zm221.2.2.2.1, zc221) := rfl
theorem xr221 : zar 221 = (0, 11) := by decide +kernel
set_option maxRecDepth 4000 in
theorem xg222 : zg zms 222 = some (zm222.2.2.1, zm222.2.2.2.1, zc222) := rfl
theorem xr222 : zar 222 = (2, 11) := by decide +kernel
set_option maxRecDepth 4000 in
theorem xg223 : zg zms 223 = some (zm223.2.2.1, zm223.2.2.2.1, zc223) := rfl
theorem xr223 : zar 223 = (2, 11) := by decide +kernel
set_option maxRecDepth 4000 in
theorem xg224 : zg zms 224 = some (zm224.2.2.1, zm224.2.2.2.1, zc224) := rfl
theorem xr224 : zar 224 = (1, 11) := by decide +kernel
set_option maxRecDepth 4000 in
theorem xg225 : zg zms 225 = some (zm225.2.2.1, zm225.2.2.2.1, zc225) := rfl
theorem xr225 : zar 225 = (1, 11) := by decide +kernel
set_option maxRecDepth 4000 in
theorem xg226 : zg zms 226 = some (zm226.2.2.1, zm226.2.2.2.1, zc226) := rfl
theorem xr226 : zar 226 = (2, 11) := by decide +kernel
set_option maxRecDepth 4000 in
theorem xg227 : zg zms 227 = some (zm227.2.2.1, zm227.2.2.2.1, zc227) := rfl
theorem xr227 : zar 227 = (1, 11) := by decide +kernel
set_option maxRecDepth 4000 in
theorem xg228 : zg zms 228 = some (zm228.2.2.1, zm228.2.2.2.1, zc228) := rfl
theorem xr228 : zar 228 = (1, 11) := by decide +kernel
set_option maxRecDepth 4000 in
theorem xg229 : zg zms 229 = some (zm229.2.2.1, zm229.2.2.2.1, zc229) := rfl
theorem xr229 : zar 229 = (2, 11) := by decide +kernel
set_option maxRecDepth 4000 in
theorem xg230 : zg zms 230 = some (zm230.2.2.1, zm230.2.2.2.1, zc230) := rfl
theorem xr230 : zar 230 = (2, 11) := by decide +kernel
set_option maxRecDepth 4000 in
theorem xg231 : zg zms 231 = some (zm231.2.2.1, zm231.2.2.2.1, zc231) := rfl
theorem xr231 : zar 231 = (2, 11) := by decide +kernel
set_option maxRecDepth 4000 in
theorem xg232 : zg zms 232 = some (zm232.2.2.1, zm232.2.2.2.1, zc232) := rfl
theorem xr232 : zar 232 = (2, 11) := by decide +kernel
set_option maxRecDepth 4000 in
theorem xg233 : zg zms 233 = some (zm233.2.2.1, zm233.2.2.2.1, zc233) := rfl
theorem xr233 : zar 233 = (0, 11) := by decide +kernel
set_option maxRecDepth 4000 in
theorem xg234 : zg zms 234 = some (zm234.2.2.1, zm234.2.2.2.1, zc234) := rfl
theorem xr234 : zar 234 = (0, 11) := by decide +kernel
set_option maxRecDepth 4000 in
theorem xg240 : zg zms 240 = some (zm240.2.2.1, zm240.2.2.2.1, zc240) := rfl
theorem xr240 : zar 240 = (2, 11) := by decide +kernel
set_option maxRecDepth 4000 in
theorem xg241 : zg zms 241 = some (zm241.2.2.1, zm241.2.2.2.1, zc241) := rfl
theorem xr241 : zar 241 = (0, 11) := by decide +kernel
set_option maxRecDepth 4000 in
theorem xg242 : zg zms 242 = some (zm242.2.2.1, zm242.2.2.2.1, zc242) := rfl
theorem xr242 : zar 242 = (0, 11) := by decide +kernel
set_option maxRecDepth 4000 in
theorem xg246 : zg zms 246 = some (zm246.2.2.1, zm246.2.2.2.1, zc246) := rfl
theorem xr246 : zar 246 = (0, 11) := by decide +kernel
set_option maxRecDepth 4000 in
theorem xg259 : zg zms 259 = some (zm259.2.2.1, zm259.2.2.2.1, zc259) := rfl
theorem xr259 : zar 259 = (0, 11) := by decide +kernel
set_option maxRecDepth 4000 in
theorem xg260 : zg zms 260 = some (zm260.2.2.1, zm260.2.2.2.1, zc260) := rfl
theorem xr260 : zar 260 = (0, 11) := by decide +kernel
set_option maxRecDepth 4000 in
theorem xg263 : zg zms 263 = some (zm263.2.2.1, zm263.2.2.2.1, zc263) := rfl
theorem xr263 : zar 263 = (1, 11) := by decide +kernel
set_option maxRecDepth 4000 in
theorem xg264 : zg zms 264 = some (zm264.2.2.1, zm264.2.2.2.1, zc264) := rfl
theorem xr264 : zar 264 = (1, 11) := by decide +kernel
set_option maxRecDepth 4000 in
theorem xg265 : zg zms 265 = some (zm265.2.2.1, zm265.2.2.2.1, zc265) := rfl
theorem xr265 : zar 265 = (1, 11) := by decide +kernel
set_option maxRecDepth 4000 in
theorem xg273 : zg zms 273 = some (zm273.2.2.1, zm273.2.2.2.1, zc273) := rfl
theorem xr273 : zar 273 = (1, 11) := by decide +kernel
set_option maxRecDepth 4000 in
theorem xg274 : zg zms 274 = some (zm274.2.2.1, zm274.2.2.2.1, zc274) := rfl
theorem xr274 : zar 274 = (1, 11) := by decide +kernel
set_option maxRecDepth 4000 in
theorem xg275 : zg zms 275 = some (zm275.2.2.1, zm275.2.2.2.1, zc275) := rfl
theorem xr275 : zar 275 = (0, 11) := by decide +kernel
set_option maxRecDepth 4000 in
theorem xg276 : zg zms 276 = some (zm276.2.2.1, zm276.2.2.2.1, zc276) := rfl
theorem xr276 : zar 276 = (3, 11) := by decide +kernel
set_option maxRecDepth 4000 in
theorem xg277 : zg zms 277 = some (zm277.2.2.1, zm277.2.2.2.1, zc277) := rfl
theorem xr277 : zar 277 = (1, 11) := by decide +kernel
set_option maxRecDepth 4000 in
theorem xg278 : zg zms 278 = some (zm278.2.2.1, zm278.2.2.2.1, zc278) := rfl
theorem xr278 : zar 278 = (1, 11) := by decide +kernel
set_option maxRecDepth 4000 in
theorem xg279 : zg zms 279 = some (zm279.2.2.1, zm279.2.2.2.1, zc279) := rfl
theorem xr279 : zar 279 = (1, 11) := by decide +kernel
/-- LentTools$Village.hasTool -/
def D83_9_16 (F : Nat) (v1 : Int32) (m : xS) : Option (Int32 × xS) :=
  some (0, m)
set_option maxRecDepth 20000 in
theorem T83_9_16 {B : zHp} (H : yH0 B) {e : Nat} (he : 2 ≤ e + 1) (F : Nat) {v1 : Int32} {lv : List (Nat × Value)} {m : xS} {x : Int32 × xS} (l0 : zld lv 0 = some (.ref 9)) (l1 : zld lv 1 = some (.int v1)) (h : D83_9_16 F v1 m = some x) : zR none e 2 (some .boolean) zc83 (16, lv, []) (xW B m) (some (.int x.1), xW B x.2) := by
  unfold D83_9_16 at h
  refine r_s (fr' := (17, lv, [.int 0])) (hp' := xW B m) (q := (.iconst 0, 1, 0, 0, .null)) rfl (fun _ => rfl) (Nat.le_refl _) ?_
  obtain rfl := Option.some.inj h
  exact q_ri (q := (.ireturn, 1, 0, 0, .null)) rfl (fun _ => rfl) rfl rfl
def D83_9 (F : Nat) (v1 : Int32) (m : xS) : Option (Int32 × xS) :=
  if zcmp .lt v1 0 = true then
    D83_9_16 F v1 m
  else
    (D79_9 F m).bind fun q6 =>
      if zcmp .ge v1 q6.1 = true then
        D83_9_16 F v1 q6.2
      else
        some (1, q6.2)
set_option maxRecDepth 20000 in
theorem T83_9 {B : zHp} (H : yH0 B) {e : Nat} (he : 2 ≤ e + 1) (F : Nat) {v1 : Int32} {lv : List (Nat × Value)} {m : xS} {x : Int32 × xS} (l0 : zld lv 0 = some (.ref 9)) (l1 : zld lv 1 = some (.int v1)) (h : D83_9 F v1 m = some x) : zR none e 2 (some .boolean) zc83 (0, lv, []) (xW B m) (some (.int x.1), xW B x.2) := by
  unfold D83_9 at h
  refine q_li (k := 1) (i := 1) (q := (.iload_n 1, 1, 0, 0, .null)) rfl (fun _ => rfl) l1 ?_
  refine r_if (len := 3) (a := 16) (b := 0) (v0 := .null) (cn := .lt) (off := 15) rfl (fun c => ?_) (fun c => ?_)
  · rw [if_pos c] at h
    exact T83_9_16 H he F l0 l1 h
  · rw [if_neg (by rw [c]; decide)] at h
    refine q_li (k := 1) (i := 1) (q := (.iload_n 1, 1, 0, 0, .null)) rfl (fun _ => rfl) l1 ?_
    refine q_lr (k := 1) (i := 0) (q := (.aload_n 0, 1, 0, 0, .null)) rfl (fun _ => rfl) l0 ?_
    obtain ⟨q6, h6, h⟩ := xbind h
    refine r_call (ix := 9) (as := []) (rest := [.int v1]) (rv := some (.int q6.1)) (hp' := xW B q6.2) (pc := 6) rfl xr79 rfl rfl rfl (xkd H (by decide)) (Nat.le_of_ble_eq_true rfl) (Z79_9 H h6 (by omega)) (Nat.le_refl _) ?_
    refine r_ifc (len := 3) (a := 16) (b := 0) (v0 := .null) (cn := .ge) (off := 7) rfl (fun c => ?_) (fun c => ?_)
    · rw [if_pos c] at h
      exact T83_9_16 H he F l0 l1 h
    · rw [if_neg (by rw [c]; decide)] at h
      refine r_s (fr' := (13, lv, [.int 1])) (hp' := xW B q6.2) (q := (.iconst 1, 1, 0, 0, .null)) rfl (fun _ => rfl) (Nat.le_refl _) ?_
      refine r_s (fr' := (17, lv, [.int 1])) (hp' := xW B q6.2) (q := (.goto 4, 3, 17, 0, .null)) rfl (fun _ => rfl) (Nat.le_refl _) ?_
      obtain rfl := Option.some.inj h
      exact q_ri (q := (.ireturn, 1, 0, 0, .null)) rfl (fun _ => rfl) rfl rfl
set_option maxRecDepth 20000 in
theorem Z83_9 {B : zHp} (H : yH0 B) {F : Nat} {a1 : Int32} {m : xS} {x : Int32 × xS} (h : D83_9 F a1 m = some x) {d : Nat} (hd : 2 ≤ d) : zCan d 83 [.ref 9, .int a1] (xW B m) (some (.int x.1), xW B x.2) := by
  obtain ⟨e, rfl⟩ : ∃ e, d = e + 1 := ⟨d - 1, by omega⟩
  refine zCan_body (nL := 2) (rt := (some .boolean)) (cd := zc83) (xg83) ⟨Nat.le_of_ble_eq_true rfl, by decide⟩ (Nat.le_refl _) ?_
  exact T83_9 H hd F rfl rfl h
/-- LentTools$Village.ofTool -/
def D87_9 (F : Nat) (v1 : Int32) (v2 : Int32) (m : xS) : Option (Int32 × xS) :=
  if xib ((6 + (6 * v2)) + v1) 114 = true then
    some ((m.1 10 (((6 + (6 * v2)) + v1) : Int32).toNatClampNeg), m)
  else none
set_option maxRecDepth 20000 in
theorem T87_9 {B : zHp} (H : yH0 B) {e : Nat} (he : 1 ≤ e + 1) (F : Nat) {v1 : Int32} {v2 : Int32} {lv : List (Nat × Value)} {m : xS} {x : Int32 × xS} (l0 : zld lv 0 = some (.ref 9)) (l1 : zld lv 1 = some (.int v1)) (l2 : zld lv 2 = some (.int v2)) (h : D87_9 F v1 v2 m = some x) : zR none e 3 (some .int) zc87 (0, lv, []) (xW B m) (some (.int x.1), xW B x.2) := by
  unfold D87_9 at h
  refine q_lr (k := 1) (i := 0) (q := (.aload_n 0, 1, 0, 0, .null)) rfl (fun _ => rfl) l0 ?_
  refine r_gr (c := 10) H (pc := 1) rfl (by decide) (by decide) ?_
  refine r_s (fr' := (6, lv, [.int 6, .ref 10])) (hp' := xW B m) (q := (.bipush 6, 2, 0, 0, .null)) rfl (fun _ => rfl) (Nat.le_refl _) ?_
  refine r_s (fr' := (8, lv, [.int 6, .int 6, .ref 10])) (hp' := xW B m) (q := (.bipush 6, 2, 0, 0, .null)) rfl (fun _ => rfl) (Nat.le_refl _) ?_
  refine q_li (k := 1) (i := 2) (q := (.iload_n 2, 1, 0, 0, .null)) rfl (fun _ => rfl) l2 ?_
  refine r_s (fr' := (10, lv, [.int (6 * v2), .int 6, .ref 10])) (hp' := xW B m) (q := (.imul, 1, 0, 0, .null)) rfl (fun _ => rfl) (Nat.le_refl _) ?_
  refine r_s (fr' := (11, lv, [.int (6 + (6 * v2)), .ref 10])) (hp' := xW B m) (q := (.iadd, 1, 0, 0, .null)) rfl (fun _ => rfl) (Nat.le_refl _) ?_
  refine q_li (k := 1) (i := 1) (q := (.iload_n 1, 1, 0, 0, .null)) rfl (fun _ => rfl) l1 ?_
  refine r_s (fr' := (13, lv, [.int ((6 + (6 * v2)) + v1), .ref 10])) (hp' := xW B m) (q := (.iadd, 1, 0, 0, .null)) rfl (fun _ => rfl) (Nat.le_refl _) ?_
  obtain ⟨c1, h⟩ := xif h
  refine q_al (n := 114) (v := (m.1 10 (((6 + (6 * v2)) + v1) : Int32).toNatClampNeg)) H (pc := 13) rfl (by decide) c1 rfl ?_
  obtain rfl := Option.some.inj h
  exact q_ri (q := (.ireturn, 1, 0, 0, .null)) rfl (fun _ => rfl) rfl rfl
set_option maxRecDepth 20000 in
theorem Z87_9 {B : zHp} (H : yH0 B) {F : Nat} {a1 : Int32} {a2 : Int32} {m : xS} {x : Int32 × xS} (h : D87_9 F a1 a2 m = some x) {d : Nat} (hd : 1 ≤ d) : zCan d 87 [.ref 9, .int a1, .int a2] (xW B m) (some (.int x.1), xW B x.2) := by
  obtain ⟨e, rfl⟩ : ∃ e, d = e + 1 := ⟨d - 1, by omega⟩
  refine zCan_body (nL := 3) (rt := (some .int)) (cd := zc87) (xg87) ⟨Nat.le_of_ble_eq_true rfl, by decide⟩ (Nat.le_refl _) ?_
  exact T87_9 H hd F rfl rfl rfl h
/-- LentTools$Village.isHome -/
def D97_9 (F : Nat) (v1 : Int32) (m : xS) : Option (Int32 × xS) :=
  (D87_9 F v1 3 m).bind fun q3 =>
    (D87_9 F v1 0 q3.2).bind fun q9 =>
      if zcmp .ne q3.1 q9.1 = true then
        some (0, q9.2)
      else
        some (1, q9.2)
set_option maxRecDepth 20000 in
theorem T97_9 {B : zHp} (H : yH0 B) {e : Nat} (he : 2 ≤ e + 1) (F : Nat) {v1 : Int32} {lv : List (Nat × Value)} {m : xS} {x : Int32 × xS} (l0 : zld lv 0 = some (.ref 9)) (l1 : zld lv 1 = some (.int v1)) (h : D97_9 F v1 m = some x) : zR none e 2 (some .boolean) zc97 (0, lv, []) (xW B m) (some (.int x.1), xW B x.2) := by
  unfold D97_9 at h
  refine q_lr (k := 1) (i := 0) (q := (.aload_n 0, 1, 0, 0, .null)) rfl (fun _ => rfl) l0 ?_
  refine q_li (k := 1) (i := 1) (q := (.iload_n 1, 1, 0, 0, .null)) rfl (fun _ => rfl) l1 ?_
  refine r_s (fr' := (3, lv, [.int 3, .int v1, .ref 9])) (hp' := xW B m) (q := (.iconst 3, 1, 0, 0, .null)) rfl (fun _ => rfl) (Nat.le_refl _) ?_
  obtain ⟨q3, h3, h⟩ := xbind h
  refine r_call (ix := 9) (as := [.int v1, .int 3]) (rest := []) (rv := some (.int q3.1)) (hp' := xW B q3.2) (pc := 3) rfl xr87 rfl rfl rfl (xkd H (by decide)) (Nat.le_of_ble_eq_true rfl) (Z87_9 H h3 (by omega)) (Nat.le_refl _) ?_
  refine q_lr (k := 1) (i := 0) (q := (.aload_n 0, 1, 0, 0, .null)) rfl (fun _ => rfl) l0 ?_
  refine q_li (k := 1) (i := 1) (q := (.iload_n 1, 1, 0, 0, .null)) rfl (fun _ => rfl) l1 ?_
  refine r_s (fr' := (9, lv, [.int 0, .int v1, .ref 9, .int q3.1])) (hp' := xW B q3.2) (q := (.iconst 0, 1, 0, 0, .null)) rfl (fun _ => rfl) (Nat.le_refl _) ?_
  obtain ⟨q9, h9, h⟩ := xbind h
  refine r_call (ix := 9) (as := [.int v1, .int 0]) (rest := [.int q3.1]) (rv := some (.int q9.1)) (hp' := xW B q9.2) (pc := 9) rfl xr87 rfl rfl rfl (xkd H (by decide)) (Nat.le_of_ble_eq_true rfl) (Z87_9 H h9 (by omega)) (Nat.le_refl _) ?_
  refine r_ifc (len := 3) (a := 19) (b := 0) (v0 := .null) (cn := .ne) (off := 7) rfl (fun c => ?_) (fun c => ?_)
  · rw [if_pos c] at h
    refine r_s (fr' := (20, lv, [.int 0])) (hp' := xW B q9.2) (q := (.iconst 0, 1, 0, 0, .null)) rfl (fun _ => rfl) (Nat.le_refl _) ?_
    obtain rfl := Option.some.inj h
    exact q_ri (q := (.ireturn, 1, 0, 0, .null)) rfl (fun _ => rfl) rfl rfl
  · rw [if_neg (by rw [c]; decide)] at h
    refine r_s (fr' := (16, lv, [.int 1])) (hp' := xW B q9.2) (q := (.iconst 1, 1, 0, 0, .null)) rfl (fun _ => rfl) (Nat.le_refl _) ?_
    refine r_s (fr' := (20, lv, [.int 1])) (hp' := xW B q9.2) (q := (.goto 4, 3, 20, 0, .null)) rfl (fun _ => rfl) (Nat.le_refl _) ?_
    obtain rfl := Option.some.inj h
    exact q_ri (q := (.ireturn, 1, 0, 0, .null)) rfl (fun _ => rfl) rfl rfl
set_option maxRecDepth 20000 in
theorem Z97_9 {B : zHp} (H : yH0 B) {F : Nat} {a1 : Int32} {m : xS} {x : Int32 × xS} (h : D97_9 F a1 m = some x) {d : Nat} (hd : 2 ≤ d) : zCan d 97 [.ref 9, .int a1] (xW B m) (some (.int x.1), xW B x.2) := by
  obtain ⟨e, rfl⟩ : ∃ e, d = e + 1 := ⟨d - 1, by omega⟩
  refine zCan_body (nL := 2) (rt := (some .boolean)) (cd := zc97) (xg97) ⟨Nat.le_of_ble_eq_true rfl, by decide⟩ (Nat.le_refl _) ?_
  exact T97_9 H hd F rfl rfl h
/-- LentTools$Village.late -/
def D78_9 (F : Nat) (m : xS) : Option (Int32 × xS) :=
  some ((m.1 10 1), m)
set_option maxRecDepth 20000 in
theorem T78_9 {B : zHp} (H : yH0 B) {e : Nat} (he : 1 ≤ e + 1) (F : Nat) {lv : List (Nat × Value)} {m : xS} {x : Int32 × xS} (l0 : zld lv 0 = some (.ref 9)) (h : D78_9 F m = some x) : zR none e 1 (some .int) zc78 (0, lv, []) (xW B m) (some (.int x.1), xW B x.2) := by
  unfold D78_9 at h
  refine q_lr (k := 1) (i := 0) (q := (.aload_n 0, 1, 0, 0, .null)) rfl (fun _ => rfl) l0 ?_
  refine r_gr (c := 10) H (pc := 1) rfl (by decide) (by decide) ?_
  refine r_s (fr' := (5, lv, [.int 1, .ref 10])) (hp' := xW B m) (q := (.iconst 1, 1, 0, 0, .null)) rfl (fun _ => rfl) (Nat.le_refl _) ?_
  refine q_al (n := 114) (v := (m.1 10 1)) H (pc := 5) rfl (by decide) (by decide) rfl ?_
  obtain rfl := Option.some.inj h
  exact q_ri (q := (.ireturn, 1, 0, 0, .null)) rfl (fun _ => rfl) rfl rfl
set_option maxRecDepth 20000 in
theorem Z78_9 {B : zHp} (H : yH0 B) {F : Nat} {m : xS} {x : Int32 × xS} (h : D78_9 F m = some x) {d : Nat} (hd : 1 ≤ d) : zCan d 78 [.ref 9] (xW B m) (some (.int x.1), xW B x.2) := by
  obtain ⟨e, rfl⟩ : ∃ e, d = e + 1 := ⟨d - 1, by omega⟩
  refine zCan_body (nL := 1) (rt := (some .int)) (cd := zc78) (xg78) ⟨Nat.le_of_ble_eq_true rfl, by decide⟩ (Nat.le_refl _) ?_
  exact T78_9 H hd F rfl h
/-- LentTools$Village.rustOf -/
def D98_9 (F : Nat) (v1 : Int32) (m : xS) : Option (Int32 × xS) :=
  (D87_9 F v1 5 m).bind fun q4 =>
    (D78_9 F q4.2).bind fun q8 =>
      some ((if 0 < (q4.1 - q8.1) then (q4.1 - q8.1) else 0), q8.2)
set_option maxRecDepth 20000 in
theorem T98_9 {B : zHp} (H : yH0 B) {e : Nat} (he : 2 ≤ e + 1) (F : Nat) {v1 : Int32} {lv : List (Nat × Value)} {m : xS} {x : Int32 × xS} (l0 : zld lv 0 = some (.ref 9)) (l1 : zld lv 1 = some (.int v1)) (h : D98_9 F v1 m = some x) : zR none e 2 (some .int) zc98 (0, lv, []) (xW B m) (some (.int x.1), xW B x.2) := by
  unfold D98_9 at h
  refine r_s (fr' := (1, lv, [.int 0])) (hp' := xW B m) (q := (.iconst 0, 1, 0, 0, .null)) rfl (fun _ => rfl) (Nat.le_refl _) ?_
  refine q_lr (k := 1) (i := 0) (q := (.aload_n 0, 1, 0, 0, .null)) rfl (fun _ => rfl) l0 ?_
  refine q_li (k := 1) (i := 1) (q := (.iload_n 1, 1, 0, 0, .null)) rfl (fun _ => rfl) l1 ?_
  refine r_s (fr' := (4, lv, [.int 5, .int v1, .ref 9, .int 0])) (hp' := xW B m) (q := (.iconst 5, 1, 0, 0, .null)) rfl (fun _ => rfl) (Nat.le_refl _) ?_
  obtain ⟨q4, h4, h⟩ := xbind h
  refine r_call (ix := 9) (as := [.int v1, .int 5]) (rest := [.int 0]) (rv := some (.int q4.1)) (hp' := xW B q4.2) (pc := 4) rfl xr87 rfl rfl rfl (xkd H (by decide)) (Nat.le_of_ble_eq_true rfl) (Z87_9 H h4 (by omega)) (Nat.le_refl _) ?_
  refine q_lr (k := 1) (i := 0) (q := (.aload_n 0, 1, 0, 0, .null)) rfl (fun _ => rfl) l0 ?_
  obtain ⟨q8, h8, h⟩ := xbind h
  refine r_call (ix := 9) (as := []) (rest := [.int q4.1, .int 0]) (rv := some (.int q8.1)) (hp' := xW B q8.2) (pc := 8) rfl xr78 rfl rfl rfl (xkd H (by decide)) (Nat.le_of_ble_eq_true rfl) (Z78_9 H h8 (by omega)) (Nat.le_refl _) ?_
  refine r_s (fr' := (12, lv, [.int (q4.1 - q8.1), .int 0])) (hp' := xW B q8.2) (q := (.isub, 1, 0, 0, .null)) rfl (fun _ => rfl) (Nat.le_refl _) ?_
  refine r_s (fr' := (15, lv, [.int (if 0 < (q4.1 - q8.1) then (q4.1 - q8.1) else 0)])) (hp' := xW B q8.2) (q := (.invokestatic 66, 3, 0, 2, .null)) rfl (fun _ => rfl) (Nat.le_refl _) ?_
  obtain rfl := Option.some.inj h
  exact q_ri (q := (.ireturn, 1, 0, 0, .null)) rfl (fun _ => rfl) rfl rfl
set_option maxRecDepth 20000 in
theorem Z98_9 {B : zHp} (H : yH0 B) {F : Nat} {a1 : Int32} {m : xS} {x : Int32 × xS} (h : D98_9 F a1 m = some x) {d : Nat} (hd : 2 ≤ d) : zCan d 98 [.ref 9, .int a1] (xW B m) (some (.int x.1), xW B x.2) := by
  obtain ⟨e, rfl⟩ : ∃ e, d = e + 1 := ⟨d - 1, by omega⟩
  refine zCan_body (nL := 2) (rt := (some .int)) (cd := zc98) (xg98) ⟨Nat.le_of_ble_eq_true rfl, by decide⟩ (Nat.le_refl _) ?_
  exact T98_9 H hd F rfl rfl h
/-- LentTools$Village.sharpAfter -/
def D100_9_14 (F : Nat) (v1 : Int32) (v2 : Int32) (m : xS) : Option (Int32 × xS) :=
  (D87_9 F v1 2 m).bind fun q18 =>
    (D87_9 F v1 4 q18.2).bind fun q24 =>
      (D98_9 F v1 q24.2).bind fun q32 =>
        some ((if 0 < (((q18.1 + q24.1) + v2) - q32.1) then (((q18.1 + q24.1) + v2) - q32.1) else 0), q32.2)
set_option maxRecDepth 20000 in
theorem T100_9_14 {B : zHp} (H : yH0 B) {e : Nat} (he : 3 ≤ e + 1) (F : Nat) {v1 : Int32} {v2 : Int32} {lv : List (Nat × Value)} {m : xS} {x : Int32 × xS} (l0 : zld lv 0 = some (.ref 9)) (l1 : zld lv 1 = some (.int v1)) (l2 : zld lv 2 = some (.int v2)) (h : D100_9_14 F v1 v2 m = some x) : zR none e 3 (some .int) zc100 (14, lv, []) (xW B m) (some (.int x.1), xW B x.2) := by
  unfold D100_9_14 at h
  refine r_s (fr' := (15, lv, [.int 0])) (hp' := xW B m) (q := (.iconst 0, 1, 0, 0, .null)) rfl (fun _ => rfl) (Nat.le_refl _) ?_
  refine q_lr (k := 1) (i := 0) (q := (.aload_n 0, 1, 0, 0, .null)) rfl (fun _ => rfl) l0 ?_
  refine q_li (k := 1) (i := 1) (q := (.iload_n 1, 1, 0, 0, .null)) rfl (fun _ => rfl) l1 ?_
  refine r_s (fr' := (18, lv, [.int 2, .int v1, .ref 9, .int 0])) (hp' := xW B m) (q := (.iconst 2, 1, 0, 0, .null)) rfl (fun _ => rfl) (Nat.le_refl _) ?_
  obtain ⟨q18, h18, h⟩ := xbind h
  refine r_call (ix := 9) (as := [.int v1, .int 2]) (rest := [.int 0]) (rv := some (.int q18.1)) (hp' := xW B q18.2) (pc := 18) rfl xr87 rfl rfl rfl (xkd H (by decide)) (Nat.le_of_ble_eq_true rfl) (Z87_9 H h18 (by omega)) (Nat.le_refl _) ?_
  refine q_lr (k := 1) (i := 0) (q := (.aload_n 0, 1, 0, 0, .null)) rfl (fun _ => rfl) l0 ?_
  refine q_li (k := 1) (i := 1) (q := (.iload_n 1, 1, 0, 0, .null)) rfl (fun _ => rfl) l1 ?_
  refine r_s (fr' := (24, lv, [.int 4, .int v1, .ref 9, .int q18.1, .int 0])) (hp' := xW B q18.2) (q := (.iconst 4, 1, 0, 0, .null)) rfl (fun _ => rfl) (Nat.le_refl _) ?_
  obtain ⟨q24, h24, h⟩ := xbind h
  refine r_call (ix := 9) (as := [.int v1, .int 4]) (rest := [.int q18.1, .int 0]) (rv := some (.int q24.1)) (hp' := xW B q24.2) (pc := 24) rfl xr87 rfl rfl rfl (xkd H (by decide)) (Nat.le_of_ble_eq_true rfl) (Z87_9 H h24 (by omega)) (Nat.le_refl _) ?_
  refine r_s (fr' := (28, lv, [.int (q18.1 + q24.1), .int 0])) (hp' := xW B q24.2) (q := (.iadd, 1, 0, 0, .null)) rfl (fun _ => rfl) (Nat.le_refl _) ?_
  refine q_li (k := 1) (i := 2) (q := (.iload_n 2, 1, 0, 0, .null)) rfl (fun _ => rfl) l2 ?_
  refine r_s (fr' := (30, lv, [.int ((q18.1 + q24.1) + v2), .int 0])) (hp' := xW B q24.2) (q := (.iadd, 1, 0, 0, .null)) rfl (fun _ => rfl) (Nat.le_refl _) ?_
  refine q_lr (k := 1) (i := 0) (q := (.aload_n 0, 1, 0, 0, .null)) rfl (fun _ => rfl) l0 ?_
  refine q_li (k := 1) (i := 1) (q := (.iload_n 1, 1, 0, 0, .null)) rfl (fun _ => rfl) l1 ?_
  obtain ⟨q32, h32, h⟩ := xbind h
  refine r_call (ix := 9) (as := [.int v1]) (rest := [.int ((q18.1 + q24.1) + v2), .int 0]) (rv := some (.int q32.1)) (hp' := xW B q32.2) (pc := 32) rfl xr98 rfl rfl rfl (xkd H (by decide)) (Nat.le_of_ble_eq_true rfl) (Z98_9 H h32 (by omega)) (Nat.le_refl _) ?_
  refine r_s (fr' := (36, lv, [.int (((q18.1 + q24.1) + v2) - q32.1), .int 0])) (hp' := xW B q32.2) (q := (.isub, 1, 0, 0, .null)) rfl (fun _ => rfl) (Nat.le_refl _) ?_
  refine r_s (fr' := (39, lv, [.int (if 0 < (((q18.1 + q24.1) + v2) - q32.1) then (((q18.1 + q24.1) + v2) - q32.1) else 0)])) (hp' := xW B q32.2) (q := (.invokestatic 66, 3, 0, 2, .null)) rfl (fun _ => rfl) (Nat.le_refl _) ?_
  obtain rfl := Option.some.inj h
  exact q_ri (q := (.ireturn, 1, 0, 0, .null)) rfl (fun _ => rfl) rfl rfl
def D100_9 (F : Nat) (v1 : Int32) (v2 : Int32) (m : xS) : Option (Int32 × xS) :=
  if zcmp .ne v2 0 = true then
    D100_9_14 F v1 v2 m
  else
    (D97_9 F v1 m).bind fun q6 =>
      if zcmp .eq q6.1 0 = true then
        D100_9_14 F v1 v2 q6.2
      else
        some (0, q6.2)
set_option maxRecDepth 20000 in
theorem T100_9 {B : zHp} (H : yH0 B) {e : Nat} (he : 3 ≤ e + 1) (F : Nat) {v1 : Int32} {v2 : Int32} {lv : List (Nat × Value)} {m : xS} {x : Int32 × xS} (l0 : zld lv 0 = some (.ref 9)) (l1 : zld lv 1 = some (.int v1)) (l2 : zld lv 2 = some (.int v2)) (h : D100_9 F v1 v2 m = some x) : zR none e 3 (some .int) zc100 (0, lv, []) (xW B m) (some (.int x.1), xW B x.2) := by
  unfold D100_9 at h
  refine q_li (k := 1) (i := 2) (q := (.iload_n 2, 1, 0, 0, .null)) rfl (fun _ => rfl) l2 ?_
  refine r_if (len := 3) (a := 14) (b := 0) (v0 := .null) (cn := .ne) (off := 13) rfl (fun c => ?_) (fun c => ?_)
  · rw [if_pos c] at h
    exact T100_9_14 H he F l0 l1 l2 h
  · rw [if_neg (by rw [c]; decide)] at h
    refine q_lr (k := 1) (i := 0) (q := (.aload_n 0, 1, 0, 0, .null)) rfl (fun _ => rfl) l0 ?_
    refine q_li (k := 1) (i := 1) (q := (.iload_n 1, 1, 0, 0, .null)) rfl (fun _ => rfl) l1 ?_
    obtain ⟨q6, h6, h⟩ := xbind h
    refine r_call (ix := 9) (as := [.int v1]) (rest := []) (rv := some (.int q6.1)) (hp' := xW B q6.2) (pc := 6) rfl xr97 rfl rfl rfl (xkd H (by decide)) (Nat.le_of_ble_eq_true rfl) (Z97_9 H h6 (by omega)) (Nat.le_refl _) ?_
    refine r_if (len := 3) (a := 14) (b := 0) (v0 := .null) (cn := .eq) (off := 5) rfl (fun c => ?_) (fun c => ?_)
    · rw [if_pos c] at h
      exact T100_9_14 H he F l0 l1 l2 h
    · rw [if_neg (by rw [c]; decide)] at h
      refine r_s (fr' := (13, lv, [.int 0])) (hp' := xW B q6.2) (q := (.iconst 0, 1, 0, 0, .null)) rfl (fun _ => rfl) (Nat.le_refl _) ?_
      obtain rfl := Option.some.inj h
      exact q_ri (q := (.ireturn, 1, 0, 0, .null)) rfl (fun _ => rfl) rfl rfl
set_option maxRecDepth 20000 in
theorem Z100_9 {B : zHp} (H : yH0 B) {F : Nat} {a1 : Int32} {a2 : Int32} {m : xS} {x : Int32 × xS} (h : D100_9 F a1 a2 m = some x) {d : Nat} (hd : 3 ≤ d) : zCan d 100 [.ref 9, .int a1, .int a2] (xW B m) (some (.int x.1), xW B x.2) := by
  obtain ⟨e, rfl⟩ : ∃ e, d = e + 1 := ⟨d - 1, by omega⟩
  refine zCan_body (nL := 3) (rt := (some .int)) (cd := zc100) (xg100) ⟨Nat.le_of_ble_eq_true rfl, by decide⟩ (Nat.le_refl _) ?_
  exact T100_9 H hd F rfl rfl rfl h
/-- LentTools$Village.sharpOf -/
def D99_9 (F : Nat) (v1 : Int32) (m : xS) : Option (Int32 × xS) :=
  (D100_9 F v1 0 m).bind fun q3 =>
    some (q3.1, q3.2)
set_option maxRecDepth 20000 in
theorem T99_9 {B : zHp} (H : yH0 B) {e : Nat} (he : 4 ≤ e + 1) (F : Nat) {v1 : Int32} {lv : List (Nat × Value)} {m : xS} {x : Int32 × xS} (l0 : zld lv 0 = some (.ref 9)) (l1 : zld lv 1 = some (.int v1)) (h : D99_9 F v1 m = some x) : zR none e 2 (some .int) zc99 (0, lv, []) (xW B m) (some (.int x.1), xW B x.2) := by
  unfold D99_9 at h
  refine q_lr (k := 1) (i := 0) (q := (.aload_n 0, 1, 0, 0, .null)) rfl (fun _ => rfl) l0 ?_
  refine q_li (k := 1) (i := 1) (q := (.iload_n 1, 1, 0, 0, .null)) rfl (fun _ => rfl) l1 ?_
  refine r_s (fr' := (3, lv, [.int 0, .int v1, .ref 9])) (hp' := xW B m) (q := (.iconst 0, 1, 0, 0, .null)) rfl (fun _ => rfl) (Nat.le_refl _) ?_
  obtain ⟨q3, h3, h⟩ := xbind h
  refine r_call (ix := 9) (as := [.int v1, .int 0]) (rest := []) (rv := some (.int q3.1)) (hp' := xW B q3.2) (pc := 3) rfl xr100 rfl rfl rfl (xkd H (by decide)) (Nat.le_of_ble_eq_true rfl) (Z100_9 H h3 (by omega)) (Nat.le_refl _) ?_
  obtain rfl := Option.some.inj h
  exact q_ri (q := (.ireturn, 1, 0, 0, .null)) rfl (fun _ => rfl) rfl rfl
set_option maxRecDepth 20000 in
theorem Z99_9 {B : zHp} (H : yH0 B) {F : Nat} {a1 : Int32} {m : xS} {x : Int32 × xS} (h : D99_9 F a1 m = some x) {d : Nat} (hd : 4 ≤ d) : zCan d 99 [.ref 9, .int a1] (xW B m) (some (.int x.1), xW B x.2) := by
  obtain ⟨e, rfl⟩ : ∃ e, d = e + 1 := ⟨d - 1, by omega⟩
  refine zCan_body (nL := 2) (rt := (some .int)) (cd := zc99) (xg99) ⟨Nat.le_of_ble_eq_true rfl, by decide⟩ (Nat.le_refl _) ?_
  exact T99_9 H hd F rfl rfl h
/-- LentTools.tool -/
def D128_0_21 (F : Nat) (v1 : Int32) (v2 : Int32) (m : xS) : Option (Int32 × xS) :=
  some ((-1), m)
set_option maxRecDepth 20000 in
theorem T128_0_21 {B : zHp} (H : yH0 B) {e : Nat} (he : 5 ≤ e + 1) (F : Nat) {v1 : Int32} {v2 : Int32} {lv : List (Nat × Value)} {m : xS} {x : Int32 × xS} (l0 : zld lv 0 = some (.ref 0)) (l1 : zld lv 1 = some (.int v1)) (l2 : zld lv 2 = some (.int v2)) (h : D128_0_21 F v1 v2 m = some x) : zR none e 3 (some .int) zc128 (21, lv, []) (xW B m) (some (.int x.1), xW B x.2) := by
  unfold D128_0_21 at h
  refine r_s (fr' := (22, lv, [.int (-1)])) (hp' := xW B m) (q := (.iconst (-1), 1, 0, 0, .null)) rfl (fun _ => rfl) (Nat.le_refl _) ?_
  obtain rfl := Option.some.inj h
  exact q_ri (q := (.ireturn, 1, 0, 0, .null)) rfl (fun _ => rfl) rfl rfl
def D128_0 (F : Nat) (v1 : Int32) (v2 : Int32) (m : xS) : Option (Int32 × xS) :=
  (D83_9 F v1 m).bind fun q5 =>
    if zcmp .eq q5.1 0 = true then
      D128_0_21 F v1 v2 q5.2
    else
      if zcmp .lt v2 0 = true then
        D128_0_21 F v1 v2 q5.2
      else
        if zcmp .le v2 7 = true then
          if zcmp .ne v2 6 = true then
            if zcmp .ne v2 7 = true then
              (D87_9 F v1 v2 q5.2).bind fun q61 =>
                some (q61.1, q61.2)
            else
              (D98_9 F v1 q5.2).bind fun q49 =>
                some (q49.1, q49.2)
          else
            (D99_9 F v1 q5.2).bind fun q34 =>
              some (q34.1, q34.2)
        else
          D128_0_21 F v1 v2 q5.2
set_option maxRecDepth 20000 in
theorem T128_0 {B : zHp} (H : yH0 B) {e : Nat} (he : 5 ≤ e + 1) (F : Nat) {v1 : Int32} {v2 : Int32} {lv : List (Nat × Value)} {m : xS} {x : Int32 × xS} (l0 : zld lv 0 = some (.ref 0)) (l1 : zld lv 1 = some (.int v1)) (l2 : zld lv 2 = some (.int v2)) (h : D128_0 F v1 v2 m = some x) : zR none e 3 (some .int) zc128 (0, lv, []) (xW B m) (some (.int x.1), xW B x.2) := by
  unfold D128_0 at h
  refine q_lr (k := 1) (i := 0) (q := (.aload_n 0, 1, 0, 0, .null)) rfl (fun _ => rfl) l0 ?_
  refine r_gr (c := 9) H (pc := 1) rfl (by decide) (by decide) ?_
  refine q_li (k := 1) (i := 1) (q := (.iload_n 1, 1, 0, 0, .null)) rfl (fun _ => rfl) l1 ?_
  obtain ⟨q5, h5, h⟩ := xbind h
  refine r_call (ix := 9) (as := [.int v1]) (rest := []) (rv := some (.int q5.1)) (hp' := xW B q5.2) (pc := 5) rfl xr83 rfl rfl rfl (xkd H (by decide)) (Nat.le_of_ble_eq_true rfl) (Z83_9 H h5 (by omega)) (Nat.le_refl _) ?_
  refine r_if (len := 3) (a := 21) (b := 0) (v0 := .null) (cn := .eq) (off := 13) rfl (fun c => ?_) (fun c => ?_)
  · rw [if_pos c] at h
    exact T128_0_21 H he F l0 l1 l2 h
  · rw [if_neg (by rw [c]; decide)] at h
    refine q_li (k := 1) (i := 2) (q := (.iload_n 2, 1, 0, 0, .null)) rfl (fun _ => rfl) l2 ?_
    refine r_if (len := 3) (a := 21) (b := 0) (v0 := .null) (cn := .lt) (off := 9) rfl (fun c => ?_) (fun c => ?_)
    · rw [if_pos c] at h
      exact T128_0_21 H he F l0 l1 l2 h
    · rw [if_neg (by rw [c]; decide)] at h
      refine q_li (k := 1) (i := 2) (q := (.iload_n 2, 1, 0, 0, .null)) rfl (fun _ => rfl) l2 ?_
      refine r_s (fr' := (18, lv, [.int 7, .int v2])) (hp' := xW B q5.2) (q := (.bipush 7, 2, 0, 0, .null)) rfl (fun _ => rfl) (Nat.le_refl _) ?_
      refine r_ifc (len := 3) (a := 23) (b := 0) (v0 := .null) (cn := .le) (off := 5) rfl (fun c => ?_) (fun c => ?_)
      · rw [if_pos c] at h
        refine q_li (k := 1) (i := 2) (q := (.iload_n 2, 1, 0, 0, .null)) rfl (fun _ => rfl) l2 ?_
        refine r_s (fr' := (26, lv, [.int 6, .int v2])) (hp' := xW B q5.2) (q := (.bipush 6, 2, 0, 0, .null)) rfl (fun _ => rfl) (Nat.le_refl _) ?_
        refine r_ifc (len := 3) (a := 38) (b := 0) (v0 := .null) (cn := .ne) (off := 12) rfl (fun c => ?_) (fun c => ?_)
        · rw [if_pos c] at h
          refine q_li (k := 1) (i := 2) (q := (.iload_n 2, 1, 0, 0, .null)) rfl (fun _ => rfl) l2 ?_
          refine r_s (fr' := (41, lv, [.int 7, .int v2])) (hp' := xW B q5.2) (q := (.bipush 7, 2, 0, 0, .null)) rfl (fun _ => rfl) (Nat.le_refl _) ?_
          refine r_ifc (len := 3) (a := 55) (b := 0) (v0 := .null) (cn := .ne) (off := 14) rfl (fun c => ?_) (fun c => ?_)
          · rw [if_pos c] at h
            refine q_lr (k := 1) (i := 0) (q := (.aload_n 0, 1, 0, 0, .null)) rfl (fun _ => rfl) l0 ?_
            refine r_gr (c := 9) H (pc := 56) rfl (by decide) (by decide) ?_
            refine q_li (k := 1) (i := 1) (q := (.iload_n 1, 1, 0, 0, .null)) rfl (fun _ => rfl) l1 ?_
            refine q_li (k := 1) (i := 2) (q := (.iload_n 2, 1, 0, 0, .null)) rfl (fun _ => rfl) l2 ?_
            obtain ⟨q61, h61, h⟩ := xbind h
            refine r_call (ix := 9) (as := [.int v1, .int v2]) (rest := []) (rv := some (.int q61.1)) (hp' := xW B q61.2) (pc := 61) rfl xr87 rfl rfl rfl (xkd H (by decide)) (Nat.le_of_ble_eq_true rfl) (Z87_9 H h61 (by omega)) (Nat.le_refl _) ?_
            obtain rfl := Option.some.inj h
            exact q_ri (q := (.ireturn, 1, 0, 0, .null)) rfl (fun _ => rfl) rfl rfl
          · rw [if_neg (by rw [c]; decide)] at h
            refine q_lr (k := 1) (i := 0) (q := (.aload_n 0, 1, 0, 0, .null)) rfl (fun _ => rfl) l0 ?_
            refine r_gr (c := 9) H (pc := 45) rfl (by decide) (by decide) ?_
            refine q_li (k := 1) (i := 1) (q := (.iload_n 1, 1, 0, 0, .null)) rfl (fun _ => rfl) l1 ?_
            obtain ⟨q49, h49, h⟩ := xbind h
            refine r_call (ix := 9) (as := [.int v1]) (rest := []) (rv := some (.int q49.1)) (hp' := xW B q49.2) (pc := 49) rfl xr98 rfl rfl rfl (xkd H (by decide)) (Nat.le_of_ble_eq_true rfl) (Z98_9 H h49 (by omega)) (Nat.le_refl _) ?_
            refine r_s (fr' := (64, lv, [.int q49.1])) (hp' := xW B q49.2) (q := (.goto 12, 3, 64, 0, .null)) rfl (fun _ => rfl) (Nat.le_refl _) ?_
            obtain rfl := Option.some.inj h
            exact q_ri (q := (.ireturn, 1, 0, 0, .null)) rfl (fun _ => rfl) rfl rfl
        · rw [if_neg (by rw [c]; decide)] at h
          refine q_lr (k := 1) (i := 0) (q := (.aload_n 0, 1, 0, 0, .null)) rfl (fun _ => rfl) l0 ?_
          refine r_gr (c := 9) H (pc := 30) rfl (by decide) (by decide) ?_
          refine q_li (k := 1) (i := 1) (q := (.iload_n 1, 1, 0, 0, .null)) rfl (fun _ => rfl) l1 ?_
          obtain ⟨q34, h34, h⟩ := xbind h
          refine r_call (ix := 9) (as := [.int v1]) (rest := []) (rv := some (.int q34.1)) (hp' := xW B q34.2) (pc := 34) rfl xr99 rfl rfl rfl (xkd H (by decide)) (Nat.le_of_ble_eq_true rfl) (Z99_9 H h34 (by omega)) (Nat.le_refl _) ?_
          obtain rfl := Option.some.inj h
          exact q_ri (q := (.ireturn, 1, 0, 0, .null)) rfl (fun _ => rfl) rfl rfl
      · rw [if_neg (by rw [c]; decide)] at h
        exact T128_0_21 H he F l0 l1 l2 h
set_option maxRecDepth 20000 in
theorem Z128_0 {B : zHp} (H : yH0 B) {F : Nat} {a1 : Int32} {a2 : Int32} {m : xS} {x : Int32 × xS} (h : D128_0 F a1 a2 m = some x) {d : Nat} (hd : 5 ≤ d) : zCan d 128 [.ref 0, .int a1, .int a2] (xW B m) (some (.int x.1), xW B x.2) := by
  obtain ⟨e, rfl⟩ : ∃ e, d = e + 1 := ⟨d - 1, by omega⟩
  refine zCan_body (nL := 3) (rt := (some .int)) (cd := zc128) (xg128) ⟨Nat.le_of_ble_eq_true rfl, by decide⟩ (Nat.le_refl _) ?_
  exact T128_0 H hd F rfl rfl rfl h
/-- LentTools$Village.works -/
def D80_9 (F : Nat) (m : xS) : Option (Int32 × xS) :=
  some ((m.1 10 3), m)
set_option maxRecDepth 20000 in
theorem T80_9 {B : zHp} (H : yH0 B) {e : Nat} (he : 1 ≤ e + 1) (F : Nat) {lv : List (Nat × Value)} {m : xS} {x : Int32 × xS} (l0 : zld lv 0 = some (.ref 9)) (h : D80_9 F m = some x) : zR none e 1 (some .int) zc80 (0, lv, []) (xW B m) (some (.int x.1), xW B x.2) := by
  unfold D80_9 at h
  refine q_lr (k := 1) (i := 0) (q := (.aload_n 0, 1, 0, 0, .null)) rfl (fun _ => rfl) l0 ?_
  refine r_gr (c := 10) H (pc := 1) rfl (by decide) (by decide) ?_
  refine r_s (fr' := (5, lv, [.int 3, .ref 10])) (hp' := xW B m) (q := (.iconst 3, 1, 0, 0, .null)) rfl (fun _ => rfl) (Nat.le_refl _) ?_
  refine q_al (n := 114) (v := (m.1 10 3)) H (pc := 5) rfl (by decide) (by decide) rfl ?_
  obtain rfl := Option.some.inj h
  exact q_ri (q := (.ireturn, 1, 0, 0, .null)) rfl (fun _ => rfl) rfl rfl
set_option maxRecDepth 20000 in
theorem Z80_9 {B : zHp} (H : yH0 B) {F : Nat} {m : xS} {x : Int32 × xS} (h : D80_9 F m = some x) {d : Nat} (hd : 1 ≤ d) : zCan d 80 [.ref 9] (xW B m) (some (.int x.1), xW B x.2) := by
  obtain ⟨e, rfl⟩ : ∃ e, d = e + 1 := ⟨d - 1, by omega⟩
  refine zCan_body (nL := 1) (rt := (some .int)) (cd := zc80) (xg80) ⟨Nat.le_of_ble_eq_true rfl, by decide⟩ (Nat.le_refl _) ?_
  exact T80_9 H hd F rfl h
/-- LentTools$Village.hasWork -/
def D84_9_16 (F : Nat) (v1 : Int32) (m : xS) : Option (Int32 × xS) :=
  some (0, m)
set_option maxRecDepth 20000 in
theorem T84_9_16 {B : zHp} (H : yH0 B) {e : Nat} (he : 2 ≤ e + 1) (F : Nat) {v1 : Int32} {lv : List (Nat × Value)} {m : xS} {x : Int32 × xS} (l0 : zld lv 0 = some (.ref 9)) (l1 : zld lv 1 = some (.int v1)) (h : D84_9_16 F v1 m = some x) : zR none e 2 (some .boolean) zc84 (16, lv, []) (xW B m) (some (.int x.1), xW B x.2) := by
  unfold D84_9_16 at h
  refine r_s (fr' := (17, lv, [.int 0])) (hp' := xW B m) (q := (.iconst 0, 1, 0, 0, .null)) rfl (fun _ => rfl) (Nat.le_refl _) ?_
  obtain rfl := Option.some.inj h
  exact q_ri (q := (.ireturn, 1, 0, 0, .null)) rfl (fun _ => rfl) rfl rfl
def D84_9 (F : Nat) (v1 : Int32) (m : xS) : Option (Int32 × xS) :=
  if zcmp .lt v1 0 = true then
    D84_9_16 F v1 m
  else
    (D80_9 F m).bind fun q6 =>
      if zcmp .ge v1 q6.1 = true then
        D84_9_16 F v1 q6.2
      else
        some (1, q6.2)
set_option maxRecDepth 20000 in
theorem T84_9 {B : zHp} (H : yH0 B) {e : Nat} (he : 2 ≤ e + 1) (F : Nat) {v1 : Int32} {lv : List (Nat × Value)} {m : xS} {x : Int32 × xS} (l0 : zld lv 0 = some (.ref 9)) (l1 : zld lv 1 = some (.int v1)) (h : D84_9 F v1 m = some x) : zR none e 2 (some .boolean) zc84 (0, lv, []) (xW B m) (some (.int x.1), xW B x.2) := by
  unfold D84_9 at h
  refine q_li (k := 1) (i := 1) (q := (.iload_n 1, 1, 0, 0, .null)) rfl (fun _ => rfl) l1 ?_
  refine r_if (len := 3) (a := 16) (b := 0) (v0 := .null) (cn := .lt) (off := 15) rfl (fun c => ?_) (fun c => ?_)
  · rw [if_pos c] at h
    exact T84_9_16 H he F l0 l1 h
  · rw [if_neg (by rw [c]; decide)] at h
    refine q_li (k := 1) (i := 1) (q := (.iload_n 1, 1, 0, 0, .null)) rfl (fun _ => rfl) l1 ?_
    refine q_lr (k := 1) (i := 0) (q := (.aload_n 0, 1, 0, 0, .null)) rfl (fun _ => rfl) l0 ?_
    obtain ⟨q6, h6, h⟩ := xbind h
    refine r_call (ix := 9) (as := []) (rest := [.int v1]) (rv := some (.int q6.1)) (hp' := xW B q6.2) (pc := 6) rfl xr80 rfl rfl rfl (xkd H (by decide)) (Nat.le_of_ble_eq_true rfl) (Z80_9 H h6 (by omega)) (Nat.le_refl _) ?_
    refine r_ifc (len := 3) (a := 16) (b := 0) (v0 := .null) (cn := .ge) (off := 7) rfl (fun c => ?_) (fun c => ?_)
    · rw [if_pos c] at h
      exact T84_9_16 H he F l0 l1 h
    · rw [if_neg (by rw [c]; decide)] at h
      refine r_s (fr' := (13, lv, [.int 1])) (hp' := xW B q6.2) (q := (.iconst 1, 1, 0, 0, .null)) rfl (fun _ => rfl) (Nat.le_refl _) ?_
      refine r_s (fr' := (17, lv, [.int 1])) (hp' := xW B q6.2) (q := (.goto 4, 3, 17, 0, .null)) rfl (fun _ => rfl) (Nat.le_refl _) ?_
      obtain rfl := Option.some.inj h
      exact q_ri (q := (.ireturn, 1, 0, 0, .null)) rfl (fun _ => rfl) rfl rfl
set_option maxRecDepth 20000 in
theorem Z84_9 {B : zHp} (H : yH0 B) {F : Nat} {a1 : Int32} {m : xS} {x : Int32 × xS} (h : D84_9 F a1 m = some x) {d : Nat} (hd : 2 ≤ d) : zCan d 84 [.ref 9, .int a1] (xW B m) (some (.int x.1), xW B x.2) := by
  obtain ⟨e, rfl⟩ : ∃ e, d = e + 1 := ⟨d - 1, by omega⟩
  refine zCan_body (nL := 2) (rt := (some .boolean)) (cd := zc84) (xg84) ⟨Nat.le_of_ble_eq_true rfl, by decide⟩ (Nat.le_refl _) ?_
  exact T84_9 H hd F rfl rfl h
/-- LentTools$Village.ofWork -/
def D89_9 (F : Nat) (v1 : Int32) (v2 : Int32) (m : xS) : Option (Int32 × xS) :=
  if xib ((42 + (6 * v2)) + v1) 114 = true then
    some ((m.1 10 (((42 + (6 * v2)) + v1) : Int32).toNatClampNeg), m)
  else none
set_option maxRecDepth 20000 in
theorem T89_9 {B : zHp} (H : yH0 B) {e : Nat} (he : 1 ≤ e + 1) (F : Nat) {v1 : Int32} {v2 : Int32} {lv : List (Nat × Value)} {m : xS} {x : Int32 × xS} (l0 : zld lv 0 = some (.ref 9)) (l1 : zld lv 1 = some (.int v1)) (l2 : zld lv 2 = some (.int v2)) (h : D89_9 F v1 v2 m = some x) : zR none e 3 (some .int) zc89 (0, lv, []) (xW B m) (some (.int x.1), xW B x.2) := by
  unfold D89_9 at h
  refine q_lr (k := 1) (i := 0) (q := (.aload_n 0, 1, 0, 0, .null)) rfl (fun _ => rfl) l0 ?_
  refine r_gr (c := 10) H (pc := 1) rfl (by decide) (by decide) ?_
  refine r_s (fr' := (6, lv, [.int 42, .ref 10])) (hp' := xW B m) (q := (.bipush 42, 2, 0, 0, .null)) rfl (fun _ => rfl) (Nat.le_refl _) ?_
  refine r_s (fr' := (8, lv, [.int 6, .int 42, .ref 10])) (hp' := xW B m) (q := (.bipush 6, 2, 0, 0, .null)) rfl (fun _ => rfl) (Nat.le_refl _) ?_
  refine q_li (k := 1) (i := 2) (q := (.iload_n 2, 1, 0, 0, .null)) rfl (fun _ => rfl) l2 ?_
  refine r_s (fr' := (10, lv, [.int (6 * v2), .int 42, .ref 10])) (hp' := xW B m) (q := (.imul, 1, 0, 0, .null)) rfl (fun _ => rfl) (Nat.le_refl _) ?_
  refine r_s (fr' := (11, lv, [.int (42 + (6 * v2)), .ref 10])) (hp' := xW B m) (q := (.iadd, 1, 0, 0, .null)) rfl (fun _ => rfl) (Nat.le_refl _) ?_
  refine q_li (k := 1) (i := 1) (q := (.iload_n 1, 1, 0, 0, .null)) rfl (fun _ => rfl) l1 ?_
  refine r_s (fr' := (13, lv, [.int ((42 + (6 * v2)) + v1), .ref 10])) (hp' := xW B m) (q := (.iadd, 1, 0, 0, .null)) rfl (fun _ => rfl) (Nat.le_refl _) ?_
  obtain ⟨c1, h⟩ := xif h
  refine q_al (n := 114) (v := (m.1 10 (((42 + (6 * v2)) + v1) : Int32).toNatClampNeg)) H (pc := 13) rfl (by decide) c1 rfl ?_
  obtain rfl := Option.some.inj h
  exact q_ri (q := (.ireturn, 1, 0, 0, .null)) rfl (fun _ => rfl) rfl rfl
set_option maxRecDepth 20000 in
theorem Z89_9 {B : zHp} (H : yH0 B) {F : Nat} {a1 : Int32} {a2 : Int32} {m : xS} {x : Int32 × xS} (h : D89_9 F a1 a2 m = some x) {d : Nat} (hd : 1 ≤ d) : zCan d 89 [.ref 9, .int a1, .int a2] (xW B m) (some (.int x.1), xW B x.2) := by
  obtain ⟨e, rfl⟩ : ∃ e, d = e + 1 := ⟨d - 1, by omega⟩
  refine zCan_body (nL := 3) (rt := (some .int)) (cd := zc89) (xg89) ⟨Nat.le_of_ble_eq_true rfl, by decide⟩ (Nat.le_refl _) ?_
  exact T89_9 H hd F rfl rfl rfl h
/-- LentTools$Village.isDone -/
def D106_9 (F : Nat) (v1 : Int32) (m : xS) : Option (Int32 × xS) :=
  (D89_9 F v1 4 m).bind fun q3 =>
    if zcmp .eq q3.1 (-1) = true then
      some (0, q3.2)
    else
      some (1, q3.2)
set_option maxRecDepth 20000 in
theorem T106_9 {B : zHp} (H : yH0 B) {e : Nat} (he : 2 ≤ e + 1) (F : Nat) {v1 : Int32} {lv : List (Nat × Value)} {m : xS} {x : Int32 × xS} (l0 : zld lv 0 = some (.ref 9)) (l1 : zld lv 1 = some (.int v1)) (h : D106_9 F v1 m = some x) : zR none e 2 (some .boolean) zc106 (0, lv, []) (xW B m) (some (.int x.1), xW B x.2) := by
  unfold D106_9 at h
  refine q_lr (k := 1) (i := 0) (q := (.aload_n 0, 1, 0, 0, .null)) rfl (fun _ => rfl) l0 ?_
  refine q_li (k := 1) (i := 1) (q := (.iload_n 1, 1, 0, 0, .null)) rfl (fun _ => rfl) l1 ?_
  refine r_s (fr' := (3, lv, [.int 4, .int v1, .ref 9])) (hp' := xW B m) (q := (.iconst 4, 1, 0, 0, .null)) rfl (fun _ => rfl) (Nat.le_refl _) ?_
  obtain ⟨q3, h3, h⟩ := xbind h
  refine r_call (ix := 9) (as := [.int v1, .int 4]) (rest := []) (rv := some (.int q3.1)) (hp' := xW B q3.2) (pc := 3) rfl xr89 rfl rfl rfl (xkd H (by decide)) (Nat.le_of_ble_eq_true rfl) (Z89_9 H h3 (by omega)) (Nat.le_refl _) ?_
  refine r_s (fr' := (7, lv, [.int (-1), .int q3.1])) (hp' := xW B q3.2) (q := (.iconst (-1), 1, 0, 0, .null)) rfl (fun _ => rfl) (Nat.le_refl _) ?_
  refine r_ifc (len := 3) (a := 14) (b := 0) (v0 := .null) (cn := .eq) (off := 7) rfl (fun c => ?_) (fun c => ?_)
  · rw [if_pos c] at h
    refine r_s (fr' := (15, lv, [.int 0])) (hp' := xW B q3.2) (q := (.iconst 0, 1, 0, 0, .null)) rfl (fun _ => rfl) (Nat.le_refl _) ?_
    obtain rfl := Option.some.inj h
    exact q_ri (q := (.ireturn, 1, 0, 0, .null)) rfl (fun _ => rfl) rfl rfl
  · rw [if_neg (by rw [c]; decide)] at h
    refine r_s (fr' := (11, lv, [.int 1])) (hp' := xW B q3.2) (q := (.iconst 1, 1, 0, 0, .null)) rfl (fun _ => rfl) (Nat.le_refl _) ?_
    refine r_s (fr' := (15, lv, [.int 1])) (hp' := xW B q3.2) (q := (.goto 4, 3, 15, 0, .null)) rfl (fun _ => rfl) (Nat.le_refl _) ?_
    obtain rfl := Option.some.inj h
    exact q_ri (q := (.ireturn, 1, 0, 0, .null)) rfl (fun _ => rfl) rfl rfl
set_option maxRecDepth 20000 in
theorem Z106_9 {B : zHp} (H : yH0 B) {F : Nat} {a1 : Int32} {m : xS} {x : Int32 × xS} (h : D106_9 F a1 m = some x) {d : Nat} (hd : 2 ≤ d) : zCan d 106 [.ref 9, .int a1] (xW B m) (some (.int x.1), xW B x.2) := by
  obtain ⟨e, rfl⟩ : ∃ e, d = e + 1 := ⟨d - 1, by omega⟩
  refine zCan_body (nL := 2) (rt := (some .boolean)) (cd := zc106) (xg106) ⟨Nat.le_of_ble_eq_true rfl, by decide⟩ (Nat.le_refl _) ?_
  exact T106_9 H hd F rfl rfl h
/-- LentTools$Village.canWork -/
def D107_9_66 (F : Nat) (g12 : Int32 → Int32 → xS → Option (Int32 × xS)) (v1 : Int32) (v2 : Int32) (m : xS) : Option (Int32 × xS) :=
  g12 v1 (v2 + Int32.ofInt 1) m
set_option maxRecDepth 20000 in
theorem T107_9_66 {B : zHp} (H : yH0 B) {e : Nat} (he : 5 ≤ e + 1) (F : Nat) (g12 : Int32 → Int32 → xS → Option (Int32 × xS)) (k12 : ∀ {v1 : Int32} {v2 : Int32} {lv : List (Nat × Value)} {m : xS} {x : Int32 × xS}, zld lv 0 = some (.ref 9) → zld lv 1 = some (.int v1) → zld lv 2 = some (.int v2) → g12 v1 v2 m = some x → zR none e 3 (some .boolean) zc107 (12, lv, []) (xW B m) (some (.int x.1), xW B x.2)) {v1 : Int32} {v2 : Int32} {lv : List (Nat × Value)} {m : xS} {x : Int32 × xS} (l0 : zld lv 0 = some (.ref 9)) (l1 : zld lv 1 = some (.int v1)) (l2 : zld lv 2 = some (.int v2)) (h : D107_9_66 F g12 v1 v2 m = some x) : zR none e 3 (some .boolean) zc107 (66, lv, []) (xW B m) (some (.int x.1), xW B x.2) := by
  unfold D107_9_66 at h
  refine q_inc (i := 2) (n := 1) (q := (.iinc 2 1, 3, 0, 0, .null)) rfl (fun _ => rfl) l2 (by decide) ?_
  have l0_1 : zld (zs1 lv 2 (.int (v2 + Int32.ofInt 1))) 0 = some (.ref 9) := x_o1 l0 rfl rfl
  have l1_1 : zld (zs1 lv 2 (.int (v2 + Int32.ofInt 1))) 1 = some (.int v1) := x_o1 l1 rfl rfl
  have l2_1 : zld (zs1 lv 2 (.int (v2 + Int32.ofInt 1))) 2 = some (.int (v2 + Int32.ofInt 1)) := zs1_ld _ _ _
  generalize (zs1 lv 2 (.int (v2 + Int32.ofInt 1))) = lv1 at *
  refine r_s (fr' := (12, lv1, [])) (hp' := xW B m) (q := (.goto (-57), 3, 12, 0, .null)) rfl (fun _ => rfl) (Nat.le_refl _) ?_
  exact k12 l0_1 l1_1 l2_1 h
def D107_9_12 (F : Nat) : Nat → Int32 → Int32 → xS → Option (Int32 × xS)
  | 0, _, _, _ => none
  | f + 1, v1, v2, m =>
    (D79_9 F m).bind fun q14 =>
      if zcmp .ge v2 q14.1 = true then
        some (0, q14.2)
      else
        (D87_9 F v2 1 q14.2).bind fun q23 =>
          (D89_9 F v1 1 q23.2).bind fun q29 =>
            if zcmp .ne q23.1 q29.1 = true then
              D107_9_66 F (D107_9_12 F f) v1 v2 q29.2
            else
              (D87_9 F v2 3 q29.2).bind fun q38 =>
                (D89_9 F v1 0 q38.2).bind fun q44 =>
                  if zcmp .ne q38.1 q44.1 = true then
                    D107_9_66 F (D107_9_12 F f) v1 v2 q44.2
                  else
                    (D99_9 F v2 q44.2).bind fun q52 =>
                      (D89_9 F v1 2 q52.2).bind fun q58 =>
                        if zcmp .lt q52.1 q58.1 = true then
                          D107_9_66 F (D107_9_12 F f) v1 v2 q58.2
                        else
                          some (1, q58.2)
set_option maxRecDepth 20000 in
theorem T107_9_12 {B : zHp} (H : yH0 B) {e : Nat} (he : 5 ≤ e + 1) (F : Nat) : ∀ (f : Nat) {v1 : Int32} {v2 : Int32} {lv : List (Nat × Value)} {m : xS} {x : Int32 × xS}, zld lv 0 = some (.ref 9) → zld lv 1 = some (.int v1) → zld lv 2 = some (.int v2) → D107_9_12 F f v1 v2 m = some x → zR none e 3 (some .boolean) zc107 (12, lv, []) (xW B m) (some (.int x.1), xW B x.2) := by
  intro f
  induction f with
  | zero => intro v1 v2 lv m x l0 l1 l2 h; cases h
  | succ f ih =>
    intro v1 v2 lv m x l0 l1 l2 h
    unfold D107_9_12 at h
    refine q_li (k := 1) (i := 2) (q := (.iload_n 2, 1, 0, 0, .null)) rfl (fun _ => rfl) l2 ?_
    refine q_lr (k := 1) (i := 0) (q := (.aload_n 0, 1, 0, 0, .null)) rfl (fun _ => rfl) l0 ?_
    obtain ⟨q14, h14, h⟩ := xbind h
    refine r_call (ix := 9) (as := []) (rest := [.int v2]) (rv := some (.int q14.1)) (hp' := xW B q14.2) (pc := 14) rfl xr79 rfl rfl rfl (xkd H (by decide)) (Nat.le_of_ble_eq_true rfl) (Z79_9 H h14 (by omega)) (Nat.le_refl _) ?_
    refine r_ifc (len := 3) (a := 72) (b := 0) (v0 := .null) (cn := .ge) (off := 55) rfl (fun c => ?_) (fun c => ?_)
    · rw [if_pos c] at h
      refine r_s (fr' := (73, lv, [.int 0])) (hp' := xW B q14.2) (q := (.iconst 0, 1, 0, 0, .null)) rfl (fun _ => rfl) (Nat.le_refl _) ?_
      obtain rfl := Option.some.inj h
      exact q_ri (q := (.ireturn, 1, 0, 0, .null)) rfl (fun _ => rfl) rfl rfl
    · rw [if_neg (by rw [c]; decide)] at h
      refine q_lr (k := 1) (i := 0) (q := (.aload_n 0, 1, 0, 0, .null)) rfl (fun _ => rfl) l0 ?_
      refine q_li (k := 1) (i := 2) (q := (.iload_n 2, 1, 0, 0, .null)) rfl (fun _ => rfl) l2 ?_
      refine r_s (fr' := (23, lv, [.int 1, .int v2, .ref 9])) (hp' := xW B q14.2) (q := (.iconst 1, 1, 0, 0, .null)) rfl (fun _ => rfl) (Nat.le_refl _) ?_
      obtain ⟨q23, h23, h⟩ := xbind h
      refine r_call (ix := 9) (as := [.int v2, .int 1]) (rest := []) (rv := some (.int q23.1)) (hp' := xW B q23.2) (pc := 23) rfl xr87 rfl rfl rfl (xkd H (by decide)) (Nat.le_of_ble_eq_true rfl) (Z87_9 H h23 (by omega)) (Nat.le_refl _) ?_
      refine q_lr (k := 1) (i := 0) (q := (.aload_n 0, 1, 0, 0, .null)) rfl (fun _ => rfl) l0 ?_
      refine q_li (k := 1) (i := 1) (q := (.iload_n 1, 1, 0, 0, .null)) rfl (fun _ => rfl) l1 ?_
      refine r_s (fr' := (29, lv, [.int 1, .int v1, .ref 9, .int q23.1])) (hp' := xW B q23.2) (q := (.iconst 1, 1, 0, 0, .null)) rfl (fun _ => rfl) (Nat.le_refl _) ?_
      obtain ⟨q29, h29, h⟩ := xbind h
      refine r_call (ix := 9) (as := [.int v1, .int 1]) (rest := [.int q23.1]) (rv := some (.int q29.1)) (hp' := xW B q29.2) (pc := 29) rfl xr89 rfl rfl rfl (xkd H (by decide)) (Nat.le_of_ble_eq_true rfl) (Z89_9 H h29 (by omega)) (Nat.le_refl _) ?_
      refine r_ifc (len := 3) (a := 66) (b := 0) (v0 := .null) (cn := .ne) (off := 34) rfl (fun c => ?_) (fun c => ?_)
      · rw [if_pos c] at h
        exact T107_9_66 H he F _ ih l0 l1 l2 h
      · rw [if_neg (by rw [c]; decide)] at h
        refine q_lr (k := 1) (i := 0) (q := (.aload_n 0, 1, 0, 0, .null)) rfl (fun _ => rfl) l0 ?_
        refine q_li (k := 1) (i := 2) (q := (.iload_n 2, 1, 0, 0, .null)) rfl (fun _ => rfl) l2 ?_
        refine r_s (fr' := (38, lv, [.int 3, .int v2, .ref 9])) (hp' := xW B q29.2) (q := (.iconst 3, 1, 0, 0, .null)) rfl (fun _ => rfl) (Nat.le_refl _) ?_
        obtain ⟨q38, h38, h⟩ := xbind h
        refine r_call (ix := 9) (as := [.int v2, .int 3]) (rest := []) (rv := some (.int q38.1)) (hp' := xW B q38.2) (pc := 38) rfl xr87 rfl rfl rfl (xkd H (by decide)) (Nat.le_of_ble_eq_true rfl) (Z87_9 H h38 (by omega)) (Nat.le_refl _) ?_
        refine q_lr (k := 1) (i := 0) (q := (.aload_n 0, 1, 0, 0, .null)) rfl (fun _ => rfl) l0 ?_
        refine q_li (k := 1) (i := 1) (q := (.iload_n 1, 1, 0, 0, .null)) rfl (fun _ => rfl) l1 ?_
        refine r_s (fr' := (44, lv, [.int 0, .int v1, .ref 9, .int q38.1])) (hp' := xW B q38.2) (q := (.iconst 0, 1, 0, 0, .null)) rfl (fun _ => rfl) (Nat.le_refl _) ?_
        obtain ⟨q44, h44, h⟩ := xbind h
        refine r_call (ix := 9) (as := [.int v1, .int 0]) (rest := [.int q38.1]) (rv := some (.int q44.1)) (hp' := xW B q44.2) (pc := 44) rfl xr89 rfl rfl rfl (xkd H (by decide)) (Nat.le_of_ble_eq_true rfl) (Z89_9 H h44 (by omega)) (Nat.le_refl _) ?_
        refine r_ifc (len := 3) (a := 66) (b := 0) (v0 := .null) (cn := .ne) (off := 19) rfl (fun c => ?_) (fun c => ?_)
        · rw [if_pos c] at h
          exact T107_9_66 H he F _ ih l0 l1 l2 h
        · rw [if_neg (by rw [c]; decide)] at h
          refine q_lr (k := 1) (i := 0) (q := (.aload_n 0, 1, 0, 0, .null)) rfl (fun _ => rfl) l0 ?_
          refine q_li (k := 1) (i := 2) (q := (.iload_n 2, 1, 0, 0, .null)) rfl (fun _ => rfl) l2 ?_
          obtain ⟨q52, h52, h⟩ := xbind h
          refine r_call (ix := 9) (as := [.int v2]) (rest := []) (rv := some (.int q52.1)) (hp' := xW B q52.2) (pc := 52) rfl xr99 rfl rfl rfl (xkd H (by decide)) (Nat.le_of_ble_eq_true rfl) (Z99_9 H h52 (by omega)) (Nat.le_refl _) ?_
          refine q_lr (k := 1) (i := 0) (q := (.aload_n 0, 1, 0, 0, .null)) rfl (fun _ => rfl) l0 ?_
          refine q_li (k := 1) (i := 1) (q := (.iload_n 1, 1, 0, 0, .null)) rfl (fun _ => rfl) l1 ?_
          refine r_s (fr' := (58, lv, [.int 2, .int v1, .ref 9, .int q52.1])) (hp' := xW B q52.2) (q := (.iconst 2, 1, 0, 0, .null)) rfl (fun _ => rfl) (Nat.le_refl _) ?_
          obtain ⟨q58, h58, h⟩ := xbind h
          refine r_call (ix := 9) (as := [.int v1, .int 2]) (rest := [.int q52.1]) (rv := some (.int q58.1)) (hp' := xW B q58.2) (pc := 58) rfl xr89 rfl rfl rfl (xkd H (by decide)) (Nat.le_of_ble_eq_true rfl) (Z89_9 H h58 (by omega)) (Nat.le_refl _) ?_
          refine r_ifc (len := 3) (a := 66) (b := 0) (v0 := .null) (cn := .lt) (off := 5) rfl (fun c => ?_) (fun c => ?_)
          · rw [if_pos c] at h
            exact T107_9_66 H he F _ ih l0 l1 l2 h
          · rw [if_neg (by rw [c]; decide)] at h
            refine r_s (fr' := (65, lv, [.int 1])) (hp' := xW B q58.2) (q := (.iconst 1, 1, 0, 0, .null)) rfl (fun _ => rfl) (Nat.le_refl _) ?_
            obtain rfl := Option.some.inj h
            exact q_ri (q := (.ireturn, 1, 0, 0, .null)) rfl (fun _ => rfl) rfl rfl
def D107_9 (F : Nat) (v1 : Int32) (m : xS) : Option (Int32 × xS) :=
  (D106_9 F v1 m).bind fun q2 =>
    if zcmp .eq q2.1 0 = true then
      D107_9_12 F F v1 0 q2.2
    else
      some (0, q2.2)
set_option maxRecDepth 20000 in
theorem T107_9 {B : zHp} (H : yH0 B) {e : Nat} (he : 5 ≤ e + 1) (F : Nat) {v1 : Int32} {lv : List (Nat × Value)} {m : xS} {x : Int32 × xS} (l0 : zld lv 0 = some (.ref 9)) (l1 : zld lv 1 = some (.int v1)) (h : D107_9 F v1 m = some x) : zR none e 3 (some .boolean) zc107 (0, lv, []) (xW B m) (some (.int x.1), xW B x.2) := by
  unfold D107_9 at h
  refine q_lr (k := 1) (i := 0) (q := (.aload_n 0, 1, 0, 0, .null)) rfl (fun _ => rfl) l0 ?_
  refine q_li (k := 1) (i := 1) (q := (.iload_n 1, 1, 0, 0, .null)) rfl (fun _ => rfl) l1 ?_
  obtain ⟨q2, h2, h⟩ := xbind h
  refine r_call (ix := 9) (as := [.int v1]) (rest := []) (rv := some (.int q2.1)) (hp' := xW B q2.2) (pc := 2) rfl xr106 rfl rfl rfl (xkd H (by decide)) (Nat.le_of_ble_eq_true rfl) (Z106_9 H h2 (by omega)) (Nat.le_refl _) ?_
  refine r_if (len := 3) (a := 10) (b := 0) (v0 := .null) (cn := .eq) (off := 5) rfl (fun c => ?_) (fun c => ?_)
  · rw [if_pos c] at h
    refine r_s (fr' := (11, lv, [.int 0])) (hp' := xW B q2.2) (q := (.iconst 0, 1, 0, 0, .null)) rfl (fun _ => rfl) (Nat.le_refl _) ?_
    refine q_si (k := 1) (i := 2) (q := (.istore_n 2, 1, 0, 0, .null)) rfl (fun _ => rfl) (by decide) ?_
    have l0_1 : zld (zs1 lv 2 (.int 0)) 0 = some (.ref 9) := x_o1 l0 rfl rfl
    have l1_1 : zld (zs1 lv 2 (.int 0)) 1 = some (.int v1) := x_o1 l1 rfl rfl
    have l2_1 : zld (zs1 lv 2 (.int 0)) 2 = some (.int 0) := zs1_ld _ _ _
    generalize (zs1 lv 2 (.int 0)) = lv1 at *
    exact T107_9_12 H he F F l0_1 l1_1 l2_1 h
  · rw [if_neg (by rw [c]; decide)] at h
    refine r_s (fr' := (9, lv, [.int 0])) (hp' := xW B q2.2) (q := (.iconst 0, 1, 0, 0, .null)) rfl (fun _ => rfl) (Nat.le_refl _) ?_
    obtain rfl := Option.some.inj h
    exact q_ri (q := (.ireturn, 1, 0, 0, .null)) rfl (fun _ => rfl) rfl rfl
set_option maxRecDepth 20000 in
theorem Z107_9 {B : zHp} (H : yH0 B) {F : Nat} {a1 : Int32} {m : xS} {x : Int32 × xS} (h : D107_9 F a1 m = some x) {d : Nat} (hd : 5 ≤ d) : zCan d 107 [.ref 9, .int a1] (xW B m) (some (.int x.1), xW B x.2) := by
  obtain ⟨e, rfl⟩ : ∃ e, d = e + 1 := ⟨d - 1, by omega⟩
  refine zCan_body (nL := 3) (rt := (some .boolean)) (cd := zc107) (xg107) ⟨Nat.le_of_ble_eq_true rfl, by decide⟩ (Nat.le_refl _) ?_
  exact T107_9 H hd F rfl rfl h
/-- LentTools.work -/
def D129_0_20 (F : Nat) (v1 : Int32) (v2 : Int32) (m : xS) : Option (Int32 × xS) :=
  some ((-2), m)
set_option maxRecDepth 20000 in
theorem T129_0_20 {B : zHp} (H : yH0 B) {e : Nat} (he : 6 ≤ e + 1) (F : Nat) {v1 : Int32} {v2 : Int32} {lv : List (Nat × Value)} {m : xS} {x : Int32 × xS} (l0 : zld lv 0 = some (.ref 0)) (l1 : zld lv 1 = some (.int v1)) (l2 : zld lv 2 = some (.int v2)) (h : D129_0_20 F v1 v2 m = some x) : zR none e 3 (some .int) zc129 (20, lv, []) (xW B m) (some (.int x.1), xW B x.2) := by
  unfold D129_0_20 at h
  refine r_s (fr' := (22, lv, [.int (-2)])) (hp' := xW B m) (q := (.bipush (-2), 2, 0, 0, .null)) rfl (fun _ => rfl) (Nat.le_refl _) ?_
  obtain rfl := Option.some.inj h
  exact q_ri (q := (.ireturn, 1, 0, 0, .null)) rfl (fun _ => rfl) rfl rfl
def D129_0 (F : Nat) (v1 : Int32) (v2 : Int32) (m : xS) : Option (Int32 × xS) :=
  (D84_9 F v1 m).bind fun q5 =>
    if zcmp .eq q5.1 0 = true then
      D129_0_20 F v1 v2 q5.2
    else
      if zcmp .lt v2 0 = true then
        D129_0_20 F v1 v2 q5.2
      else
        if zcmp .le v2 5 = true then
          if zcmp .ne v2 5 = true then
            (D89_9 F v1 v2 q5.2).bind fun q51 =>
              some (q51.1, q51.2)
          else
            (D107_9 F v1 q5.2).bind fun q33 =>
              if zcmp .eq q33.1 0 = true then
                some (0, q33.2)
              else
                some (1, q33.2)
        else
          D129_0_20 F v1 v2 q5.2
set_option maxRecDepth 20000 in
theorem T129_0 {B : zHp} (H : yH0 B) {e : Nat} (he : 6 ≤ e + 1) (F : Nat) {v1 : Int32} {v2 : Int32} {lv : List (Nat × Value)} {m : xS} {x : Int32 × xS} (l0 : zld lv 0 = some (.ref 0)) (l1 : zld lv 1 = some (.int v1)) (l2 : zld lv 2 = some (.int v2)) (h : D129_0 F v1 v2 m = some x) : zR none e 3 (some .int) zc129 (0, lv, []) (xW B m) (some (.int x.1), xW B x.2) := by
  unfold D129_0 at h
  refine q_lr (k := 1) (i := 0) (q := (.aload_n 0, 1, 0, 0, .null)) rfl (fun _ => rfl) l0 ?_
  refine r_gr (c := 9) H (pc := 1) rfl (by decide) (by decide) ?_
  refine q_li (k := 1) (i := 1) (q := (.iload_n 1, 1, 0, 0, .null)) rfl (fun _ => rfl) l1 ?_
  obtain ⟨q5, h5, h⟩ := xbind h
  refine r_call (ix := 9) (as := [.int v1]) (rest := []) (rv := some (.int q5.1)) (hp' := xW B q5.2) (pc := 5) rfl xr84 rfl rfl rfl (xkd H (by decide)) (Nat.le_of_ble_eq_true rfl) (Z84_9 H h5 (by omega)) (Nat.le_refl _) ?_
  refine r_if (len := 3) (a := 20) (b := 0) (v0 := .null) (cn := .eq) (off := 12) rfl (fun c => ?_) (fun c => ?_)
  · rw [if_pos c] at h
    exact T129_0_20 H he F l0 l1 l2 h
  · rw [if_neg (by rw [c]; decide)] at h
    refine q_li (k := 1) (i := 2) (q := (.iload_n 2, 1, 0, 0, .null)) rfl (fun _ => rfl) l2 ?_
    refine r_if (len := 3) (a := 20) (b := 0) (v0 := .null) (cn := .lt) (off := 8) rfl (fun c => ?_) (fun c => ?_)
    · rw [if_pos c] at h
      exact T129_0_20 H he F l0 l1 l2 h
    · rw [if_neg (by rw [c]; decide)] at h
      refine q_li (k := 1) (i := 2) (q := (.iload_n 2, 1, 0, 0, .null)) rfl (fun _ => rfl) l2 ?_
      refine r_s (fr' := (17, lv, [.int 5, .int v2])) (hp' := xW B q5.2) (q := (.iconst 5, 1, 0, 0, .null)) rfl (fun _ => rfl) (Nat.le_refl _) ?_
      refine r_ifc (len := 3) (a := 23) (b := 0) (v0 := .null) (cn := .le) (off := 6) rfl (fun c => ?_) (fun c => ?_)
      · rw [if_pos c] at h
        refine q_li (k := 1) (i := 2) (q := (.iload_n 2, 1, 0, 0, .null)) rfl (fun _ => rfl) l2 ?_
        refine r_s (fr' := (25, lv, [.int 5, .int v2])) (hp' := xW B q5.2) (q := (.iconst 5, 1, 0, 0, .null)) rfl (fun _ => rfl) (Nat.le_refl _) ?_
        refine r_ifc (len := 3) (a := 45) (b := 0) (v0 := .null) (cn := .ne) (off := 20) rfl (fun c => ?_) (fun c => ?_)
        · rw [if_pos c] at h
          refine q_lr (k := 1) (i := 0) (q := (.aload_n 0, 1, 0, 0, .null)) rfl (fun _ => rfl) l0 ?_
          refine r_gr (c := 9) H (pc := 46) rfl (by decide) (by decide) ?_
          refine q_li (k := 1) (i := 1) (q := (.iload_n 1, 1, 0, 0, .null)) rfl (fun _ => rfl) l1 ?_
          refine q_li (k := 1) (i := 2) (q := (.iload_n 2, 1, 0, 0, .null)) rfl (fun _ => rfl) l2 ?_
          obtain ⟨q51, h51, h⟩ := xbind h
          refine r_call (ix := 9) (as := [.int v1, .int v2]) (rest := []) (rv := some (.int q51.1)) (hp' := xW B q51.2) (pc := 51) rfl xr89 rfl rfl rfl (xkd H (by decide)) (Nat.le_of_ble_eq_true rfl) (Z89_9 H h51 (by omega)) (Nat.le_refl _) ?_
          obtain rfl := Option.some.inj h
          exact q_ri (q := (.ireturn, 1, 0, 0, .null)) rfl (fun _ => rfl) rfl rfl
        · rw [if_neg (by rw [c]; decide)] at h
          refine q_lr (k := 1) (i := 0) (q := (.aload_n 0, 1, 0, 0, .null)) rfl (fun _ => rfl) l0 ?_
          refine r_gr (c := 9) H (pc := 29) rfl (by decide) (by decide) ?_
          refine q_li (k := 1) (i := 1) (q := (.iload_n 1, 1, 0, 0, .null)) rfl (fun _ => rfl) l1 ?_
          obtain ⟨q33, h33, h⟩ := xbind h
          refine r_call (ix := 9) (as := [.int v1]) (rest := []) (rv := some (.int q33.1)) (hp' := xW B q33.2) (pc := 33) rfl xr107 rfl rfl rfl (xkd H (by decide)) (Nat.le_of_ble_eq_true rfl) (Z107_9 H h33 (by omega)) (Nat.le_refl _) ?_
          refine r_if (len := 3) (a := 43) (b := 0) (v0 := .null) (cn := .eq) (off := 7) rfl (fun c => ?_) (fun c => ?_)
          · rw [if_pos c] at h
            refine r_s (fr' := (44, lv, [.int 0])) (hp' := xW B q33.2) (q := (.iconst 0, 1, 0, 0, .null)) rfl (fun _ => rfl) (Nat.le_refl _) ?_
            obtain rfl := Option.some.inj h
            exact q_ri (q := (.ireturn, 1, 0, 0, .null)) rfl (fun _ => rfl) rfl rfl
          · rw [if_neg (by rw [c]; decide)] at h
            refine r_s (fr' := (40, lv, [.int 1])) (hp' := xW B q33.2) (q := (.iconst 1, 1, 0, 0, .null)) rfl (fun _ => rfl) (Nat.le_refl _) ?_
            refine r_s (fr' := (44, lv, [.int 1])) (hp' := xW B q33.2) (q := (.goto 4, 3, 44, 0, .null)) rfl (fun _ => rfl) (Nat.le_refl _) ?_
            obtain rfl := Option.some.inj h
            exact q_ri (q := (.ireturn, 1, 0, 0, .null)) rfl (fun _ => rfl) rfl rfl
      · rw [if_neg (by rw [c]; decide)] at h
        exact T129_0_20 H he F l0 l1 l2 h
set_option maxRecDepth 20000 in
theorem Z129_0 {B : zHp} (H : yH0 B) {F : Nat} {a1 : Int32} {a2 : Int32} {m : xS} {x : Int32 × xS} (h : D129_0 F a1 a2 m = some x) {d : Nat} (hd : 6 ≤ d) : zCan d 129 [.ref 0, .int a1, .int a2] (xW B m) (some (.int x.1), xW B x.2) := by
  obtain ⟨e, rfl⟩ : ∃ e, d = e + 1 := ⟨d - 1, by omega⟩
  refine zCan_body (nL := 3) (rt := (some .int)) (cd := zc129) (xg129) ⟨Nat.le_of_ble_eq_true rfl, by decide⟩ (Nat.le_refl _) ?_
  exact T129_0 H hd F rfl rfl rfl h
/-- LentTools$Village.houses -/
def D77_9 (F : Nat) (m : xS) : Option (Int32 × xS) :=
  some ((m.1 10 0), m)
set_option maxRecDepth 20000 in
theorem T77_9 {B : zHp} (H : yH0 B) {e : Nat} (he : 1 ≤ e + 1) (F : Nat) {lv : List (Nat × Value)} {m : xS} {x : Int32 × xS} (l0 : zld lv 0 = some (.ref 9)) (h : D77_9 F m = some x) : zR none e 1 (some .int) zc77 (0, lv, []) (xW B m) (some (.int x.1), xW B x.2) := by
  unfold D77_9 at h
  refine q_lr (k := 1) (i := 0) (q := (.aload_n 0, 1, 0, 0, .null)) rfl (fun _ => rfl) l0 ?_
  refine r_gr (c := 10) H (pc := 1) rfl (by decide) (by decide) ?_
  refine r_s (fr' := (5, lv, [.int 0, .ref 10])) (hp' := xW B m) (q := (.iconst 0, 1, 0, 0, .null)) rfl (fun _ => rfl) (Nat.le_refl _) ?_
  refine q_al (n := 114) (v := (m.1 10 0)) H (pc := 5) rfl (by decide) (by decide) rfl ?_
  obtain rfl := Option.some.inj h
  exact q_ri (q := (.ireturn, 1, 0, 0, .null)) rfl (fun _ => rfl) rfl rfl
set_option maxRecDepth 20000 in
theorem Z77_9 {B : zHp} (H : yH0 B) {F : Nat} {m : xS} {x : Int32 × xS} (h : D77_9 F m = some x) {d : Nat} (hd : 1 ≤ d) : zCan d 77 [.ref 9] (xW B m) (some (.int x.1), xW B x.2) := by
  obtain ⟨e, rfl⟩ : ∃ e, d = e + 1 := ⟨d - 1, by omega⟩
  refine zCan_body (nL := 1) (rt := (some .int)) (cd := zc77) (xg77) ⟨Nat.le_of_ble_eq_true rfl, by decide⟩ (Nat.le_refl _) ?_
  exact T77_9 H hd F rfl h
/-- LentTools$Village.hasHouse -/
def D85_9_16 (F : Nat) (v1 : Int32) (m : xS) : Option (Int32 × xS) :=
  some (0, m)
set_option maxRecDepth 20000 in
theorem T85_9_16 {B : zHp} (H : yH0 B) {e : Nat} (he : 2 ≤ e + 1) (F : Nat) {v1 : Int32} {lv : List (Nat × Value)} {m : xS} {x : Int32 × xS} (l0 : zld lv 0 = some (.ref 9)) (l1 : zld lv 1 = some (.int v1)) (h : D85_9_16 F v1 m = some x) : zR none e 2 (some .boolean) zc85 (16, lv, []) (xW B m) (some (.int x.1), xW B x.2) := by
  unfold D85_9_16 at h
  refine r_s (fr' := (17, lv, [.int 0])) (hp' := xW B m) (q := (.iconst 0, 1, 0, 0, .null)) rfl (fun _ => rfl) (Nat.le_refl _) ?_
  obtain rfl := Option.some.inj h
  exact q_ri (q := (.ireturn, 1, 0, 0, .null)) rfl (fun _ => rfl) rfl rfl
def D85_9 (F : Nat) (v1 : Int32) (m : xS) : Option (Int32 × xS) :=
  if zcmp .lt v1 0 = true then
    D85_9_16 F v1 m
  else
    (D77_9 F m).bind fun q6 =>
      if zcmp .ge v1 q6.1 = true then
        D85_9_16 F v1 q6.2
      else
        some (1, q6.2)
set_option maxRecDepth 20000 in
theorem T85_9 {B : zHp} (H : yH0 B) {e : Nat} (he : 2 ≤ e + 1) (F : Nat) {v1 : Int32} {lv : List (Nat × Value)} {m : xS} {x : Int32 × xS} (l0 : zld lv 0 = some (.ref 9)) (l1 : zld lv 1 = some (.int v1)) (h : D85_9 F v1 m = some x) : zR none e 2 (some .boolean) zc85 (0, lv, []) (xW B m) (some (.int x.1), xW B x.2) := by
  unfold D85_9 at h
  refine q_li (k := 1) (i := 1) (q := (.iload_n 1, 1, 0, 0, .null)) rfl (fun _ => rfl) l1 ?_
  refine r_if (len := 3) (a := 16) (b := 0) (v0 := .null) (cn := .lt) (off := 15) rfl (fun c => ?_) (fun c => ?_)
  · rw [if_pos c] at h
    exact T85_9_16 H he F l0 l1 h
  · rw [if_neg (by rw [c]; decide)] at h
    refine q_li (k := 1) (i := 1) (q := (.iload_n 1, 1, 0, 0, .null)) rfl (fun _ => rfl) l1 ?_
    refine q_lr (k := 1) (i := 0) (q := (.aload_n 0, 1, 0, 0, .null)) rfl (fun _ => rfl) l0 ?_
    obtain ⟨q6, h6, h⟩ := xbind h
    refine r_call (ix := 9) (as := []) (rest := [.int v1]) (rv := some (.int q6.1)) (hp' := xW B q6.2) (pc := 6) rfl xr77 rfl rfl rfl (xkd H (by decide)) (Nat.le_of_ble_eq_true rfl) (Z77_9 H h6 (by omega)) (Nat.le_refl _) ?_
    refine r_ifc (len := 3) (a := 16) (b := 0) (v0 := .null) (cn := .ge) (off := 7) rfl (fun c => ?_) (fun c => ?_)
    · rw [if_pos c] at h
      exact T85_9_16 H he F l0 l1 h
    · rw [if_neg (by rw [c]; decide)] at h
      refine r_s (fr' := (13, lv, [.int 1])) (hp' := xW B q6.2) (q := (.iconst 1, 1, 0, 0, .null)) rfl (fun _ => rfl) (Nat.le_refl _) ?_
      refine r_s (fr' := (17, lv, [.int 1])) (hp' := xW B q6.2) (q := (.goto 4, 3, 17, 0, .null)) rfl (fun _ => rfl) (Nat.le_refl _) ?_
      obtain rfl := Option.some.inj h
      exact q_ri (q := (.ireturn, 1, 0, 0, .null)) rfl (fun _ => rfl) rfl rfl
set_option maxRecDepth 20000 in
theorem Z85_9 {B : zHp} (H : yH0 B) {F : Nat} {a1 : Int32} {m : xS} {x : Int32 × xS} (h : D85_9 F a1 m = some x) {d : Nat} (hd : 2 ≤ d) : zCan d 85 [.ref 9, .int a1] (xW B m) (some (.int x.1), xW B x.2) := by
  obtain ⟨e, rfl⟩ : ∃ e, d = e + 1 := ⟨d - 1, by omega⟩
  refine zCan_body (nL := 2) (rt := (some .boolean)) (cd := zc85) (xg85) ⟨Nat.le_of_ble_eq_true rfl, by decide⟩ (Nat.le_refl _) ?_
  exact T85_9 H hd F rfl rfl h
/-- LentTools$Village.areTwoHouses -/
def D86_9_25 (F : Nat) (v1 : Int32) (v2 : Int32) (m : xS) : Option (Int32 × xS) :=
  some (0, m)
set_option maxRecDepth 20000 in
theorem T86_9_25 {B : zHp} (H : yH0 B) {e : Nat} (he : 3 ≤ e + 1) (F : Nat) {v1 : Int32} {v2 : Int32} {lv : List (Nat × Value)} {m : xS} {x : Int32 × xS} (l0 : zld lv 0 = some (.ref 9)) (l1 : zld lv 1 = some (.int v1)) (l2 : zld lv 2 = some (.int v2)) (h : D86_9_25 F v1 v2 m = some x) : zR none e 3 (some .boolean) zc86 (25, lv, []) (xW B m) (some (.int x.1), xW B x.2) := by
  unfold D86_9_25 at h
  refine r_s (fr' := (26, lv, [.int 0])) (hp' := xW B m) (q := (.iconst 0, 1, 0, 0, .null)) rfl (fun _ => rfl) (Nat.le_refl _) ?_
  obtain rfl := Option.some.inj h
  exact q_ri (q := (.ireturn, 1, 0, 0, .null)) rfl (fun _ => rfl) rfl rfl
def D86_9 (F : Nat) (v1 : Int32) (v2 : Int32) (m : xS) : Option (Int32 × xS) :=
  (D85_9 F v1 m).bind fun q2 =>
    if zcmp .eq q2.1 0 = true then
      D86_9_25 F v1 v2 q2.2
    else
      (D85_9 F v2 q2.2).bind fun q10 =>
        if zcmp .eq q10.1 0 = true then
          D86_9_25 F v1 v2 q10.2
        else
          if zcmp .eq v1 v2 = true then
            D86_9_25 F v1 v2 q10.2
          else
            some (1, q10.2)
set_option maxRecDepth 20000 in
theorem T86_9 {B : zHp} (H : yH0 B) {e : Nat} (he : 3 ≤ e + 1) (F : Nat) {v1 : Int32} {v2 : Int32} {lv : List (Nat × Value)} {m : xS} {x : Int32 × xS} (l0 : zld lv 0 = some (.ref 9)) (l1 : zld lv 1 = some (.int v1)) (l2 : zld lv 2 = some (.int v2)) (h : D86_9 F v1 v2 m = some x) : zR none e 3 (some .boolean) zc86 (0, lv, []) (xW B m) (some (.int x.1), xW B x.2) := by
  unfold D86_9 at h
  refine q_lr (k := 1) (i := 0) (q := (.aload_n 0, 1, 0, 0, .null)) rfl (fun _ => rfl) l0 ?_
  refine q_li (k := 1) (i := 1) (q := (.iload_n 1, 1, 0, 0, .null)) rfl (fun _ => rfl) l1 ?_
  obtain ⟨q2, h2, h⟩ := xbind h
  refine r_call (ix := 9) (as := [.int v1]) (rest := []) (rv := some (.int q2.1)) (hp' := xW B q2.2) (pc := 2) rfl xr85 rfl rfl rfl (xkd H (by decide)) (Nat.le_of_ble_eq_true rfl) (Z85_9 H h2 (by omega)) (Nat.le_refl _) ?_
  refine r_if (len := 3) (a := 25) (b := 0) (v0 := .null) (cn := .eq) (off := 20) rfl (fun c => ?_) (fun c => ?_)
  · rw [if_pos c] at h
    exact T86_9_25 H he F l0 l1 l2 h
  · rw [if_neg (by rw [c]; decide)] at h
    refine q_lr (k := 1) (i := 0) (q := (.aload_n 0, 1, 0, 0, .null)) rfl (fun _ => rfl) l0 ?_
    refine q_li (k := 1) (i := 2) (q := (.iload_n 2, 1, 0, 0, .null)) rfl (fun _ => rfl) l2 ?_
    obtain ⟨q10, h10, h⟩ := xbind h
    refine r_call (ix := 9) (as := [.int v2]) (rest := []) (rv := some (.int q10.1)) (hp' := xW B q10.2) (pc := 10) rfl xr85 rfl rfl rfl (xkd H (by decide)) (Nat.le_of_ble_eq_true rfl) (Z85_9 H h10 (by omega)) (Nat.le_refl _) ?_
    refine r_if (len := 3) (a := 25) (b := 0) (v0 := .null) (cn := .eq) (off := 12) rfl (fun c => ?_) (fun c => ?_)
    · rw [if_pos c] at h
      exact T86_9_25 H he F l0 l1 l2 h
    · rw [if_neg (by rw [c]; decide)] at h
      refine q_li (k := 1) (i := 1) (q := (.iload_n 1, 1, 0, 0, .null)) rfl (fun _ => rfl) l1 ?_
      refine q_li (k := 1) (i := 2) (q := (.iload_n 2, 1, 0, 0, .null)) rfl (fun _ => rfl) l2 ?_
      refine r_ifc (len := 3) (a := 25) (b := 0) (v0 := .null) (cn := .eq) (off := 7) rfl (fun c => ?_) (fun c => ?_)
      · rw [if_pos c] at h
        exact T86_9_25 H he F l0 l1 l2 h
      · rw [if_neg (by rw [c]; decide)] at h
        refine r_s (fr' := (22, lv, [.int 1])) (hp' := xW B q10.2) (q := (.iconst 1, 1, 0, 0, .null)) rfl (fun _ => rfl) (Nat.le_refl _) ?_
        refine r_s (fr' := (26, lv, [.int 1])) (hp' := xW B q10.2) (q := (.goto 4, 3, 26, 0, .null)) rfl (fun _ => rfl) (Nat.le_refl _) ?_
        obtain rfl := Option.some.inj h
        exact q_ri (q := (.ireturn, 1, 0, 0, .null)) rfl (fun _ => rfl) rfl rfl
set_option maxRecDepth 20000 in
theorem Z86_9 {B : zHp} (H : yH0 B) {F : Nat} {a1 : Int32} {a2 : Int32} {m : xS} {x : Int32 × xS} (h : D86_9 F a1 a2 m = some x) {d : Nat} (hd : 3 ≤ d) : zCan d 86 [.ref 9, .int a1, .int a2] (xW B m) (some (.int x.1), xW B x.2) := by
  obtain ⟨e, rfl⟩ : ∃ e, d = e + 1 := ⟨d - 1, by omega⟩
  refine zCan_body (nL := 3) (rt := (some .boolean)) (cd := zc86) (xg86) ⟨Nat.le_of_ble_eq_true rfl, by decide⟩ (Nat.le_refl _) ?_
  exact T86_9 H hd F rfl rfl rfl h
/-- LentTools$Village.trustedBy -/
def D91_9 (F : Nat) (v1 : Int32) (m : xS) : Option (Int32 × xS) :=
  if xib (72 + v1) 114 = true then
    some ((m.1 10 ((72 + v1) : Int32).toNatClampNeg), m)
  else none
set_option maxRecDepth 20000 in
theorem T91_9 {B : zHp} (H : yH0 B) {e : Nat} (he : 1 ≤ e + 1) (F : Nat) {v1 : Int32} {lv : List (Nat × Value)} {m : xS} {x : Int32 × xS} (l0 : zld lv 0 = some (.ref 9)) (l1 : zld lv 1 = some (.int v1)) (h : D91_9 F v1 m = some x) : zR none e 2 (some .int) zc91 (0, lv, []) (xW B m) (some (.int x.1), xW B x.2) := by
  unfold D91_9 at h
  refine q_lr (k := 1) (i := 0) (q := (.aload_n 0, 1, 0, 0, .null)) rfl (fun _ => rfl) l0 ?_
  refine r_gr (c := 10) H (pc := 1) rfl (by decide) (by decide) ?_
  refine r_s (fr' := (6, lv, [.int 72, .ref 10])) (hp' := xW B m) (q := (.bipush 72, 2, 0, 0, .null)) rfl (fun _ => rfl) (Nat.le_refl _) ?_
  refine q_li (k := 1) (i := 1) (q := (.iload_n 1, 1, 0, 0, .null)) rfl (fun _ => rfl) l1 ?_
  refine r_s (fr' := (8, lv, [.int (72 + v1), .ref 10])) (hp' := xW B m) (q := (.iadd, 1, 0, 0, .null)) rfl (fun _ => rfl) (Nat.le_refl _) ?_
  obtain ⟨c1, h⟩ := xif h
  refine q_al (n := 114) (v := (m.1 10 ((72 + v1) : Int32).toNatClampNeg)) H (pc := 8) rfl (by decide) c1 rfl ?_
  obtain rfl := Option.some.inj h
  exact q_ri (q := (.ireturn, 1, 0, 0, .null)) rfl (fun _ => rfl) rfl rfl
set_option maxRecDepth 20000 in
theorem Z91_9 {B : zHp} (H : yH0 B) {F : Nat} {a1 : Int32} {m : xS} {x : Int32 × xS} (h : D91_9 F a1 m = some x) {d : Nat} (hd : 1 ≤ d) : zCan d 91 [.ref 9, .int a1] (xW B m) (some (.int x.1), xW B x.2) := by
  obtain ⟨e, rfl⟩ : ∃ e, d = e + 1 := ⟨d - 1, by omega⟩
  refine zCan_body (nL := 2) (rt := (some .int)) (cd := zc91) (xg91) ⟨Nat.le_of_ble_eq_true rfl, by decide⟩ (Nat.le_refl _) ?_
  exact T91_9 H hd F rfl rfl h
/-- LentTools$Village.trusts -/
def D92_9 (F : Nat) (v1 : Int32) (v2 : Int32) (m : xS) : Option (Int32 × xS) :=
  (D91_9 F v1 m).bind fun q2 =>
    if zcmp .eq ((q2.1 >>> (v2 &&& 31)) &&& 1) 0 = true then
      some (0, q2.2)
    else
      some (1, q2.2)
set_option maxRecDepth 20000 in
theorem T92_9 {B : zHp} (H : yH0 B) {e : Nat} (he : 2 ≤ e + 1) (F : Nat) {v1 : Int32} {v2 : Int32} {lv : List (Nat × Value)} {m : xS} {x : Int32 × xS} (l0 : zld lv 0 = some (.ref 9)) (l1 : zld lv 1 = some (.int v1)) (l2 : zld lv 2 = some (.int v2)) (h : D92_9 F v1 v2 m = some x) : zR none e 3 (some .boolean) zc92 (0, lv, []) (xW B m) (some (.int x.1), xW B x.2) := by
  unfold D92_9 at h
  refine q_lr (k := 1) (i := 0) (q := (.aload_n 0, 1, 0, 0, .null)) rfl (fun _ => rfl) l0 ?_
  refine q_li (k := 1) (i := 1) (q := (.iload_n 1, 1, 0, 0, .null)) rfl (fun _ => rfl) l1 ?_
  obtain ⟨q2, h2, h⟩ := xbind h
  refine r_call (ix := 9) (as := [.int v1]) (rest := []) (rv := some (.int q2.1)) (hp' := xW B q2.2) (pc := 2) rfl xr91 rfl rfl rfl (xkd H (by decide)) (Nat.le_of_ble_eq_true rfl) (Z91_9 H h2 (by omega)) (Nat.le_refl _) ?_
  refine q_li (k := 1) (i := 2) (q := (.iload_n 2, 1, 0, 0, .null)) rfl (fun _ => rfl) l2 ?_
  refine r_s (fr' := (7, lv, [.int (q2.1 >>> (v2 &&& 31))])) (hp' := xW B q2.2) (q := (.ishr, 1, 0, 0, .null)) rfl (fun _ => rfl) (Nat.le_refl _) ?_
  refine r_s (fr' := (8, lv, [.int 1, .int (q2.1 >>> (v2 &&& 31))])) (hp' := xW B q2.2) (q := (.iconst 1, 1, 0, 0, .null)) rfl (fun _ => rfl) (Nat.le_refl _) ?_
  refine r_s (fr' := (9, lv, [.int ((q2.1 >>> (v2 &&& 31)) &&& 1)])) (hp' := xW B q2.2) (q := (.iand, 1, 0, 0, .null)) rfl (fun _ => rfl) (Nat.le_refl _) ?_
  refine r_if (len := 3) (a := 16) (b := 0) (v0 := .null) (cn := .eq) (off := 7) rfl (fun c => ?_) (fun c => ?_)
  · rw [if_pos c] at h
    refine r_s (fr' := (17, lv, [.int 0])) (hp' := xW B q2.2) (q := (.iconst 0, 1, 0, 0, .null)) rfl (fun _ => rfl) (Nat.le_refl _) ?_
    obtain rfl := Option.some.inj h
    exact q_ri (q := (.ireturn, 1, 0, 0, .null)) rfl (fun _ => rfl) rfl rfl
  · rw [if_neg (by rw [c]; decide)] at h
    refine r_s (fr' := (13, lv, [.int 1])) (hp' := xW B q2.2) (q := (.iconst 1, 1, 0, 0, .null)) rfl (fun _ => rfl) (Nat.le_refl _) ?_
    refine r_s (fr' := (17, lv, [.int 1])) (hp' := xW B q2.2) (q := (.goto 4, 3, 17, 0, .null)) rfl (fun _ => rfl) (Nat.le_refl _) ?_
    obtain rfl := Option.some.inj h
    exact q_ri (q := (.ireturn, 1, 0, 0, .null)) rfl (fun _ => rfl) rfl rfl
set_option maxRecDepth 20000 in
theorem Z92_9 {B : zHp} (H : yH0 B) {F : Nat} {a1 : Int32} {a2 : Int32} {m : xS} {x : Int32 × xS} (h : D92_9 F a1 a2 m = some x) {d : Nat} (hd : 2 ≤ d) : zCan d 92 [.ref 9, .int a1, .int a2] (xW B m) (some (.int x.1), xW B x.2) := by
  obtain ⟨e, rfl⟩ : ∃ e, d = e + 1 := ⟨d - 1, by omega⟩
  refine zCan_body (nL := 3) (rt := (some .boolean)) (cd := zc92) (xg92) ⟨Nat.le_of_ble_eq_true rfl, by decide⟩ (Nat.le_refl _) ?_
  exact T92_9 H hd F rfl rfl rfl h
/-- LentTools$Village.owes -/
def D94_9 (F : Nat) (v1 : Int32) (v2 : Int32) (m : xS) : Option (Int32 × xS) :=
  if xib ((78 + (6 * v1)) + v2) 114 = true then
    some ((m.1 10 (((78 + (6 * v1)) + v2) : Int32).toNatClampNeg), m)
  else none
set_option maxRecDepth 20000 in
theorem T94_9 {B : zHp} (H : yH0 B) {e : Nat} (he : 1 ≤ e + 1) (F : Nat) {v1 : Int32} {v2 : Int32} {lv : List (Nat × Value)} {m : xS} {x : Int32 × xS} (l0 : zld lv 0 = some (.ref 9)) (l1 : zld lv 1 = some (.int v1)) (l2 : zld lv 2 = some (.int v2)) (h : D94_9 F v1 v2 m = some x) : zR none e 3 (some .int) zc94 (0, lv, []) (xW B m) (some (.int x.1), xW B x.2) := by
  unfold D94_9 at h
  refine q_lr (k := 1) (i := 0) (q := (.aload_n 0, 1, 0, 0, .null)) rfl (fun _ => rfl) l0 ?_
  refine r_gr (c := 10) H (pc := 1) rfl (by decide) (by decide) ?_
  refine r_s (fr' := (6, lv, [.int 78, .ref 10])) (hp' := xW B m) (q := (.bipush 78, 2, 0, 0, .null)) rfl (fun _ => rfl) (Nat.le_refl _) ?_
  refine r_s (fr' := (8, lv, [.int 6, .int 78, .ref 10])) (hp' := xW B m) (q := (.bipush 6, 2, 0, 0, .null)) rfl (fun _ => rfl) (Nat.le_refl _) ?_
  refine q_li (k := 1) (i := 1) (q := (.iload_n 1, 1, 0, 0, .null)) rfl (fun _ => rfl) l1 ?_
  refine r_s (fr' := (10, lv, [.int (6 * v1), .int 78, .ref 10])) (hp' := xW B m) (q := (.imul, 1, 0, 0, .null)) rfl (fun _ => rfl) (Nat.le_refl _) ?_
  refine r_s (fr' := (11, lv, [.int (78 + (6 * v1)), .ref 10])) (hp' := xW B m) (q := (.iadd, 1, 0, 0, .null)) rfl (fun _ => rfl) (Nat.le_refl _) ?_
  refine q_li (k := 1) (i := 2) (q := (.iload_n 2, 1, 0, 0, .null)) rfl (fun _ => rfl) l2 ?_
  refine r_s (fr' := (13, lv, [.int ((78 + (6 * v1)) + v2), .ref 10])) (hp' := xW B m) (q := (.iadd, 1, 0, 0, .null)) rfl (fun _ => rfl) (Nat.le_refl _) ?_
  obtain ⟨c1, h⟩ := xif h
  refine q_al (n := 114) (v := (m.1 10 (((78 + (6 * v1)) + v2) : Int32).toNatClampNeg)) H (pc := 13) rfl (by decide) c1 rfl ?_
  obtain rfl := Option.some.inj h
  exact q_ri (q := (.ireturn, 1, 0, 0, .null)) rfl (fun _ => rfl) rfl rfl
set_option maxRecDepth 20000 in
theorem Z94_9 {B : zHp} (H : yH0 B) {F : Nat} {a1 : Int32} {a2 : Int32} {m : xS} {x : Int32 × xS} (h : D94_9 F a1 a2 m = some x) {d : Nat} (hd : 1 ≤ d) : zCan d 94 [.ref 9, .int a1, .int a2] (xW B m) (some (.int x.1), xW B x.2) := by
  obtain ⟨e, rfl⟩ : ∃ e, d = e + 1 := ⟨d - 1, by omega⟩
  refine zCan_body (nL := 3) (rt := (some .int)) (cd := zc94) (xg94) ⟨Nat.le_of_ble_eq_true rfl, by decide⟩ (Nat.le_refl _) ?_
  exact T94_9 H hd F rfl rfl rfl h
/-- LentTools.house -/
def D130_0_21 (F : Nat) (v1 : Int32) (v2 : Int32) (v3 : Int32) (m : xS) : Option (Int32 × xS) :=
  some ((-1), m)
set_option maxRecDepth 20000 in
theorem T130_0_21 {B : zHp} (H : yH0 B) {e : Nat} (he : 4 ≤ e + 1) (F : Nat) {v1 : Int32} {v2 : Int32} {v3 : Int32} {lv : List (Nat × Value)} {m : xS} {x : Int32 × xS} (l0 : zld lv 0 = some (.ref 0)) (l1 : zld lv 1 = some (.int v1)) (l2 : zld lv 2 = some (.int v2)) (l3 : zld lv 3 = some (.int v3)) (h : D130_0_21 F v1 v2 v3 m = some x) : zR none e 4 (some .int) zc130 (21, lv, []) (xW B m) (some (.int x.1), xW B x.2) := by
  unfold D130_0_21 at h
  refine r_s (fr' := (22, lv, [.int (-1)])) (hp' := xW B m) (q := (.iconst (-1), 1, 0, 0, .null)) rfl (fun _ => rfl) (Nat.le_refl _) ?_
  obtain rfl := Option.some.inj h
  exact q_ri (q := (.ireturn, 1, 0, 0, .null)) rfl (fun _ => rfl) rfl rfl
def D130_0 (F : Nat) (v1 : Int32) (v2 : Int32) (v3 : Int32) (m : xS) : Option (Int32 × xS) :=
  (D86_9 F v1 v2 m).bind fun q6 =>
    if zcmp .eq q6.1 0 = true then
      D130_0_21 F v1 v2 v3 q6.2
    else
      if zcmp .lt v3 0 = true then
        D130_0_21 F v1 v2 v3 q6.2
      else
        if zcmp .le v3 1 = true then
          if zcmp .ne v3 0 = true then
            (D94_9 F v1 v2 q6.2).bind fun q51 =>
              some (q51.1, q51.2)
          else
            (D92_9 F v1 v2 q6.2).bind fun q33 =>
              if zcmp .eq q33.1 0 = true then
                some (0, q33.2)
              else
                some (1, q33.2)
        else
          D130_0_21 F v1 v2 v3 q6.2
set_option maxRecDepth 20000 in
theorem T130_0 {B : zHp} (H : yH0 B) {e : Nat} (he : 4 ≤ e + 1) (F : Nat) {v1 : Int32} {v2 : Int32} {v3 : Int32} {lv : List (Nat × Value)} {m : xS} {x : Int32 × xS} (l0 : zld lv 0 = some (.ref 0)) (l1 : zld lv 1 = some (.int v1)) (l2 : zld lv 2 = some (.int v2)) (l3 : zld lv 3 = some (.int v3)) (h : D130_0 F v1 v2 v3 m = some x) : zR none e 4 (some .int) zc130 (0, lv, []) (xW B m) (some (.int x.1), xW B x.2) := by
  unfold D130_0 at h
  refine q_lr (k := 1) (i := 0) (q := (.aload_n 0, 1, 0, 0, .null)) rfl (fun _ => rfl) l0 ?_
  refine r_gr (c := 9) H (pc := 1) rfl (by decide) (by decide) ?_
  refine q_li (k := 1) (i := 1) (q := (.iload_n 1, 1, 0, 0, .null)) rfl (fun _ => rfl) l1 ?_
  refine q_li (k := 1) (i := 2) (q := (.iload_n 2, 1, 0, 0, .null)) rfl (fun _ => rfl) l2 ?_
  obtain ⟨q6, h6, h⟩ := xbind h
  refine r_call (ix := 9) (as := [.int v1, .int v2]) (rest := []) (rv := some (.int q6.1)) (hp' := xW B q6.2) (pc := 6) rfl xr86 rfl rfl rfl (xkd H (by decide)) (Nat.le_of_ble_eq_true rfl) (Z86_9 H h6 (by omega)) (Nat.le_refl _) ?_
  refine r_if (len := 3) (a := 21) (b := 0) (v0 := .null) (cn := .eq) (off := 12) rfl (fun c => ?_) (fun c => ?_)
  · rw [if_pos c] at h
    exact T130_0_21 H he F l0 l1 l2 l3 h
  · rw [if_neg (by rw [c]; decide)] at h
    refine q_li (k := 1) (i := 3) (q := (.iload_n 3, 1, 0, 0, .null)) rfl (fun _ => rfl) l3 ?_
    refine r_if (len := 3) (a := 21) (b := 0) (v0 := .null) (cn := .lt) (off := 8) rfl (fun c => ?_) (fun c => ?_)
    · rw [if_pos c] at h
      exact T130_0_21 H he F l0 l1 l2 l3 h
    · rw [if_neg (by rw [c]; decide)] at h
      refine q_li (k := 1) (i := 3) (q := (.iload_n 3, 1, 0, 0, .null)) rfl (fun _ => rfl) l3 ?_
      refine r_s (fr' := (18, lv, [.int 1, .int v3])) (hp' := xW B q6.2) (q := (.iconst 1, 1, 0, 0, .null)) rfl (fun _ => rfl) (Nat.le_refl _) ?_
      refine r_ifc (len := 3) (a := 23) (b := 0) (v0 := .null) (cn := .le) (off := 5) rfl (fun c => ?_) (fun c => ?_)
      · rw [if_pos c] at h
        refine q_li (k := 1) (i := 3) (q := (.iload_n 3, 1, 0, 0, .null)) rfl (fun _ => rfl) l3 ?_
        refine r_if (len := 3) (a := 45) (b := 0) (v0 := .null) (cn := .ne) (off := 21) rfl (fun c => ?_) (fun c => ?_)
        · rw [if_pos c] at h
          refine q_lr (k := 1) (i := 0) (q := (.aload_n 0, 1, 0, 0, .null)) rfl (fun _ => rfl) l0 ?_
          refine r_gr (c := 9) H (pc := 46) rfl (by decide) (by decide) ?_
          refine q_li (k := 1) (i := 1) (q := (.iload_n 1, 1, 0, 0, .null)) rfl (fun _ => rfl) l1 ?_
          refine q_li (k := 1) (i := 2) (q := (.iload_n 2, 1, 0, 0, .null)) rfl (fun _ => rfl) l2 ?_
          obtain ⟨q51, h51, h⟩ := xbind h
          refine r_call (ix := 9) (as := [.int v1, .int v2]) (rest := []) (rv := some (.int q51.1)) (hp' := xW B q51.2) (pc := 51) rfl xr94 rfl rfl rfl (xkd H (by decide)) (Nat.le_of_ble_eq_true rfl) (Z94_9 H h51 (by omega)) (Nat.le_refl _) ?_
          obtain rfl := Option.some.inj h
          exact q_ri (q := (.ireturn, 1, 0, 0, .null)) rfl (fun _ => rfl) rfl rfl
        · rw [if_neg (by rw [c]; decide)] at h
          refine q_lr (k := 1) (i := 0) (q := (.aload_n 0, 1, 0, 0, .null)) rfl (fun _ => rfl) l0 ?_
          refine r_gr (c := 9) H (pc := 28) rfl (by decide) (by decide) ?_
          refine q_li (k := 1) (i := 1) (q := (.iload_n 1, 1, 0, 0, .null)) rfl (fun _ => rfl) l1 ?_
          refine q_li (k := 1) (i := 2) (q := (.iload_n 2, 1, 0, 0, .null)) rfl (fun _ => rfl) l2 ?_
          obtain ⟨q33, h33, h⟩ := xbind h
          refine r_call (ix := 9) (as := [.int v1, .int v2]) (rest := []) (rv := some (.int q33.1)) (hp' := xW B q33.2) (pc := 33) rfl xr92 rfl rfl rfl (xkd H (by decide)) (Nat.le_of_ble_eq_true rfl) (Z92_9 H h33 (by omega)) (Nat.le_refl _) ?_
          refine r_if (len := 3) (a := 43) (b := 0) (v0 := .null) (cn := .eq) (off := 7) rfl (fun c => ?_) (fun c => ?_)
          · rw [if_pos c] at h
            refine r_s (fr' := (44, lv, [.int 0])) (hp' := xW B q33.2) (q := (.iconst 0, 1, 0, 0, .null)) rfl (fun _ => rfl) (Nat.le_refl _) ?_
            obtain rfl := Option.some.inj h
            exact q_ri (q := (.ireturn, 1, 0, 0, .null)) rfl (fun _ => rfl) rfl rfl
          · rw [if_neg (by rw [c]; decide)] at h
            refine r_s (fr' := (40, lv, [.int 1])) (hp' := xW B q33.2) (q := (.iconst 1, 1, 0, 0, .null)) rfl (fun _ => rfl) (Nat.le_refl _) ?_
            refine r_s (fr' := (44, lv, [.int 1])) (hp' := xW B q33.2) (q := (.goto 4, 3, 44, 0, .null)) rfl (fun _ => rfl) (Nat.le_refl _) ?_
            obtain rfl := Option.some.inj h
            exact q_ri (q := (.ireturn, 1, 0, 0, .null)) rfl (fun _ => rfl) rfl rfl
      · rw [if_neg (by rw [c]; decide)] at h
        exact T130_0_21 H he F l0 l1 l2 l3 h
set_option maxRecDepth 20000 in
theorem Z130_0 {B : zHp} (H : yH0 B) {F : Nat} {a1 : Int32} {a2 : Int32} {a3 : Int32} {m : xS} {x : Int32 × xS} (h : D130_0 F a1 a2 a3 m = some x) {d : Nat} (hd : 4 ≤ d) : zCan d 130 [.ref 0, .int a1, .int a2, .int a3] (xW B m) (some (.int x.1), xW B x.2) := by
  obtain ⟨e, rfl⟩ : ∃ e, d = e + 1 := ⟨d - 1, by omega⟩
  refine zCan_body (nL := 4) (rt := (some .int)) (cd := zc130) (xg130) ⟨Nat.le_of_ble_eq_true rfl, by decide⟩ (Nat.le_refl _) ?_
  exact T130_0 H hd F rfl rfl rfl rfl h
/-- LentTools$Village.canLend -/
def D101_9_28 (F : Nat) (v1 : Int32) (v2 : Int32) (m : xS) : Option (Int32 × xS) :=
  some (0, m)
set_option maxRecDepth 20000 in
theorem T101_9_28 {B : zHp} (H : yH0 B) {e : Nat} (he : 3 ≤ e + 1) (F : Nat) {v1 : Int32} {v2 : Int32} {lv : List (Nat × Value)} {m : xS} {x : Int32 × xS} (l0 : zld lv 0 = some (.ref 9)) (l1 : zld lv 1 = some (.int v1)) (l2 : zld lv 2 = some (.int v2)) (h : D101_9_28 F v1 v2 m = some x) : zR none e 3 (some .boolean) zc101 (28, lv, []) (xW B m) (some (.int x.1), xW B x.2) := by
  unfold D101_9_28 at h
  refine r_s (fr' := (29, lv, [.int 0])) (hp' := xW B m) (q := (.iconst 0, 1, 0, 0, .null)) rfl (fun _ => rfl) (Nat.le_refl _) ?_
  obtain rfl := Option.some.inj h
  exact q_ri (q := (.ireturn, 1, 0, 0, .null)) rfl (fun _ => rfl) rfl rfl
def D101_9 (F : Nat) (v1 : Int32) (v2 : Int32) (m : xS) : Option (Int32 × xS) :=
  (D87_9 F v1 0 m).bind fun q4 =>
    if zcmp .eq v2 q4.1 = true then
      D101_9_28 F v1 v2 q4.2
    else
      (D87_9 F v1 3 q4.2).bind fun q14 =>
        (D92_9 F q14.1 v2 q14.2).bind fun q18 =>
          if zcmp .eq q18.1 0 = true then
            D101_9_28 F v1 v2 q18.2
          else
            some (1, q18.2)
set_option maxRecDepth 20000 in
theorem T101_9 {B : zHp} (H : yH0 B) {e : Nat} (he : 3 ≤ e + 1) (F : Nat) {v1 : Int32} {v2 : Int32} {lv : List (Nat × Value)} {m : xS} {x : Int32 × xS} (l0 : zld lv 0 = some (.ref 9)) (l1 : zld lv 1 = some (.int v1)) (l2 : zld lv 2 = some (.int v2)) (h : D101_9 F v1 v2 m = some x) : zR none e 3 (some .boolean) zc101 (0, lv, []) (xW B m) (some (.int x.1), xW B x.2) := by
  unfold D101_9 at h
  refine q_li (k := 1) (i := 2) (q := (.iload_n 2, 1, 0, 0, .null)) rfl (fun _ => rfl) l2 ?_
  refine q_lr (k := 1) (i := 0) (q := (.aload_n 0, 1, 0, 0, .null)) rfl (fun _ => rfl) l0 ?_
  refine q_li (k := 1) (i := 1) (q := (.iload_n 1, 1, 0, 0, .null)) rfl (fun _ => rfl) l1 ?_
  refine r_s (fr' := (4, lv, [.int 0, .int v1, .ref 9, .int v2])) (hp' := xW B m) (q := (.iconst 0, 1, 0, 0, .null)) rfl (fun _ => rfl) (Nat.le_refl _) ?_
  obtain ⟨q4, h4, h⟩ := xbind h
  refine r_call (ix := 9) (as := [.int v1, .int 0]) (rest := [.int v2]) (rv := some (.int q4.1)) (hp' := xW B q4.2) (pc := 4) rfl xr87 rfl rfl rfl (xkd H (by decide)) (Nat.le_of_ble_eq_true rfl) (Z87_9 H h4 (by omega)) (Nat.le_refl _) ?_
  refine r_ifc (len := 3) (a := 28) (b := 0) (v0 := .null) (cn := .eq) (off := 21) rfl (fun c => ?_) (fun c => ?_)
  · rw [if_pos c] at h
    exact T101_9_28 H he F l0 l1 l2 h
  · rw [if_neg (by rw [c]; decide)] at h
    refine q_lr (k := 1) (i := 0) (q := (.aload_n 0, 1, 0, 0, .null)) rfl (fun _ => rfl) l0 ?_
    refine q_lr (k := 1) (i := 0) (q := (.aload_n 0, 1, 0, 0, .null)) rfl (fun _ => rfl) l0 ?_
    refine q_li (k := 1) (i := 1) (q := (.iload_n 1, 1, 0, 0, .null)) rfl (fun _ => rfl) l1 ?_
    refine r_s (fr' := (14, lv, [.int 3, .int v1, .ref 9, .ref 9])) (hp' := xW B q4.2) (q := (.iconst 3, 1, 0, 0, .null)) rfl (fun _ => rfl) (Nat.le_refl _) ?_
    obtain ⟨q14, h14, h⟩ := xbind h
    refine r_call (ix := 9) (as := [.int v1, .int 3]) (rest := [.ref 9]) (rv := some (.int q14.1)) (hp' := xW B q14.2) (pc := 14) rfl xr87 rfl rfl rfl (xkd H (by decide)) (Nat.le_of_ble_eq_true rfl) (Z87_9 H h14 (by omega)) (Nat.le_refl _) ?_
    refine q_li (k := 1) (i := 2) (q := (.iload_n 2, 1, 0, 0, .null)) rfl (fun _ => rfl) l2 ?_
    obtain ⟨q18, h18, h⟩ := xbind h
    refine r_call (ix := 9) (as := [.int q14.1, .int v2]) (rest := []) (rv := some (.int q18.1)) (hp' := xW B q18.2) (pc := 18) rfl xr92 rfl rfl rfl (xkd H (by decide)) (Nat.le_of_ble_eq_true rfl) (Z92_9 H h18 (by omega)) (Nat.le_refl _) ?_
    refine r_if (len := 3) (a := 28) (b := 0) (v0 := .null) (cn := .eq) (off := 7) rfl (fun c => ?_) (fun c => ?_)
    · rw [if_pos c] at h
      exact T101_9_28 H he F l0 l1 l2 h
    · rw [if_neg (by rw [c]; decide)] at h
      refine r_s (fr' := (25, lv, [.int 1])) (hp' := xW B q18.2) (q := (.iconst 1, 1, 0, 0, .null)) rfl (fun _ => rfl) (Nat.le_refl _) ?_
      refine r_s (fr' := (29, lv, [.int 1])) (hp' := xW B q18.2) (q := (.goto 4, 3, 29, 0, .null)) rfl (fun _ => rfl) (Nat.le_refl _) ?_
      obtain rfl := Option.some.inj h
      exact q_ri (q := (.ireturn, 1, 0, 0, .null)) rfl (fun _ => rfl) rfl rfl
set_option maxRecDepth 20000 in
theorem Z101_9 {B : zHp} (H : yH0 B) {F : Nat} {a1 : Int32} {a2 : Int32} {m : xS} {x : Int32 × xS} (h : D101_9 F a1 a2 m = some x) {d : Nat} (hd : 3 ≤ d) : zCan d 101 [.ref 9, .int a1, .int a2] (xW B m) (some (.int x.1), xW B x.2) := by
  obtain ⟨e, rfl⟩ : ∃ e, d = e + 1 := ⟨d - 1, by omega⟩
  refine zCan_body (nL := 3) (rt := (some .boolean)) (cd := zc101) (xg101) ⟨Nat.le_of_ble_eq_true rfl, by decide⟩ (Nat.le_refl _) ?_
  exact T101_9 H hd F rfl rfl rfl h
/-- LentTools$Village.writeTo -/
def D68_9_S16_20 (F : Nat) (r1 : Nat) (m : xS) : Option (Unit × xS) :=
  some ((), (xcp m r1 10 114))
set_option maxRecDepth 20000 in
theorem T68_9_S16_20 {B : zHp} (H : yH0 B) {e : Nat} (he : 1 ≤ e + 1) (F : Nat) (r1 : Nat) (hr1 : 16 ≤ r1 ∧ r1 < 36) {lv : List (Nat × Value)} {m : xS} {x : Unit × xS} (l0 : zld lv 0 = some (.ref 9)) (l1 : zld lv 1 = some (.ref r1)) (h : D68_9_S16_20 F r1 m = some x) : zR none e 2 none zc68 (0, lv, []) (xW B m) (none, xW B x.2) := by
  unfold D68_9_S16_20 at h
  refine q_lr (k := 1) (i := 0) (q := (.aload_n 0, 1, 0, 0, .null)) rfl (fun _ => rfl) l0 ?_
  refine r_gr (c := 10) H (pc := 1) rfl (by decide) (by decide) ?_
  refine r_s (fr' := (5, lv, [.int 0, .ref 10])) (hp' := xW B m) (q := (.iconst 0, 1, 0, 0, .null)) rfl (fun _ => rfl) (Nat.le_refl _) ?_
  refine q_lr (k := 1) (i := 1) (q := (.aload_n 1, 1, 0, 0, .null)) rfl (fun _ => rfl) l1 ?_
  refine r_s (fr' := (7, lv, [.int 0, .ref r1, .int 0, .ref 10])) (hp' := xW B m) (q := (.iconst 0, 1, 0, 0, .null)) rfl (fun _ => rfl) (Nat.le_refl _) ?_
  refine r_s (fr' := (9, lv, [.int 114, .int 0, .ref r1, .int 0, .ref 10])) (hp' := xW B m) (q := (.bipush 114, 2, 0, 0, .null)) rfl (fun _ => rfl) (Nat.le_refl _) ?_
  refine q_cpy (n := 114) (n0 := 114) (n1 := 114) H (pc := 9) rfl (by decide) (xtS16_20 hr1) (by decide) (by decide) (by have := hr1; omega) (Nat.le_of_ble_eq_true rfl) ?_
  obtain rfl := Option.some.inj h
  exact r_ret (q := (.return_, 1, 0, 0, .null)) rfl rfl (fun _ => rfl)
set_option maxRecDepth 20000 in
theorem Z68_9_S16_20 {B : zHp} (H : yH0 B) {F : Nat} {r1 : Nat} (hr1 : 16 ≤ r1 ∧ r1 < 36) {m : xS} {x : Unit × xS} (h : D68_9_S16_20 F r1 m = some x) {d : Nat} (hd : 1 ≤ d) : zCan d 68 [.ref 9, .ref r1] (xW B m) (none, xW B x.2) := by
  obtain ⟨e, rfl⟩ : ∃ e, d = e + 1 := ⟨d - 1, by omega⟩
  refine zCan_body (nL := 2) (rt := none) (cd := zc68) (xg68) ⟨Nat.le_of_ble_eq_true rfl, by decide⟩ (Nat.le_refl _) ?_
  exact T68_9_S16_20 H hd F r1 hr1 rfl rfl h
/-- LentTools$History.keep -/
def D16_14_9 (F : Nat) (m : xS) : Option (Unit × xS) :=
  if xib (m.1 14 1) 20 = true then
    (D68_9_S16_20 F (16 + ((m.1 14 1) : Int32).toNatClampNeg) m).bind fun q10 =>
      some ((), (xu (xu q10.2 14 1 (((q10.2.1 14 1) + 1) - ((q10.2.1 14 1) + 1) / 20 * 20)) 14 2 (if ((q10.2.1 14 2) + 1) < 20 then ((q10.2.1 14 2) + 1) else 20)))
  else none
set_option maxRecDepth 20000 in
theorem T16_14_9 {B : zHp} (H : yH0 B) {e : Nat} (he : 2 ≤ e + 1) (F : Nat) {lv : List (Nat × Value)} {m : xS} {x : Unit × xS} (l0 : zld lv 0 = some (.ref 14)) (l1 : zld lv 1 = some (.ref 9)) (h : D16_14_9 F m = some x) : zR none e 2 none zc16 (0, lv, []) (xW B m) (none, xW B x.2) := by
  unfold D16_14_9 at h
  refine q_lr (k := 1) (i := 1) (q := (.aload_n 1, 1, 0, 0, .null)) rfl (fun _ => rfl) l1 ?_
  refine q_lr (k := 1) (i := 0) (q := (.aload_n 0, 1, 0, 0, .null)) rfl (fun _ => rfl) l0 ?_
  refine r_gr (c := 15) H (pc := 2) rfl (by decide) (by decide) ?_
  refine q_lr (k := 1) (i := 0) (q := (.aload_n 0, 1, 0, 0, .null)) rfl (fun _ => rfl) l0 ?_
  refine r_gi (v := (m.1 14 1)) H (pc := 6) (i := _) rfl (by decide) (by decide) rfl ?_
  obtain ⟨c1, h⟩ := xif h
  refine q_aal (n := 20) (b := 16) H (pc := 9) rfl ⟨rfl, by decide⟩ c1 ?_
  obtain ⟨q10, h10, h⟩ := xbind h
  refine r_call (ix := 9) (as := [.ref (16 + ((m.1 14 1) : Int32).toNatClampNeg)]) (rest := []) (rv := none) (hp' := xW B q10.2) (pc := 10) rfl xr68 rfl rfl rfl (xkd H (by decide)) (Nat.le_of_ble_eq_true rfl) (Z68_9_S16_20 H ((xibS c1)) h10 (by omega)) (Nat.le_refl _) ?_
  refine q_lr (k := 1) (i := 0) (q := (.aload_n 0, 1, 0, 0, .null)) rfl (fun _ => rfl) l0 ?_
  refine q_lr (k := 1) (i := 0) (q := (.aload_n 0, 1, 0, 0, .null)) rfl (fun _ => rfl) l0 ?_
  refine r_gi (v := (q10.2.1 14 1)) H (pc := 15) (i := _) rfl (by decide) (by decide) rfl ?_
  refine r_s (fr' := (19, lv, [.int 1, .int (q10.2.1 14 1), .ref 14])) (hp' := xW B q10.2) (q := (.iconst 1, 1, 0, 0, .null)) rfl (fun _ => rfl) (Nat.le_refl _) ?_
  refine r_s (fr' := (20, lv, [.int ((q10.2.1 14 1) + 1), .ref 14])) (hp' := xW B q10.2) (q := (.iadd, 1, 0, 0, .null)) rfl (fun _ => rfl) (Nat.le_refl _) ?_
  refine r_s (fr' := (22, lv, [.int 20, .int ((q10.2.1 14 1) + 1), .ref 14])) (hp' := xW B q10.2) (q := (.bipush 20, 2, 0, 0, .null)) rfl (fun _ => rfl) (Nat.le_refl _) ?_
  refine q_div (f := fun x y => x - x / y * y) (q := (.irem, 1, 0, 0, .null)) rfl (fun _ => rfl) (by decide) ?_
  refine r_pi (s2 := (xu q10.2 14 1 (((q10.2.1 14 1) + 1) - ((q10.2.1 14 1) + 1) / 20 * 20))) H (pc := 23) rfl (by decide) rfl rfl ?_
  refine q_lr (k := 1) (i := 0) (q := (.aload_n 0, 1, 0, 0, .null)) rfl (fun _ => rfl) l0 ?_
  refine r_s (fr' := (29, lv, [.int 20, .ref 14])) (hp' := xW B (xu q10.2 14 1 (((q10.2.1 14 1) + 1) - ((q10.2.1 14 1) + 1) / 20 * 20))) (q := (.bipush 20, 2, 0, 0, .null)) rfl (fun _ => rfl) (Nat.le_refl _) ?_
  refine q_lr (k := 1) (i := 0) (q := (.aload_n 0, 1, 0, 0, .null)) rfl (fun _ => rfl) l0 ?_
  refine r_gi (v := (q10.2.1 14 2)) H (pc := 30) (i := _) rfl (by decide) (by decide) rfl ?_
  refine r_s (fr' := (34, lv, [.int 1, .int (q10.2.1 14 2), .int 20, .ref 14])) (hp' := xW B (xu q10.2 14 1 (((q10.2.1 14 1) + 1) - ((q10.2.1 14 1) + 1) / 20 * 20))) (q := (.iconst 1, 1, 0, 0, .null)) rfl (fun _ => rfl) (Nat.le_refl _) ?_
  refine r_s (fr' := (35, lv, [.int ((q10.2.1 14 2) + 1), .int 20, .ref 14])) (hp' := xW B (xu q10.2 14 1 (((q10.2.1 14 1) + 1) - ((q10.2.1 14 1) + 1) / 20 * 20))) (q := (.iadd, 1, 0, 0, .null)) rfl (fun _ => rfl) (Nat.le_refl _) ?_
  refine r_s (fr' := (38, lv, [.int (if ((q10.2.1 14 2) + 1) < 20 then ((q10.2.1 14 2) + 1) else 20), .ref 14])) (hp' := xW B (xu q10.2 14 1 (((q10.2.1 14 1) + 1) - ((q10.2.1 14 1) + 1) / 20 * 20))) (q := (.invokestatic 27, 3, 0, 3, .null)) rfl (fun _ => rfl) (Nat.le_refl _) ?_
  refine r_pi (s2 := (xu (xu q10.2 14 1 (((q10.2.1 14 1) + 1) - ((q10.2.1 14 1) + 1) / 20 * 20)) 14 2 (if ((q10.2.1 14 2) + 1) < 20 then ((q10.2.1 14 2) + 1) else 20))) H (pc := 38) rfl (by decide) rfl rfl ?_
  obtain rfl := Option.some.inj h
  exact r_ret (q := (.return_, 1, 0, 0, .null)) rfl rfl (fun _ => rfl)
set_option maxRecDepth 20000 in
theorem Z16_14_9 {B : zHp} (H : yH0 B) {F : Nat} {m : xS} {x : Unit × xS} (h : D16_14_9 F m = some x) {d : Nat} (hd : 2 ≤ d) : zCan d 16 [.ref 14, .ref 9] (xW B m) (none, xW B x.2) := by
  obtain ⟨e, rfl⟩ : ∃ e, d = e + 1 := ⟨d - 1, by omega⟩
  refine zCan_body (nL := 2) (rt := none) (cd := zc16) (xg16) ⟨Nat.le_of_ble_eq_true rfl, by decide⟩ (Nat.le_refl _) ?_
  exact T16_14_9 H hd F rfl rfl h
/-- LentTools$Village.tellThanks -/
def D75_9 (F : Nat) (v1 : Int32) (v2 : Int32) (v3 : Int32) (m : xS) : Option (Unit × xS) :=
  if xib ((78 + (6 * v1)) + v2) 114 = true then
    some ((), (xu m 10 (((78 + (6 * v1)) + v2) : Int32).toNatClampNeg v3))
  else none
set_option maxRecDepth 20000 in
theorem T75_9 {B : zHp} (H : yH0 B) {e : Nat} (he : 1 ≤ e + 1) (F : Nat) {v1 : Int32} {v2 : Int32} {v3 : Int32} {lv : List (Nat × Value)} {m : xS} {x : Unit × xS} (l0 : zld lv 0 = some (.ref 9)) (l1 : zld lv 1 = some (.int v1)) (l2 : zld lv 2 = some (.int v2)) (l3 : zld lv 3 = some (.int v3)) (h : D75_9 F v1 v2 v3 m = some x) : zR none e 4 none zc75 (0, lv, []) (xW B m) (none, xW B x.2) := by
  unfold D75_9 at h
  refine q_lr (k := 1) (i := 0) (q := (.aload_n 0, 1, 0, 0, .null)) rfl (fun _ => rfl) l0 ?_
  refine r_gr (c := 10) H (pc := 1) rfl (by decide) (by decide) ?_
  refine r_s (fr' := (6, lv, [.int 78, .ref 10])) (hp' := xW B m) (q := (.bipush 78, 2, 0, 0, .null)) rfl (fun _ => rfl) (Nat.le_refl _) ?_
  refine r_s (fr' := (8, lv, [.int 6, .int 78, .ref 10])) (hp' := xW B m) (q := (.bipush 6, 2, 0, 0, .null)) rfl (fun _ => rfl) (Nat.le_refl _) ?_
  refine q_li (k := 1) (i := 1) (q := (.iload_n 1, 1, 0, 0, .null)) rfl (fun _ => rfl) l1 ?_
  refine r_s (fr' := (10, lv, [.int (6 * v1), .int 78, .ref 10])) (hp' := xW B m) (q := (.imul, 1, 0, 0, .null)) rfl (fun _ => rfl) (Nat.le_refl _) ?_
  refine r_s (fr' := (11, lv, [.int (78 + (6 * v1)), .ref 10])) (hp' := xW B m) (q := (.iadd, 1, 0, 0, .null)) rfl (fun _ => rfl) (Nat.le_refl _) ?_
  refine q_li (k := 1) (i := 2) (q := (.iload_n 2, 1, 0, 0, .null)) rfl (fun _ => rfl) l2 ?_
  refine r_s (fr' := (13, lv, [.int ((78 + (6 * v1)) + v2), .ref 10])) (hp' := xW B m) (q := (.iadd, 1, 0, 0, .null)) rfl (fun _ => rfl) (Nat.le_refl _) ?_
  refine q_li (k := 1) (i := 3) (q := (.iload_n 3, 1, 0, 0, .null)) rfl (fun _ => rfl) l3 ?_
  obtain ⟨c1, h⟩ := xif h
  refine q_as (n := 114) (s2 := (xu m 10 (((78 + (6 * v1)) + v2) : Int32).toNatClampNeg v3)) H (pc := 14) rfl (by decide) c1 rfl ?_
  obtain rfl := Option.some.inj h
  exact r_ret (q := (.return_, 1, 0, 0, .null)) rfl rfl (fun _ => rfl)
set_option maxRecDepth 20000 in
theorem Z75_9 {B : zHp} (H : yH0 B) {F : Nat} {a1 : Int32} {a2 : Int32} {a3 : Int32} {m : xS} {x : Unit × xS} (h : D75_9 F a1 a2 a3 m = some x) {d : Nat} (hd : 1 ≤ d) : zCan d 75 [.ref 9, .int a1, .int a2, .int a3] (xW B m) (none, xW B x.2) := by
  obtain ⟨e, rfl⟩ : ∃ e, d = e + 1 := ⟨d - 1, by omega⟩
  refine zCan_body (nL := 4) (rt := none) (cd := zc75) (xg75) ⟨Nat.le_of_ble_eq_true rfl, by decide⟩ (Nat.le_refl _) ?_
  exact T75_9 H hd F rfl rfl rfl rfl h
/-- LentTools$Village.setOfTool -/
def D88_9 (F : Nat) (v1 : Int32) (v2 : Int32) (v3 : Int32) (m : xS) : Option (Unit × xS) :=
  if xib ((6 + (6 * v2)) + v1) 114 = true then
    some ((), (xu m 10 (((6 + (6 * v2)) + v1) : Int32).toNatClampNeg v3))
  else none
set_option maxRecDepth 20000 in
theorem T88_9 {B : zHp} (H : yH0 B) {e : Nat} (he : 1 ≤ e + 1) (F : Nat) {v1 : Int32} {v2 : Int32} {v3 : Int32} {lv : List (Nat × Value)} {m : xS} {x : Unit × xS} (l0 : zld lv 0 = some (.ref 9)) (l1 : zld lv 1 = some (.int v1)) (l2 : zld lv 2 = some (.int v2)) (l3 : zld lv 3 = some (.int v3)) (h : D88_9 F v1 v2 v3 m = some x) : zR none e 4 none zc88 (0, lv, []) (xW B m) (none, xW B x.2) := by
  unfold D88_9 at h
  refine q_lr (k := 1) (i := 0) (q := (.aload_n 0, 1, 0, 0, .null)) rfl (fun _ => rfl) l0 ?_
  refine r_gr (c := 10) H (pc := 1) rfl (by decide) (by decide) ?_
  refine r_s (fr' := (6, lv, [.int 6, .ref 10])) (hp' := xW B m) (q := (.bipush 6, 2, 0, 0, .null)) rfl (fun _ => rfl) (Nat.le_refl _) ?_
  refine r_s (fr' := (8, lv, [.int 6, .int 6, .ref 10])) (hp' := xW B m) (q := (.bipush 6, 2, 0, 0, .null)) rfl (fun _ => rfl) (Nat.le_refl _) ?_
  refine q_li (k := 1) (i := 2) (q := (.iload_n 2, 1, 0, 0, .null)) rfl (fun _ => rfl) l2 ?_
  refine r_s (fr' := (10, lv, [.int (6 * v2), .int 6, .ref 10])) (hp' := xW B m) (q := (.imul, 1, 0, 0, .null)) rfl (fun _ => rfl) (Nat.le_refl _) ?_
  refine r_s (fr' := (11, lv, [.int (6 + (6 * v2)), .ref 10])) (hp' := xW B m) (q := (.iadd, 1, 0, 0, .null)) rfl (fun _ => rfl) (Nat.le_refl _) ?_
  refine q_li (k := 1) (i := 1) (q := (.iload_n 1, 1, 0, 0, .null)) rfl (fun _ => rfl) l1 ?_
  refine r_s (fr' := (13, lv, [.int ((6 + (6 * v2)) + v1), .ref 10])) (hp' := xW B m) (q := (.iadd, 1, 0, 0, .null)) rfl (fun _ => rfl) (Nat.le_refl _) ?_
  refine q_li (k := 1) (i := 3) (q := (.iload_n 3, 1, 0, 0, .null)) rfl (fun _ => rfl) l3 ?_
  obtain ⟨c1, h⟩ := xif h
  refine q_as (n := 114) (s2 := (xu m 10 (((6 + (6 * v2)) + v1) : Int32).toNatClampNeg v3)) H (pc := 14) rfl (by decide) c1 rfl ?_
  obtain rfl := Option.some.inj h
  exact r_ret (q := (.return_, 1, 0, 0, .null)) rfl rfl (fun _ => rfl)
set_option maxRecDepth 20000 in
theorem Z88_9 {B : zHp} (H : yH0 B) {F : Nat} {a1 : Int32} {a2 : Int32} {a3 : Int32} {m : xS} {x : Unit × xS} (h : D88_9 F a1 a2 a3 m = some x) {d : Nat} (hd : 1 ≤ d) : zCan d 88 [.ref 9, .int a1, .int a2, .int a3] (xW B m) (none, xW B x.2) := by
  obtain ⟨e, rfl⟩ : ∃ e, d = e + 1 := ⟨d - 1, by omega⟩
  refine zCan_body (nL := 4) (rt := none) (cd := zc88) (xg88) ⟨Nat.le_of_ble_eq_true rfl, by decide⟩ (Nat.le_refl _) ?_
  exact T88_9 H hd F rfl rfl rfl rfl h
/-- LentTools$Village.lendTo -/
def D102_9 (F : Nat) (v1 : Int32) (v2 : Int32) (m : xS) : Option (Unit × xS) :=
  (D87_9 F v1 3 m).bind fun q3 =>
    (D94_9 F v2 q3.1 q3.2).bind fun q15 =>
      (D75_9 F v2 q3.1 (if (q15.1 + 1) < 99 then (q15.1 + 1) else 99) q15.2).bind fun q23 =>
        (D87_9 F v1 4 q23.2).bind fun q32 =>
          (D88_9 F v1 4 (q32.1 + 1) q32.2).bind fun q37 =>
            (D88_9 F v1 3 v2 q37.2).bind fun q44 =>
              some ((), q44.2)
set_option maxRecDepth 20000 in
theorem T102_9 {B : zHp} (H : yH0 B) {e : Nat} (he : 2 ≤ e + 1) (F : Nat) {v1 : Int32} {v2 : Int32} {lv : List (Nat × Value)} {m : xS} {x : Unit × xS} (l0 : zld lv 0 = some (.ref 9)) (l1 : zld lv 1 = some (.int v1)) (l2 : zld lv 2 = some (.int v2)) (h : D102_9 F v1 v2 m = some x) : zR none e 4 none zc102 (0, lv, []) (xW B m) (none, xW B x.2) := by
  unfold D102_9 at h
  refine q_lr (k := 1) (i := 0) (q := (.aload_n 0, 1, 0, 0, .null)) rfl (fun _ => rfl) l0 ?_
  refine q_li (k := 1) (i := 1) (q := (.iload_n 1, 1, 0, 0, .null)) rfl (fun _ => rfl) l1 ?_
  refine r_s (fr' := (3, lv, [.int 3, .int v1, .ref 9])) (hp' := xW B m) (q := (.iconst 3, 1, 0, 0, .null)) rfl (fun _ => rfl) (Nat.le_refl _) ?_
  obtain ⟨q3, h3, h⟩ := xbind h
  refine r_call (ix := 9) (as := [.int v1, .int 3]) (rest := []) (rv := some (.int q3.1)) (hp' := xW B q3.2) (pc := 3) rfl xr87 rfl rfl rfl (xkd H (by decide)) (Nat.le_of_ble_eq_true rfl) (Z87_9 H h3 (by omega)) (Nat.le_refl _) ?_
  refine q_si (k := 1) (i := 3) (q := (.istore_n 3, 1, 0, 0, .null)) rfl (fun _ => rfl) (by decide) ?_
  have l0_1 : zld (zs1 lv 3 (.int q3.1)) 0 = some (.ref 9) := x_o1 l0 rfl rfl
  have l1_1 : zld (zs1 lv 3 (.int q3.1)) 1 = some (.int v1) := x_o1 l1 rfl rfl
  have l2_1 : zld (zs1 lv 3 (.int q3.1)) 2 = some (.int v2) := x_o1 l2 rfl rfl
  have l3_1 : zld (zs1 lv 3 (.int q3.1)) 3 = some (.int q3.1) := zs1_ld _ _ _
  generalize (zs1 lv 3 (.int q3.1)) = lv1 at *
  refine q_lr (k := 1) (i := 0) (q := (.aload_n 0, 1, 0, 0, .null)) rfl (fun _ => rfl) l0_1 ?_
  refine q_li (k := 1) (i := 2) (q := (.iload_n 2, 1, 0, 0, .null)) rfl (fun _ => rfl) l2_1 ?_
  refine q_li (k := 1) (i := 3) (q := (.iload_n 3, 1, 0, 0, .null)) rfl (fun _ => rfl) l3_1 ?_
  refine r_s (fr' := (12, lv1, [.int 99, .int q3.1, .int v2, .ref 9])) (hp' := xW B q3.2) (q := (.bipush 99, 2, 0, 0, .null)) rfl (fun _ => rfl) (Nat.le_refl _) ?_
  refine q_lr (k := 1) (i := 0) (q := (.aload_n 0, 1, 0, 0, .null)) rfl (fun _ => rfl) l0_1 ?_
  refine q_li (k := 1) (i := 2) (q := (.iload_n 2, 1, 0, 0, .null)) rfl (fun _ => rfl) l2_1 ?_
  refine q_li (k := 1) (i := 3) (q := (.iload_n 3, 1, 0, 0, .null)) rfl (fun _ => rfl) l3_1 ?_
  obtain ⟨q15, h15, h⟩ := xbind h
  refine r_call (ix := 9) (as := [.int v2, .int q3.1]) (rest := [.int 99, .int q3.1, .int v2, .ref 9]) (rv := some (.int q15.1)) (hp' := xW B q15.2) (pc := 15) rfl xr94 rfl rfl rfl (xkd H (by decide)) (Nat.le_of_ble_eq_true rfl) (Z94_9 H h15 (by omega)) (Nat.le_refl _) ?_
  refine r_s (fr' := (19, lv1, [.int 1, .int q15.1, .int 99, .int q3.1, .int v2, .ref 9])) (hp' := xW B q15.2) (q := (.iconst 1, 1, 0, 0, .null)) rfl (fun _ => rfl) (Nat.le_refl _) ?_
  refine r_s (fr' := (20, lv1, [.int (q15.1 + 1), .int 99, .int q3.1, .int v2, .ref 9])) (hp' := xW B q15.2) (q := (.iadd, 1, 0, 0, .null)) rfl (fun _ => rfl) (Nat.le_refl _) ?_
  refine r_s (fr' := (23, lv1, [.int (if (q15.1 + 1) < 99 then (q15.1 + 1) else 99), .int q3.1, .int v2, .ref 9])) (hp' := xW B q15.2) (q := (.invokestatic 80, 3, 0, 3, .null)) rfl (fun _ => rfl) (Nat.le_refl _) ?_
  obtain ⟨q23, h23, h⟩ := xbind h
  refine r_call (ix := 9) (as := [.int v2, .int q3.1, .int (if (q15.1 + 1) < 99 then (q15.1 + 1) else 99)]) (rest := []) (rv := none) (hp' := xW B q23.2) (pc := 23) rfl xr75 rfl rfl rfl (xkd H (by decide)) (Nat.le_of_ble_eq_true rfl) (Z75_9 H h23 (by omega)) (Nat.le_refl _) ?_
  refine q_lr (k := 1) (i := 0) (q := (.aload_n 0, 1, 0, 0, .null)) rfl (fun _ => rfl) l0_1 ?_
  refine q_li (k := 1) (i := 1) (q := (.iload_n 1, 1, 0, 0, .null)) rfl (fun _ => rfl) l1_1 ?_
  refine r_s (fr' := (29, lv1, [.int 4, .int v1, .ref 9])) (hp' := xW B q23.2) (q := (.iconst 4, 1, 0, 0, .null)) rfl (fun _ => rfl) (Nat.le_refl _) ?_
  refine q_lr (k := 1) (i := 0) (q := (.aload_n 0, 1, 0, 0, .null)) rfl (fun _ => rfl) l0_1 ?_
  refine q_li (k := 1) (i := 1) (q := (.iload_n 1, 1, 0, 0, .null)) rfl (fun _ => rfl) l1_1 ?_
  refine r_s (fr' := (32, lv1, [.int 4, .int v1, .ref 9, .int 4, .int v1, .ref 9])) (hp' := xW B q23.2) (q := (.iconst 4, 1, 0, 0, .null)) rfl (fun _ => rfl) (Nat.le_refl _) ?_
  obtain ⟨q32, h32, h⟩ := xbind h
  refine r_call (ix := 9) (as := [.int v1, .int 4]) (rest := [.int 4, .int v1, .ref 9]) (rv := some (.int q32.1)) (hp' := xW B q32.2) (pc := 32) rfl xr87 rfl rfl rfl (xkd H (by decide)) (Nat.le_of_ble_eq_true rfl) (Z87_9 H h32 (by omega)) (Nat.le_refl _) ?_
  refine r_s (fr' := (36, lv1, [.int 1, .int q32.1, .int 4, .int v1, .ref 9])) (hp' := xW B q32.2) (q := (.iconst 1, 1, 0, 0, .null)) rfl (fun _ => rfl) (Nat.le_refl _) ?_
  refine r_s (fr' := (37, lv1, [.int (q32.1 + 1), .int 4, .int v1, .ref 9])) (hp' := xW B q32.2) (q := (.iadd, 1, 0, 0, .null)) rfl (fun _ => rfl) (Nat.le_refl _) ?_
  obtain ⟨q37, h37, h⟩ := xbind h
  refine r_call (ix := 9) (as := [.int v1, .int 4, .int (q32.1 + 1)]) (rest := []) (rv := none) (hp' := xW B q37.2) (pc := 37) rfl xr88 rfl rfl rfl (xkd H (by decide)) (Nat.le_of_ble_eq_true rfl) (Z88_9 H h37 (by omega)) (Nat.le_refl _) ?_
  refine q_lr (k := 1) (i := 0) (q := (.aload_n 0, 1, 0, 0, .null)) rfl (fun _ => rfl) l0_1 ?_
  refine q_li (k := 1) (i := 1) (q := (.iload_n 1, 1, 0, 0, .null)) rfl (fun _ => rfl) l1_1 ?_
  refine r_s (fr' := (43, lv1, [.int 3, .int v1, .ref 9])) (hp' := xW B q37.2) (q := (.iconst 3, 1, 0, 0, .null)) rfl (fun _ => rfl) (Nat.le_refl _) ?_
  refine q_li (k := 1) (i := 2) (q := (.iload_n 2, 1, 0, 0, .null)) rfl (fun _ => rfl) l2_1 ?_
  obtain ⟨q44, h44, h⟩ := xbind h
  refine r_call (ix := 9) (as := [.int v1, .int 3, .int v2]) (rest := []) (rv := none) (hp' := xW B q44.2) (pc := 44) rfl xr88 rfl rfl rfl (xkd H (by decide)) (Nat.le_of_ble_eq_true rfl) (Z88_9 H h44 (by omega)) (Nat.le_refl _) ?_
  obtain rfl := Option.some.inj h
  exact r_ret (q := (.return_, 1, 0, 0, .null)) rfl rfl (fun _ => rfl)
set_option maxRecDepth 20000 in
theorem Z102_9 {B : zHp} (H : yH0 B) {F : Nat} {a1 : Int32} {a2 : Int32} {m : xS} {x : Unit × xS} (h : D102_9 F a1 a2 m = some x) {d : Nat} (hd : 2 ≤ d) : zCan d 102 [.ref 9, .int a1, .int a2] (xW B m) (none, xW B x.2) := by
  obtain ⟨e, rfl⟩ : ∃ e, d = e + 1 := ⟨d - 1, by omega⟩
  refine zCan_body (nL := 4) (rt := none) (cd := zc102) (xg102) ⟨Nat.le_of_ble_eq_true rfl, by decide⟩ (Nat.le_refl _) ?_
  exact T102_9 H hd F rfl rfl rfl h
/-- LentTools.lend -/
def D131_0_34 (F : Nat) (v1 : Int32) (v2 : Int32) (m : xS) : Option (Int32 × xS) :=
  some ((-1), m)
set_option maxRecDepth 20000 in
theorem T131_0_34 {B : zHp} (H : yH0 B) {e : Nat} (he : 5 ≤ e + 1) (F : Nat) {v1 : Int32} {v2 : Int32} {lv : List (Nat × Value)} {m : xS} {x : Int32 × xS} (l0 : zld lv 0 = some (.ref 0)) (l1 : zld lv 1 = some (.int v1)) (l2 : zld lv 2 = some (.int v2)) (h : D131_0_34 F v1 v2 m = some x) : zR none e 3 (some .int) zc131 (34, lv, []) (xW B m) (some (.int x.1), xW B x.2) := by
  unfold D131_0_34 at h
  refine r_s (fr' := (35, lv, [.int (-1)])) (hp' := xW B m) (q := (.iconst (-1), 1, 0, 0, .null)) rfl (fun _ => rfl) (Nat.le_refl _) ?_
  obtain rfl := Option.some.inj h
  exact q_ri (q := (.ireturn, 1, 0, 0, .null)) rfl (fun _ => rfl) rfl rfl
def D131_0 (F : Nat) (v1 : Int32) (v2 : Int32) (m : xS) : Option (Int32 × xS) :=
  (D83_9 F v1 m).bind fun q5 =>
    if zcmp .eq q5.1 0 = true then
      D131_0_34 F v1 v2 q5.2
    else
      (D85_9 F v2 q5.2).bind fun q16 =>
        if zcmp .eq q16.1 0 = true then
          D131_0_34 F v1 v2 q16.2
        else
          (D101_9 F v1 v2 q16.2).bind fun q28 =>
            if zcmp .ne q28.1 0 = true then
              (D16_14_9 F q28.2).bind fun q44 =>
                (D102_9 F v1 v2 q44.2).bind fun q53 =>
                  (D99_9 F v1 q53.2).bind fun q61 =>
                    some (q61.1, q61.2)
            else
              D131_0_34 F v1 v2 q28.2
set_option maxRecDepth 20000 in
theorem T131_0 {B : zHp} (H : yH0 B) {e : Nat} (he : 5 ≤ e + 1) (F : Nat) {v1 : Int32} {v2 : Int32} {lv : List (Nat × Value)} {m : xS} {x : Int32 × xS} (l0 : zld lv 0 = some (.ref 0)) (l1 : zld lv 1 = some (.int v1)) (l2 : zld lv 2 = some (.int v2)) (h : D131_0 F v1 v2 m = some x) : zR none e 3 (some .int) zc131 (0, lv, []) (xW B m) (some (.int x.1), xW B x.2) := by
  unfold D131_0 at h
  refine q_lr (k := 1) (i := 0) (q := (.aload_n 0, 1, 0, 0, .null)) rfl (fun _ => rfl) l0 ?_
  refine r_gr (c := 9) H (pc := 1) rfl (by decide) (by decide) ?_
  refine q_li (k := 1) (i := 1) (q := (.iload_n 1, 1, 0, 0, .null)) rfl (fun _ => rfl) l1 ?_
  obtain ⟨q5, h5, h⟩ := xbind h
  refine r_call (ix := 9) (as := [.int v1]) (rest := []) (rv := some (.int q5.1)) (hp' := xW B q5.2) (pc := 5) rfl xr83 rfl rfl rfl (xkd H (by decide)) (Nat.le_of_ble_eq_true rfl) (Z83_9 H h5 (by omega)) (Nat.le_refl _) ?_
  refine r_if (len := 3) (a := 34) (b := 0) (v0 := .null) (cn := .eq) (off := 26) rfl (fun c => ?_) (fun c => ?_)
  · rw [if_pos c] at h
    exact T131_0_34 H he F l0 l1 l2 h
  · rw [if_neg (by rw [c]; decide)] at h
    refine q_lr (k := 1) (i := 0) (q := (.aload_n 0, 1, 0, 0, .null)) rfl (fun _ => rfl) l0 ?_
    refine r_gr (c := 9) H (pc := 12) rfl (by decide) (by decide) ?_
    refine q_li (k := 1) (i := 2) (q := (.iload_n 2, 1, 0, 0, .null)) rfl (fun _ => rfl) l2 ?_
    obtain ⟨q16, h16, h⟩ := xbind h
    refine r_call (ix := 9) (as := [.int v2]) (rest := []) (rv := some (.int q16.1)) (hp' := xW B q16.2) (pc := 16) rfl xr85 rfl rfl rfl (xkd H (by decide)) (Nat.le_of_ble_eq_true rfl) (Z85_9 H h16 (by omega)) (Nat.le_refl _) ?_
    refine r_if (len := 3) (a := 34) (b := 0) (v0 := .null) (cn := .eq) (off := 15) rfl (fun c => ?_) (fun c => ?_)
    · rw [if_pos c] at h
      exact T131_0_34 H he F l0 l1 l2 h
    · rw [if_neg (by rw [c]; decide)] at h
      refine q_lr (k := 1) (i := 0) (q := (.aload_n 0, 1, 0, 0, .null)) rfl (fun _ => rfl) l0 ?_
      refine r_gr (c := 9) H (pc := 23) rfl (by decide) (by decide) ?_
      refine q_li (k := 1) (i := 1) (q := (.iload_n 1, 1, 0, 0, .null)) rfl (fun _ => rfl) l1 ?_
      refine q_li (k := 1) (i := 2) (q := (.iload_n 2, 1, 0, 0, .null)) rfl (fun _ => rfl) l2 ?_
      obtain ⟨q28, h28, h⟩ := xbind h
      refine r_call (ix := 9) (as := [.int v1, .int v2]) (rest := []) (rv := some (.int q28.1)) (hp' := xW B q28.2) (pc := 28) rfl xr101 rfl rfl rfl (xkd H (by decide)) (Nat.le_of_ble_eq_true rfl) (Z101_9 H h28 (by omega)) (Nat.le_refl _) ?_
      refine r_if (len := 3) (a := 36) (b := 0) (v0 := .null) (cn := .ne) (off := 5) rfl (fun c => ?_) (fun c => ?_)
      · rw [if_pos c] at h
        refine q_lr (k := 1) (i := 0) (q := (.aload_n 0, 1, 0, 0, .null)) rfl (fun _ => rfl) l0 ?_
        refine r_gr (c := 14) H (pc := 37) rfl (by decide) (by decide) ?_
        refine q_lr (k := 1) (i := 0) (q := (.aload_n 0, 1, 0, 0, .null)) rfl (fun _ => rfl) l0 ?_
        refine r_gr (c := 9) H (pc := 41) rfl (by decide) (by decide) ?_
        obtain ⟨q44, h44, h⟩ := xbind h
        refine r_call (ix := 14) (as := [.ref 9]) (rest := []) (rv := none) (hp' := xW B q44.2) (pc := 44) rfl xr16 rfl rfl rfl (xkd H (by decide)) (Nat.le_of_ble_eq_true rfl) (Z16_14_9 H h44 (by omega)) (Nat.le_refl _) ?_
        refine q_lr (k := 1) (i := 0) (q := (.aload_n 0, 1, 0, 0, .null)) rfl (fun _ => rfl) l0 ?_
        refine r_gr (c := 9) H (pc := 48) rfl (by decide) (by decide) ?_
        refine q_li (k := 1) (i := 1) (q := (.iload_n 1, 1, 0, 0, .null)) rfl (fun _ => rfl) l1 ?_
        refine q_li (k := 1) (i := 2) (q := (.iload_n 2, 1, 0, 0, .null)) rfl (fun _ => rfl) l2 ?_
        obtain ⟨q53, h53, h⟩ := xbind h
        refine r_call (ix := 9) (as := [.int v1, .int v2]) (rest := []) (rv := none) (hp' := xW B q53.2) (pc := 53) rfl xr102 rfl rfl rfl (xkd H (by decide)) (Nat.le_of_ble_eq_true rfl) (Z102_9 H h53 (by omega)) (Nat.le_refl _) ?_
        refine q_lr (k := 1) (i := 0) (q := (.aload_n 0, 1, 0, 0, .null)) rfl (fun _ => rfl) l0 ?_
        refine r_gr (c := 9) H (pc := 57) rfl (by decide) (by decide) ?_
        refine q_li (k := 1) (i := 1) (q := (.iload_n 1, 1, 0, 0, .null)) rfl (fun _ => rfl) l1 ?_
        obtain ⟨q61, h61, h⟩ := xbind h
        refine r_call (ix := 9) (as := [.int v1]) (rest := []) (rv := some (.int q61.1)) (hp' := xW B q61.2) (pc := 61) rfl xr99 rfl rfl rfl (xkd H (by decide)) (Nat.le_of_ble_eq_true rfl) (Z99_9 H h61 (by omega)) (Nat.le_refl _) ?_
        obtain rfl := Option.some.inj h
        exact q_ri (q := (.ireturn, 1, 0, 0, .null)) rfl (fun _ => rfl) rfl rfl
      · rw [if_neg (by rw [c]; decide)] at h
        exact T131_0_34 H he F l0 l1 l2 h
set_option maxRecDepth 20000 in
theorem Z131_0 {B : zHp} (H : yH0 B) {F : Nat} {a1 : Int32} {a2 : Int32} {m : xS} {x : Int32 × xS} (h : D131_0 F a1 a2 m = some x) {d : Nat} (hd : 5 ≤ d) : zCan d 131 [.ref 0, .int a1, .int a2] (xW B m) (some (.int x.1), xW B x.2) := by
  obtain ⟨e, rfl⟩ : ∃ e, d = e + 1 := ⟨d - 1, by omega⟩
  refine zCan_body (nL := 3) (rt := (some .int)) (cd := zc131) (xg131) ⟨Nat.le_of_ble_eq_true rfl, by decide⟩ (Nat.le_refl _) ?_
  exact T131_0 H hd F rfl rfl rfl h
/-- LentTools$Village.giveAway -/
def D104_9 (F : Nat) (v1 : Int32) (v2 : Int32) (m : xS) : Option (Unit × xS) :=
  (D88_9 F v1 0 v2 m).bind fun q4 =>
    (D88_9 F v1 3 v2 q4.2).bind fun q11 =>
      (D88_9 F v1 4 0 q11.2).bind fun q18 =>
        (D88_9 F v1 5 0 q18.2).bind fun q25 =>
          some ((), q25.2)
set_option maxRecDepth 20000 in
theorem T104_9 {B : zHp} (H : yH0 B) {e : Nat} (he : 2 ≤ e + 1) (F : Nat) {v1 : Int32} {v2 : Int32} {lv : List (Nat × Value)} {m : xS} {x : Unit × xS} (l0 : zld lv 0 = some (.ref 9)) (l1 : zld lv 1 = some (.int v1)) (l2 : zld lv 2 = some (.int v2)) (h : D104_9 F v1 v2 m = some x) : zR none e 3 none zc104 (0, lv, []) (xW B m) (none, xW B x.2) := by
  unfold D104_9 at h
  refine q_lr (k := 1) (i := 0) (q := (.aload_n 0, 1, 0, 0, .null)) rfl (fun _ => rfl) l0 ?_
  refine q_li (k := 1) (i := 1) (q := (.iload_n 1, 1, 0, 0, .null)) rfl (fun _ => rfl) l1 ?_
  refine r_s (fr' := (3, lv, [.int 0, .int v1, .ref 9])) (hp' := xW B m) (q := (.iconst 0, 1, 0, 0, .null)) rfl (fun _ => rfl) (Nat.le_refl _) ?_
  refine q_li (k := 1) (i := 2) (q := (.iload_n 2, 1, 0, 0, .null)) rfl (fun _ => rfl) l2 ?_
  obtain ⟨q4, h4, h⟩ := xbind h
  refine r_call (ix := 9) (as := [.int v1, .int 0, .int v2]) (rest := []) (rv := none) (hp' := xW B q4.2) (pc := 4) rfl xr88 rfl rfl rfl (xkd H (by decide)) (Nat.le_of_ble_eq_true rfl) (Z88_9 H h4 (by omega)) (Nat.le_refl _) ?_
  refine q_lr (k := 1) (i := 0) (q := (.aload_n 0, 1, 0, 0, .null)) rfl (fun _ => rfl) l0 ?_
  refine q_li (k := 1) (i := 1) (q := (.iload_n 1, 1, 0, 0, .null)) rfl (fun _ => rfl) l1 ?_
  refine r_s (fr' := (10, lv, [.int 3, .int v1, .ref 9])) (hp' := xW B q4.2) (q := (.iconst 3, 1, 0, 0, .null)) rfl (fun _ => rfl) (Nat.le_refl _) ?_
  refine q_li (k := 1) (i := 2) (q := (.iload_n 2, 1, 0, 0, .null)) rfl (fun _ => rfl) l2 ?_
  obtain ⟨q11, h11, h⟩ := xbind h
  refine r_call (ix := 9) (as := [.int v1, .int 3, .int v2]) (rest := []) (rv := none) (hp' := xW B q11.2) (pc := 11) rfl xr88 rfl rfl rfl (xkd H (by decide)) (Nat.le_of_ble_eq_true rfl) (Z88_9 H h11 (by omega)) (Nat.le_refl _) ?_
  refine q_lr (k := 1) (i := 0) (q := (.aload_n 0, 1, 0, 0, .null)) rfl (fun _ => rfl) l0 ?_
  refine q_li (k := 1) (i := 1) (q := (.iload_n 1, 1, 0, 0, .null)) rfl (fun _ => rfl) l1 ?_
  refine r_s (fr' := (17, lv, [.int 4, .int v1, .ref 9])) (hp' := xW B q11.2) (q := (.iconst 4, 1, 0, 0, .null)) rfl (fun _ => rfl) (Nat.le_refl _) ?_
  refine r_s (fr' := (18, lv, [.int 0, .int 4, .int v1, .ref 9])) (hp' := xW B q11.2) (q := (.iconst 0, 1, 0, 0, .null)) rfl (fun _ => rfl) (Nat.le_refl _) ?_
  obtain ⟨q18, h18, h⟩ := xbind h
  refine r_call (ix := 9) (as := [.int v1, .int 4, .int 0]) (rest := []) (rv := none) (hp' := xW B q18.2) (pc := 18) rfl xr88 rfl rfl rfl (xkd H (by decide)) (Nat.le_of_ble_eq_true rfl) (Z88_9 H h18 (by omega)) (Nat.le_refl _) ?_
  refine q_lr (k := 1) (i := 0) (q := (.aload_n 0, 1, 0, 0, .null)) rfl (fun _ => rfl) l0 ?_
  refine q_li (k := 1) (i := 1) (q := (.iload_n 1, 1, 0, 0, .null)) rfl (fun _ => rfl) l1 ?_
  refine r_s (fr' := (24, lv, [.int 5, .int v1, .ref 9])) (hp' := xW B q18.2) (q := (.iconst 5, 1, 0, 0, .null)) rfl (fun _ => rfl) (Nat.le_refl _) ?_
  refine r_s (fr' := (25, lv, [.int 0, .int 5, .int v1, .ref 9])) (hp' := xW B q18.2) (q := (.iconst 0, 1, 0, 0, .null)) rfl (fun _ => rfl) (Nat.le_refl _) ?_
  obtain ⟨q25, h25, h⟩ := xbind h
  refine r_call (ix := 9) (as := [.int v1, .int 5, .int 0]) (rest := []) (rv := none) (hp' := xW B q25.2) (pc := 25) rfl xr88 rfl rfl rfl (xkd H (by decide)) (Nat.le_of_ble_eq_true rfl) (Z88_9 H h25 (by omega)) (Nat.le_refl _) ?_
  obtain rfl := Option.some.inj h
  exact r_ret (q := (.return_, 1, 0, 0, .null)) rfl rfl (fun _ => rfl)
set_option maxRecDepth 20000 in
theorem Z104_9 {B : zHp} (H : yH0 B) {F : Nat} {a1 : Int32} {a2 : Int32} {m : xS} {x : Unit × xS} (h : D104_9 F a1 a2 m = some x) {d : Nat} (hd : 2 ≤ d) : zCan d 104 [.ref 9, .int a1, .int a2] (xW B m) (none, xW B x.2) := by
  obtain ⟨e, rfl⟩ : ∃ e, d = e + 1 := ⟨d - 1, by omega⟩
  refine zCan_body (nL := 3) (rt := none) (cd := zc104) (xg104) ⟨Nat.le_of_ble_eq_true rfl, by decide⟩ (Nat.le_refl _) ?_
  exact T104_9 H hd F rfl rfl rfl h
/-- LentTools$Village.bringHome -/
def D103_9 (F : Nat) (v1 : Int32) (m : xS) : Option (Unit × xS) :=
  (D87_9 F v1 0 m).bind fun q5 =>
    (D104_9 F v1 q5.1 q5.2).bind fun q8 =>
      some ((), q8.2)
set_option maxRecDepth 20000 in
theorem T103_9 {B : zHp} (H : yH0 B) {e : Nat} (he : 3 ≤ e + 1) (F : Nat) {v1 : Int32} {lv : List (Nat × Value)} {m : xS} {x : Unit × xS} (l0 : zld lv 0 = some (.ref 9)) (l1 : zld lv 1 = some (.int v1)) (h : D103_9 F v1 m = some x) : zR none e 2 none zc103 (0, lv, []) (xW B m) (none, xW B x.2) := by
  unfold D103_9 at h
  refine q_lr (k := 1) (i := 0) (q := (.aload_n 0, 1, 0, 0, .null)) rfl (fun _ => rfl) l0 ?_
  refine q_li (k := 1) (i := 1) (q := (.iload_n 1, 1, 0, 0, .null)) rfl (fun _ => rfl) l1 ?_
  refine q_lr (k := 1) (i := 0) (q := (.aload_n 0, 1, 0, 0, .null)) rfl (fun _ => rfl) l0 ?_
  refine q_li (k := 1) (i := 1) (q := (.iload_n 1, 1, 0, 0, .null)) rfl (fun _ => rfl) l1 ?_
  refine r_s (fr' := (5, lv, [.int 0, .int v1, .ref 9, .int v1, .ref 9])) (hp' := xW B m) (q := (.iconst 0, 1, 0, 0, .null)) rfl (fun _ => rfl) (Nat.le_refl _) ?_
  obtain ⟨q5, h5, h⟩ := xbind h
  refine r_call (ix := 9) (as := [.int v1, .int 0]) (rest := [.int v1, .ref 9]) (rv := some (.int q5.1)) (hp' := xW B q5.2) (pc := 5) rfl xr87 rfl rfl rfl (xkd H (by decide)) (Nat.le_of_ble_eq_true rfl) (Z87_9 H h5 (by omega)) (Nat.le_refl _) ?_
  obtain ⟨q8, h8, h⟩ := xbind h
  refine r_call (ix := 9) (as := [.int v1, .int q5.1]) (rest := []) (rv := none) (hp' := xW B q8.2) (pc := 8) rfl xr104 rfl rfl rfl (xkd H (by decide)) (Nat.le_of_ble_eq_true rfl) (Z104_9 H h8 (by omega)) (Nat.le_refl _) ?_
  obtain rfl := Option.some.inj h
  exact r_ret (q := (.return_, 1, 0, 0, .null)) rfl rfl (fun _ => rfl)
set_option maxRecDepth 20000 in
theorem Z103_9 {B : zHp} (H : yH0 B) {F : Nat} {a1 : Int32} {m : xS} {x : Unit × xS} (h : D103_9 F a1 m = some x) {d : Nat} (hd : 3 ≤ d) : zCan d 103 [.ref 9, .int a1] (xW B m) (none, xW B x.2) := by
  obtain ⟨e, rfl⟩ : ∃ e, d = e + 1 := ⟨d - 1, by omega⟩
  refine zCan_body (nL := 2) (rt := none) (cd := zc103) (xg103) ⟨Nat.le_of_ble_eq_true rfl, by decide⟩ (Nat.le_refl _) ?_
  exact T103_9 H hd F rfl rfl h
/-- LentTools.giveBack -/
def D132_0_22 (F : Nat) (v1 : Int32) (m : xS) : Option (Int32 × xS) :=
  some ((-1), m)
set_option maxRecDepth 20000 in
theorem T132_0_22 {B : zHp} (H : yH0 B) {e : Nat} (he : 4 ≤ e + 1) (F : Nat) {v1 : Int32} {lv : List (Nat × Value)} {m : xS} {x : Int32 × xS} (l0 : zld lv 0 = some (.ref 0)) (l1 : zld lv 1 = some (.int v1)) (h : D132_0_22 F v1 m = some x) : zR none e 2 (some .int) zc132 (22, lv, []) (xW B m) (some (.int x.1), xW B x.2) := by
  unfold D132_0_22 at h
  refine r_s (fr' := (23, lv, [.int (-1)])) (hp' := xW B m) (q := (.iconst (-1), 1, 0, 0, .null)) rfl (fun _ => rfl) (Nat.le_refl _) ?_
  obtain rfl := Option.some.inj h
  exact q_ri (q := (.ireturn, 1, 0, 0, .null)) rfl (fun _ => rfl) rfl rfl
def D132_0 (F : Nat) (v1 : Int32) (m : xS) : Option (Int32 × xS) :=
  (D83_9 F v1 m).bind fun q5 =>
    if zcmp .eq q5.1 0 = true then
      D132_0_22 F v1 q5.2
    else
      (D97_9 F v1 q5.2).bind fun q16 =>
        if zcmp .eq q16.1 0 = true then
          (D16_14_9 F q16.2).bind fun q32 =>
            (D103_9 F v1 q32.2).bind fun q40 =>
              (D87_9 F v1 0 q40.2).bind fun q49 =>
                some (q49.1, q49.2)
        else
          D132_0_22 F v1 q16.2
set_option maxRecDepth 20000 in
theorem T132_0 {B : zHp} (H : yH0 B) {e : Nat} (he : 4 ≤ e + 1) (F : Nat) {v1 : Int32} {lv : List (Nat × Value)} {m : xS} {x : Int32 × xS} (l0 : zld lv 0 = some (.ref 0)) (l1 : zld lv 1 = some (.int v1)) (h : D132_0 F v1 m = some x) : zR none e 2 (some .int) zc132 (0, lv, []) (xW B m) (some (.int x.1), xW B x.2) := by
  unfold D132_0 at h
  refine q_lr (k := 1) (i := 0) (q := (.aload_n 0, 1, 0, 0, .null)) rfl (fun _ => rfl) l0 ?_
  refine r_gr (c := 9) H (pc := 1) rfl (by decide) (by decide) ?_
  refine q_li (k := 1) (i := 1) (q := (.iload_n 1, 1, 0, 0, .null)) rfl (fun _ => rfl) l1 ?_
  obtain ⟨q5, h5, h⟩ := xbind h
  refine r_call (ix := 9) (as := [.int v1]) (rest := []) (rv := some (.int q5.1)) (hp' := xW B q5.2) (pc := 5) rfl xr83 rfl rfl rfl (xkd H (by decide)) (Nat.le_of_ble_eq_true rfl) (Z83_9 H h5 (by omega)) (Nat.le_refl _) ?_
  refine r_if (len := 3) (a := 22) (b := 0) (v0 := .null) (cn := .eq) (off := 14) rfl (fun c => ?_) (fun c => ?_)
  · rw [if_pos c] at h
    exact T132_0_22 H he F l0 l1 h
  · rw [if_neg (by rw [c]; decide)] at h
    refine q_lr (k := 1) (i := 0) (q := (.aload_n 0, 1, 0, 0, .null)) rfl (fun _ => rfl) l0 ?_
    refine r_gr (c := 9) H (pc := 12) rfl (by decide) (by decide) ?_
    refine q_li (k := 1) (i := 1) (q := (.iload_n 1, 1, 0, 0, .null)) rfl (fun _ => rfl) l1 ?_
    obtain ⟨q16, h16, h⟩ := xbind h
    refine r_call (ix := 9) (as := [.int v1]) (rest := []) (rv := some (.int q16.1)) (hp' := xW B q16.2) (pc := 16) rfl xr97 rfl rfl rfl (xkd H (by decide)) (Nat.le_of_ble_eq_true rfl) (Z97_9 H h16 (by omega)) (Nat.le_refl _) ?_
    refine r_if (len := 3) (a := 24) (b := 0) (v0 := .null) (cn := .eq) (off := 5) rfl (fun c => ?_) (fun c => ?_)
    · rw [if_pos c] at h
      refine q_lr (k := 1) (i := 0) (q := (.aload_n 0, 1, 0, 0, .null)) rfl (fun _ => rfl) l0 ?_
      refine r_gr (c := 14) H (pc := 25) rfl (by decide) (by decide) ?_
      refine q_lr (k := 1) (i := 0) (q := (.aload_n 0, 1, 0, 0, .null)) rfl (fun _ => rfl) l0 ?_
      refine r_gr (c := 9) H (pc := 29) rfl (by decide) (by decide) ?_
      obtain ⟨q32, h32, h⟩ := xbind h
      refine r_call (ix := 14) (as := [.ref 9]) (rest := []) (rv := none) (hp' := xW B q32.2) (pc := 32) rfl xr16 rfl rfl rfl (xkd H (by decide)) (Nat.le_of_ble_eq_true rfl) (Z16_14_9 H h32 (by omega)) (Nat.le_refl _) ?_
      refine q_lr (k := 1) (i := 0) (q := (.aload_n 0, 1, 0, 0, .null)) rfl (fun _ => rfl) l0 ?_
      refine r_gr (c := 9) H (pc := 36) rfl (by decide) (by decide) ?_
      refine q_li (k := 1) (i := 1) (q := (.iload_n 1, 1, 0, 0, .null)) rfl (fun _ => rfl) l1 ?_
      obtain ⟨q40, h40, h⟩ := xbind h
      refine r_call (ix := 9) (as := [.int v1]) (rest := []) (rv := none) (hp' := xW B q40.2) (pc := 40) rfl xr103 rfl rfl rfl (xkd H (by decide)) (Nat.le_of_ble_eq_true rfl) (Z103_9 H h40 (by omega)) (Nat.le_refl _) ?_
      refine q_lr (k := 1) (i := 0) (q := (.aload_n 0, 1, 0, 0, .null)) rfl (fun _ => rfl) l0 ?_
      refine r_gr (c := 9) H (pc := 44) rfl (by decide) (by decide) ?_
      refine q_li (k := 1) (i := 1) (q := (.iload_n 1, 1, 0, 0, .null)) rfl (fun _ => rfl) l1 ?_
      refine r_s (fr' := (49, lv, [.int 0, .int v1, .ref 9])) (hp' := xW B q40.2) (q := (.iconst 0, 1, 0, 0, .null)) rfl (fun _ => rfl) (Nat.le_refl _) ?_
      obtain ⟨q49, h49, h⟩ := xbind h
      refine r_call (ix := 9) (as := [.int v1, .int 0]) (rest := []) (rv := some (.int q49.1)) (hp' := xW B q49.2) (pc := 49) rfl xr87 rfl rfl rfl (xkd H (by decide)) (Nat.le_of_ble_eq_true rfl) (Z87_9 H h49 (by omega)) (Nat.le_refl _) ?_
      obtain rfl := Option.some.inj h
      exact q_ri (q := (.ireturn, 1, 0, 0, .null)) rfl (fun _ => rfl) rfl rfl
    · rw [if_neg (by rw [c]; decide)] at h
      exact T132_0_22 H he F l0 l1 h
set_option maxRecDepth 20000 in
theorem Z132_0 {B : zHp} (H : yH0 B) {F : Nat} {a1 : Int32} {m : xS} {x : Int32 × xS} (h : D132_0 F a1 m = some x) {d : Nat} (hd : 4 ≤ d) : zCan d 132 [.ref 0, .int a1] (xW B m) (some (.int x.1), xW B x.2) := by
  obtain ⟨e, rfl⟩ : ∃ e, d = e + 1 := ⟨d - 1, by omega⟩
  refine zCan_body (nL := 2) (rt := (some .int)) (cd := zc132) (xg132) ⟨Nat.le_of_ble_eq_true rfl, by decide⟩ (Nat.le_refl _) ?_
  exact T132_0 H hd F rfl rfl h
/-- LentTools$Village.today -/
def D81_9 (F : Nat) (m : xS) : Option (Int32 × xS) :=
  some ((m.1 10 4), m)
set_option maxRecDepth 20000 in
theorem T81_9 {B : zHp} (H : yH0 B) {e : Nat} (he : 1 ≤ e + 1) (F : Nat) {lv : List (Nat × Value)} {m : xS} {x : Int32 × xS} (l0 : zld lv 0 = some (.ref 9)) (h : D81_9 F m = some x) : zR none e 1 (some .int) zc81 (0, lv, []) (xW B m) (some (.int x.1), xW B x.2) := by
  unfold D81_9 at h
  refine q_lr (k := 1) (i := 0) (q := (.aload_n 0, 1, 0, 0, .null)) rfl (fun _ => rfl) l0 ?_
  refine r_gr (c := 10) H (pc := 1) rfl (by decide) (by decide) ?_
  refine r_s (fr' := (5, lv, [.int 4, .ref 10])) (hp' := xW B m) (q := (.iconst 4, 1, 0, 0, .null)) rfl (fun _ => rfl) (Nat.le_refl _) ?_
  refine q_al (n := 114) (v := (m.1 10 4)) H (pc := 5) rfl (by decide) (by decide) rfl ?_
  obtain rfl := Option.some.inj h
  exact q_ri (q := (.ireturn, 1, 0, 0, .null)) rfl (fun _ => rfl) rfl rfl
set_option maxRecDepth 20000 in
theorem Z81_9 {B : zHp} (H : yH0 B) {F : Nat} {m : xS} {x : Int32 × xS} (h : D81_9 F m = some x) {d : Nat} (hd : 1 ≤ d) : zCan d 81 [.ref 9] (xW B m) (some (.int x.1), xW B x.2) := by
  obtain ⟨e, rfl⟩ : ∃ e, d = e + 1 := ⟨d - 1, by omega⟩
  refine zCan_body (nL := 1) (rt := (some .int)) (cd := zc81) (xg81) ⟨Nat.le_of_ble_eq_true rfl, by decide⟩ (Nat.le_refl _) ?_
  exact T81_9 H hd F rfl h
/-- LentTools$Village.setOfWork -/
def D90_9 (F : Nat) (v1 : Int32) (v2 : Int32) (v3 : Int32) (m : xS) : Option (Unit × xS) :=
  if xib ((42 + (6 * v2)) + v1) 114 = true then
    some ((), (xu m 10 (((42 + (6 * v2)) + v1) : Int32).toNatClampNeg v3))
  else none
set_option maxRecDepth 20000 in
theorem T90_9 {B : zHp} (H : yH0 B) {e : Nat} (he : 1 ≤ e + 1) (F : Nat) {v1 : Int32} {v2 : Int32} {v3 : Int32} {lv : List (Nat × Value)} {m : xS} {x : Unit × xS} (l0 : zld lv 0 = some (.ref 9)) (l1 : zld lv 1 = some (.int v1)) (l2 : zld lv 2 = some (.int v2)) (l3 : zld lv 3 = some (.int v3)) (h : D90_9 F v1 v2 v3 m = some x) : zR none e 4 none zc90 (0, lv, []) (xW B m) (none, xW B x.2) := by
  unfold D90_9 at h
  refine q_lr (k := 1) (i := 0) (q := (.aload_n 0, 1, 0, 0, .null)) rfl (fun _ => rfl) l0 ?_
  refine r_gr (c := 10) H (pc := 1) rfl (by decide) (by decide) ?_
  refine r_s (fr' := (6, lv, [.int 42, .ref 10])) (hp' := xW B m) (q := (.bipush 42, 2, 0, 0, .null)) rfl (fun _ => rfl) (Nat.le_refl _) ?_
  refine r_s (fr' := (8, lv, [.int 6, .int 42, .ref 10])) (hp' := xW B m) (q := (.bipush 6, 2, 0, 0, .null)) rfl (fun _ => rfl) (Nat.le_refl _) ?_
  refine q_li (k := 1) (i := 2) (q := (.iload_n 2, 1, 0, 0, .null)) rfl (fun _ => rfl) l2 ?_
  refine r_s (fr' := (10, lv, [.int (6 * v2), .int 42, .ref 10])) (hp' := xW B m) (q := (.imul, 1, 0, 0, .null)) rfl (fun _ => rfl) (Nat.le_refl _) ?_
  refine r_s (fr' := (11, lv, [.int (42 + (6 * v2)), .ref 10])) (hp' := xW B m) (q := (.iadd, 1, 0, 0, .null)) rfl (fun _ => rfl) (Nat.le_refl _) ?_
  refine q_li (k := 1) (i := 1) (q := (.iload_n 1, 1, 0, 0, .null)) rfl (fun _ => rfl) l1 ?_
  refine r_s (fr' := (13, lv, [.int ((42 + (6 * v2)) + v1), .ref 10])) (hp' := xW B m) (q := (.iadd, 1, 0, 0, .null)) rfl (fun _ => rfl) (Nat.le_refl _) ?_
  refine q_li (k := 1) (i := 3) (q := (.iload_n 3, 1, 0, 0, .null)) rfl (fun _ => rfl) l3 ?_
  obtain ⟨c1, h⟩ := xif h
  refine q_as (n := 114) (s2 := (xu m 10 (((42 + (6 * v2)) + v1) : Int32).toNatClampNeg v3)) H (pc := 14) rfl (by decide) c1 rfl ?_
  obtain rfl := Option.some.inj h
  exact r_ret (q := (.return_, 1, 0, 0, .null)) rfl rfl (fun _ => rfl)
set_option maxRecDepth 20000 in
theorem Z90_9 {B : zHp} (H : yH0 B) {F : Nat} {a1 : Int32} {a2 : Int32} {a3 : Int32} {m : xS} {x : Unit × xS} (h : D90_9 F a1 a2 a3 m = some x) {d : Nat} (hd : 1 ≤ d) : zCan d 90 [.ref 9, .int a1, .int a2, .int a3] (xW B m) (none, xW B x.2) := by
  obtain ⟨e, rfl⟩ : ∃ e, d = e + 1 := ⟨d - 1, by omega⟩
  refine zCan_body (nL := 4) (rt := none) (cd := zc90) (xg90) ⟨Nat.le_of_ble_eq_true rfl, by decide⟩ (Nat.le_refl _) ?_
  exact T90_9 H hd F rfl rfl rfl rfl h
/-- LentTools$Village.finishWork -/
def D108_9 (F : Nat) (v1 : Int32) (m : xS) : Option (Int32 × xS) :=
  (D89_9 F v1 3 m).bind fun q3 =>
    (D81_9 F q3.2).bind fun q11 =>
      (D90_9 F v1 4 q11.1 q11.2).bind fun q14 =>
        some (q3.1, (xu q14.2 10 5 ((q14.2.1 10 5) + q3.1)))
set_option maxRecDepth 20000 in
theorem T108_9 {B : zHp} (H : yH0 B) {e : Nat} (he : 2 ≤ e + 1) (F : Nat) {v1 : Int32} {lv : List (Nat × Value)} {m : xS} {x : Int32 × xS} (l0 : zld lv 0 = some (.ref 9)) (l1 : zld lv 1 = some (.int v1)) (h : D108_9 F v1 m = some x) : zR none e 3 (some .int) zc108 (0, lv, []) (xW B m) (some (.int x.1), xW B x.2) := by
  unfold D108_9 at h
  refine q_lr (k := 1) (i := 0) (q := (.aload_n 0, 1, 0, 0, .null)) rfl (fun _ => rfl) l0 ?_
  refine q_li (k := 1) (i := 1) (q := (.iload_n 1, 1, 0, 0, .null)) rfl (fun _ => rfl) l1 ?_
  refine r_s (fr' := (3, lv, [.int 3, .int v1, .ref 9])) (hp' := xW B m) (q := (.iconst 3, 1, 0, 0, .null)) rfl (fun _ => rfl) (Nat.le_refl _) ?_
  obtain ⟨q3, h3, h⟩ := xbind h
  refine r_call (ix := 9) (as := [.int v1, .int 3]) (rest := []) (rv := some (.int q3.1)) (hp' := xW B q3.2) (pc := 3) rfl xr89 rfl rfl rfl (xkd H (by decide)) (Nat.le_of_ble_eq_true rfl) (Z89_9 H h3 (by omega)) (Nat.le_refl _) ?_
  refine q_si (k := 1) (i := 2) (q := (.istore_n 2, 1, 0, 0, .null)) rfl (fun _ => rfl) (by decide) ?_
  have l0_1 : zld (zs1 lv 2 (.int q3.1)) 0 = some (.ref 9) := x_o1 l0 rfl rfl
  have l1_1 : zld (zs1 lv 2 (.int q3.1)) 1 = some (.int v1) := x_o1 l1 rfl rfl
  have l2_1 : zld (zs1 lv 2 (.int q3.1)) 2 = some (.int q3.1) := zs1_ld _ _ _
  generalize (zs1 lv 2 (.int q3.1)) = lv1 at *
  refine q_lr (k := 1) (i := 0) (q := (.aload_n 0, 1, 0, 0, .null)) rfl (fun _ => rfl) l0_1 ?_
  refine q_li (k := 1) (i := 1) (q := (.iload_n 1, 1, 0, 0, .null)) rfl (fun _ => rfl) l1_1 ?_
  refine r_s (fr' := (10, lv1, [.int 4, .int v1, .ref 9])) (hp' := xW B q3.2) (q := (.iconst 4, 1, 0, 0, .null)) rfl (fun _ => rfl) (Nat.le_refl _) ?_
  refine q_lr (k := 1) (i := 0) (q := (.aload_n 0, 1, 0, 0, .null)) rfl (fun _ => rfl) l0_1 ?_
  obtain ⟨q11, h11, h⟩ := xbind h
  refine r_call (ix := 9) (as := []) (rest := [.int 4, .int v1, .ref 9]) (rv := some (.int q11.1)) (hp' := xW B q11.2) (pc := 11) rfl xr81 rfl rfl rfl (xkd H (by decide)) (Nat.le_of_ble_eq_true rfl) (Z81_9 H h11 (by omega)) (Nat.le_refl _) ?_
  obtain ⟨q14, h14, h⟩ := xbind h
  refine r_call (ix := 9) (as := [.int v1, .int 4, .int q11.1]) (rest := []) (rv := none) (hp' := xW B q14.2) (pc := 14) rfl xr90 rfl rfl rfl (xkd H (by decide)) (Nat.le_of_ble_eq_true rfl) (Z90_9 H h14 (by omega)) (Nat.le_refl _) ?_
  refine q_lr (k := 1) (i := 0) (q := (.aload_n 0, 1, 0, 0, .null)) rfl (fun _ => rfl) l0_1 ?_
  refine r_gr (c := 10) H (pc := 18) rfl (by decide) (by decide) ?_
  refine r_s (fr' := (22, lv1, [.int 5, .ref 10])) (hp' := xW B q14.2) (q := (.iconst 5, 1, 0, 0, .null)) rfl (fun _ => rfl) (Nat.le_refl _) ?_
  refine r_s (fr' := (23, lv1, [.int 5, .ref 10, .int 5, .ref 10])) (hp' := xW B q14.2) (q := (.dup2, 1, 0, 0, .null)) rfl (fun _ => rfl) (Nat.le_refl _) ?_
  refine q_al (n := 114) (v := (q14.2.1 10 5)) H (pc := 23) rfl (by decide) (by decide) rfl ?_
  refine q_li (k := 1) (i := 2) (q := (.iload_n 2, 1, 0, 0, .null)) rfl (fun _ => rfl) l2_1 ?_
  refine r_s (fr' := (26, lv1, [.int ((q14.2.1 10 5) + q3.1), .int 5, .ref 10])) (hp' := xW B q14.2) (q := (.iadd, 1, 0, 0, .null)) rfl (fun _ => rfl) (Nat.le_refl _) ?_
  refine q_as (n := 114) (s2 := (xu q14.2 10 5 ((q14.2.1 10 5) + q3.1))) H (pc := 26) rfl (by decide) (by decide) rfl ?_
  refine q_li (k := 1) (i := 2) (q := (.iload_n 2, 1, 0, 0, .null)) rfl (fun _ => rfl) l2_1 ?_
  obtain rfl := Option.some.inj h
  exact q_ri (q := (.ireturn, 1, 0, 0, .null)) rfl (fun _ => rfl) rfl rfl
set_option maxRecDepth 20000 in
theorem Z108_9 {B : zHp} (H : yH0 B) {F : Nat} {a1 : Int32} {m : xS} {x : Int32 × xS} (h : D108_9 F a1 m = some x) {d : Nat} (hd : 2 ≤ d) : zCan d 108 [.ref 9, .int a1] (xW B m) (some (.int x.1), xW B x.2) := by
  obtain ⟨e, rfl⟩ : ∃ e, d = e + 1 := ⟨d - 1, by omega⟩
  refine zCan_body (nL := 3) (rt := (some .int)) (cd := zc108) (xg108) ⟨Nat.le_of_ble_eq_true rfl, by decide⟩ (Nat.le_refl _) ?_
  exact T108_9 H hd F rfl rfl h
/-- LentTools.does -/
def D133_0_22 (F : Nat) (v1 : Int32) (m : xS) : Option (Int32 × xS) :=
  some ((-1), m)
set_option maxRecDepth 20000 in
theorem T133_0_22 {B : zHp} (H : yH0 B) {e : Nat} (he : 6 ≤ e + 1) (F : Nat) {v1 : Int32} {lv : List (Nat × Value)} {m : xS} {x : Int32 × xS} (l0 : zld lv 0 = some (.ref 0)) (l1 : zld lv 1 = some (.int v1)) (h : D133_0_22 F v1 m = some x) : zR none e 2 (some .int) zc133 (22, lv, []) (xW B m) (some (.int x.1), xW B x.2) := by
  unfold D133_0_22 at h
  refine r_s (fr' := (23, lv, [.int (-1)])) (hp' := xW B m) (q := (.iconst (-1), 1, 0, 0, .null)) rfl (fun _ => rfl) (Nat.le_refl _) ?_
  obtain rfl := Option.some.inj h
  exact q_ri (q := (.ireturn, 1, 0, 0, .null)) rfl (fun _ => rfl) rfl rfl
def D133_0 (F : Nat) (v1 : Int32) (m : xS) : Option (Int32 × xS) :=
  (D84_9 F v1 m).bind fun q5 =>
    if zcmp .eq q5.1 0 = true then
      D133_0_22 F v1 q5.2
    else
      (D107_9 F v1 q5.2).bind fun q16 =>
        if zcmp .ne q16.1 0 = true then
          (D16_14_9 F q16.2).bind fun q32 =>
            (D108_9 F v1 q32.2).bind fun q40 =>
              some (q40.1, q40.2)
        else
          D133_0_22 F v1 q16.2
set_option maxRecDepth 20000 in
theorem T133_0 {B : zHp} (H : yH0 B) {e : Nat} (he : 6 ≤ e + 1) (F : Nat) {v1 : Int32} {lv : List (Nat × Value)} {m : xS} {x : Int32 × xS} (l0 : zld lv 0 = some (.ref 0)) (l1 : zld lv 1 = some (.int v1)) (h : D133_0 F v1 m = some x) : zR none e 2 (some .int) zc133 (0, lv, []) (xW B m) (some (.int x.1), xW B x.2) := by
  unfold D133_0 at h
  refine q_lr (k := 1) (i := 0) (q := (.aload_n 0, 1, 0, 0, .null)) rfl (fun _ => rfl) l0 ?_
  refine r_gr (c := 9) H (pc := 1) rfl (by decide) (by decide) ?_
  refine q_li (k := 1) (i := 1) (q := (.iload_n 1, 1, 0, 0, .null)) rfl (fun _ => rfl) l1 ?_
  obtain ⟨q5, h5, h⟩ := xbind h
  refine r_call (ix := 9) (as := [.int v1]) (rest := []) (rv := some (.int q5.1)) (hp' := xW B q5.2) (pc := 5) rfl xr84 rfl rfl rfl (xkd H (by decide)) (Nat.le_of_ble_eq_true rfl) (Z84_9 H h5 (by omega)) (Nat.le_refl _) ?_
  refine r_if (len := 3) (a := 22) (b := 0) (v0 := .null) (cn := .eq) (off := 14) rfl (fun c => ?_) (fun c => ?_)
  · rw [if_pos c] at h
    exact T133_0_22 H he F l0 l1 h
  · rw [if_neg (by rw [c]; decide)] at h
    refine q_lr (k := 1) (i := 0) (q := (.aload_n 0, 1, 0, 0, .null)) rfl (fun _ => rfl) l0 ?_
    refine r_gr (c := 9) H (pc := 12) rfl (by decide) (by decide) ?_
    refine q_li (k := 1) (i := 1) (q := (.iload_n 1, 1, 0, 0, .null)) rfl (fun _ => rfl) l1 ?_
    obtain ⟨q16, h16, h⟩ := xbind h
    refine r_call (ix := 9) (as := [.int v1]) (rest := []) (rv := some (.int q16.1)) (hp' := xW B q16.2) (pc := 16) rfl xr107 rfl rfl rfl (xkd H (by decide)) (Nat.le_of_ble_eq_true rfl) (Z107_9 H h16 (by omega)) (Nat.le_refl _) ?_
    refine r_if (len := 3) (a := 24) (b := 0) (v0 := .null) (cn := .ne) (off := 5) rfl (fun c => ?_) (fun c => ?_)
    · rw [if_pos c] at h
      refine q_lr (k := 1) (i := 0) (q := (.aload_n 0, 1, 0, 0, .null)) rfl (fun _ => rfl) l0 ?_
      refine r_gr (c := 14) H (pc := 25) rfl (by decide) (by decide) ?_
      refine q_lr (k := 1) (i := 0) (q := (.aload_n 0, 1, 0, 0, .null)) rfl (fun _ => rfl) l0 ?_
      refine r_gr (c := 9) H (pc := 29) rfl (by decide) (by decide) ?_
      obtain ⟨q32, h32, h⟩ := xbind h
      refine r_call (ix := 14) (as := [.ref 9]) (rest := []) (rv := none) (hp' := xW B q32.2) (pc := 32) rfl xr16 rfl rfl rfl (xkd H (by decide)) (Nat.le_of_ble_eq_true rfl) (Z16_14_9 H h32 (by omega)) (Nat.le_refl _) ?_
      refine q_lr (k := 1) (i := 0) (q := (.aload_n 0, 1, 0, 0, .null)) rfl (fun _ => rfl) l0 ?_
      refine r_gr (c := 9) H (pc := 36) rfl (by decide) (by decide) ?_
      refine q_li (k := 1) (i := 1) (q := (.iload_n 1, 1, 0, 0, .null)) rfl (fun _ => rfl) l1 ?_
      obtain ⟨q40, h40, h⟩ := xbind h
      refine r_call (ix := 9) (as := [.int v1]) (rest := []) (rv := some (.int q40.1)) (hp' := xW B q40.2) (pc := 40) rfl xr108 rfl rfl rfl (xkd H (by decide)) (Nat.le_of_ble_eq_true rfl) (Z108_9 H h40 (by omega)) (Nat.le_refl _) ?_
      obtain rfl := Option.some.inj h
      exact q_ri (q := (.ireturn, 1, 0, 0, .null)) rfl (fun _ => rfl) rfl rfl
    · rw [if_neg (by rw [c]; decide)] at h
      exact T133_0_22 H he F l0 l1 h
set_option maxRecDepth 20000 in
theorem Z133_0 {B : zHp} (H : yH0 B) {F : Nat} {a1 : Int32} {m : xS} {x : Int32 × xS} (h : D133_0 F a1 m = some x) {d : Nat} (hd : 6 ≤ d) : zCan d 133 [.ref 0, .int a1] (xW B m) (some (.int x.1), xW B x.2) := by
  obtain ⟨e, rfl⟩ : ∃ e, d = e + 1 := ⟨d - 1, by omega⟩
  refine zCan_body (nL := 2) (rt := (some .int)) (cd := zc133) (xg133) ⟨Nat.le_of_ble_eq_true rfl, by decide⟩ (Nat.le_refl _) ?_
  exact T133_0 H hd F rfl rfl h
/-- LentTools$Village.eitherTrusts -/
def D93_9_18 (F : Nat) (v1 : Int32) (v2 : Int32) (m : xS) : Option (Int32 × xS) :=
  some (1, m)
set_option maxRecDepth 20000 in
theorem T93_9_18 {B : zHp} (H : yH0 B) {e : Nat} (he : 3 ≤ e + 1) (F : Nat) {v1 : Int32} {v2 : Int32} {lv : List (Nat × Value)} {m : xS} {x : Int32 × xS} (l0 : zld lv 0 = some (.ref 9)) (l1 : zld lv 1 = some (.int v1)) (l2 : zld lv 2 = some (.int v2)) (h : D93_9_18 F v1 v2 m = some x) : zR none e 3 (some .boolean) zc93 (18, lv, []) (xW B m) (some (.int x.1), xW B x.2) := by
  unfold D93_9_18 at h
  refine r_s (fr' := (19, lv, [.int 1])) (hp' := xW B m) (q := (.iconst 1, 1, 0, 0, .null)) rfl (fun _ => rfl) (Nat.le_refl _) ?_
  refine r_s (fr' := (23, lv, [.int 1])) (hp' := xW B m) (q := (.goto 4, 3, 23, 0, .null)) rfl (fun _ => rfl) (Nat.le_refl _) ?_
  obtain rfl := Option.some.inj h
  exact q_ri (q := (.ireturn, 1, 0, 0, .null)) rfl (fun _ => rfl) rfl rfl
def D93_9 (F : Nat) (v1 : Int32) (v2 : Int32) (m : xS) : Option (Int32 × xS) :=
  (D92_9 F v1 v2 m).bind fun q3 =>
    if zcmp .ne q3.1 0 = true then
      D93_9_18 F v1 v2 q3.2
    else
      (D92_9 F v2 v1 q3.2).bind fun q12 =>
        if zcmp .eq q12.1 0 = true then
          some (0, q12.2)
        else
          D93_9_18 F v1 v2 q12.2
set_option maxRecDepth 20000 in
theorem T93_9 {B : zHp} (H : yH0 B) {e : Nat} (he : 3 ≤ e + 1) (F : Nat) {v1 : Int32} {v2 : Int32} {lv : List (Nat × Value)} {m : xS} {x : Int32 × xS} (l0 : zld lv 0 = some (.ref 9)) (l1 : zld lv 1 = some (.int v1)) (l2 : zld lv 2 = some (.int v2)) (h : D93_9 F v1 v2 m = some x) : zR none e 3 (some .boolean) zc93 (0, lv, []) (xW B m) (some (.int x.1), xW B x.2) := by
  unfold D93_9 at h
  refine q_lr (k := 1) (i := 0) (q := (.aload_n 0, 1, 0, 0, .null)) rfl (fun _ => rfl) l0 ?_
  refine q_li (k := 1) (i := 1) (q := (.iload_n 1, 1, 0, 0, .null)) rfl (fun _ => rfl) l1 ?_
  refine q_li (k := 1) (i := 2) (q := (.iload_n 2, 1, 0, 0, .null)) rfl (fun _ => rfl) l2 ?_
  obtain ⟨q3, h3, h⟩ := xbind h
  refine r_call (ix := 9) (as := [.int v1, .int v2]) (rest := []) (rv := some (.int q3.1)) (hp' := xW B q3.2) (pc := 3) rfl xr92 rfl rfl rfl (xkd H (by decide)) (Nat.le_of_ble_eq_true rfl) (Z92_9 H h3 (by omega)) (Nat.le_refl _) ?_
  refine r_if (len := 3) (a := 18) (b := 0) (v0 := .null) (cn := .ne) (off := 12) rfl (fun c => ?_) (fun c => ?_)
  · rw [if_pos c] at h
    exact T93_9_18 H he F l0 l1 l2 h
  · rw [if_neg (by rw [c]; decide)] at h
    refine q_lr (k := 1) (i := 0) (q := (.aload_n 0, 1, 0, 0, .null)) rfl (fun _ => rfl) l0 ?_
    refine q_li (k := 1) (i := 2) (q := (.iload_n 2, 1, 0, 0, .null)) rfl (fun _ => rfl) l2 ?_
    refine q_li (k := 1) (i := 1) (q := (.iload_n 1, 1, 0, 0, .null)) rfl (fun _ => rfl) l1 ?_
    obtain ⟨q12, h12, h⟩ := xbind h
    refine r_call (ix := 9) (as := [.int v2, .int v1]) (rest := []) (rv := some (.int q12.1)) (hp' := xW B q12.2) (pc := 12) rfl xr92 rfl rfl rfl (xkd H (by decide)) (Nat.le_of_ble_eq_true rfl) (Z92_9 H h12 (by omega)) (Nat.le_refl _) ?_
    refine r_if (len := 3) (a := 22) (b := 0) (v0 := .null) (cn := .eq) (off := 7) rfl (fun c => ?_) (fun c => ?_)
    · rw [if_pos c] at h
      refine r_s (fr' := (23, lv, [.int 0])) (hp' := xW B q12.2) (q := (.iconst 0, 1, 0, 0, .null)) rfl (fun _ => rfl) (Nat.le_refl _) ?_
      obtain rfl := Option.some.inj h
      exact q_ri (q := (.ireturn, 1, 0, 0, .null)) rfl (fun _ => rfl) rfl rfl
    · rw [if_neg (by rw [c]; decide)] at h
      exact T93_9_18 H he F l0 l1 l2 h
set_option maxRecDepth 20000 in
theorem Z93_9 {B : zHp} (H : yH0 B) {F : Nat} {a1 : Int32} {a2 : Int32} {m : xS} {x : Int32 × xS} (h : D93_9 F a1 a2 m = some x) {d : Nat} (hd : 3 ≤ d) : zCan d 93 [.ref 9, .int a1, .int a2] (xW B m) (some (.int x.1), xW B x.2) := by
  obtain ⟨e, rfl⟩ : ∃ e, d = e + 1 := ⟨d - 1, by omega⟩
  refine zCan_body (nL := 3) (rt := (some .boolean)) (cd := zc93) (xg93) ⟨Nat.le_of_ble_eq_true rfl, by decide⟩ (Nat.le_refl _) ?_
  exact T93_9 H hd F rfl rfl rfl h
/-- LentTools$Village.fallOut -/
def D105_9 (F : Nat) (v1 : Int32) (v2 : Int32) (m : xS) : Option (Unit × xS) :=
  if xib (72 + v1) 114 = true then
    if xib (72 + v1) 114 = true then
      if xib (72 + v2) 114 = true then
        if xib (72 + v2) 114 = true then
          some ((), (xu (xu m 10 ((72 + v1) : Int32).toNatClampNeg ((m.1 10 ((72 + v1) : Int32).toNatClampNeg) &&& ((1 <<< (v2 &&& 31)) ^^^ (-1)))) 10 ((72 + v2) : Int32).toNatClampNeg (((xu m 10 ((72 + v1) : Int32).toNatClampNeg ((m.1 10 ((72 + v1) : Int32).toNatClampNeg) &&& ((1 <<< (v2 &&& 31)) ^^^ (-1)))).1 10 ((72 + v2) : Int32).toNatClampNeg) &&& ((1 <<< (v1 &&& 31)) ^^^ (-1)))))
        else none
      else none
    else none
  else none
set_option maxRecDepth 20000 in
theorem T105_9 {B : zHp} (H : yH0 B) {e : Nat} (he : 1 ≤ e + 1) (F : Nat) {v1 : Int32} {v2 : Int32} {lv : List (Nat × Value)} {m : xS} {x : Unit × xS} (l0 : zld lv 0 = some (.ref 9)) (l1 : zld lv 1 = some (.int v1)) (l2 : zld lv 2 = some (.int v2)) (h : D105_9 F v1 v2 m = some x) : zR none e 3 none zc105 (0, lv, []) (xW B m) (none, xW B x.2) := by
  unfold D105_9 at h
  refine q_lr (k := 1) (i := 0) (q := (.aload_n 0, 1, 0, 0, .null)) rfl (fun _ => rfl) l0 ?_
  refine r_gr (c := 10) H (pc := 1) rfl (by decide) (by decide) ?_
  refine r_s (fr' := (6, lv, [.int 72, .ref 10])) (hp' := xW B m) (q := (.bipush 72, 2, 0, 0, .null)) rfl (fun _ => rfl) (Nat.le_refl _) ?_
  refine q_li (k := 1) (i := 1) (q := (.iload_n 1, 1, 0, 0, .null)) rfl (fun _ => rfl) l1 ?_
  refine r_s (fr' := (8, lv, [.int (72 + v1), .ref 10])) (hp' := xW B m) (q := (.iadd, 1, 0, 0, .null)) rfl (fun _ => rfl) (Nat.le_refl _) ?_
  refine r_s (fr' := (9, lv, [.int (72 + v1), .ref 10, .int (72 + v1), .ref 10])) (hp' := xW B m) (q := (.dup2, 1, 0, 0, .null)) rfl (fun _ => rfl) (Nat.le_refl _) ?_
  obtain ⟨c1, h⟩ := xif h
  refine q_al (n := 114) (v := (m.1 10 ((72 + v1) : Int32).toNatClampNeg)) H (pc := 9) rfl (by decide) c1 rfl ?_
  refine r_s (fr' := (11, lv, [.int 1, .int (m.1 10 ((72 + v1) : Int32).toNatClampNeg), .int (72 + v1), .ref 10])) (hp' := xW B m) (q := (.iconst 1, 1, 0, 0, .null)) rfl (fun _ => rfl) (Nat.le_refl _) ?_
  refine q_li (k := 1) (i := 2) (q := (.iload_n 2, 1, 0, 0, .null)) rfl (fun _ => rfl) l2 ?_
  refine r_s (fr' := (13, lv, [.int (1 <<< (v2 &&& 31)), .int (m.1 10 ((72 + v1) : Int32).toNatClampNeg), .int (72 + v1), .ref 10])) (hp' := xW B m) (q := (.ishl, 1, 0, 0, .null)) rfl (fun _ => rfl) (Nat.le_refl _) ?_
  refine r_s (fr' := (14, lv, [.int (-1), .int (1 <<< (v2 &&& 31)), .int (m.1 10 ((72 + v1) : Int32).toNatClampNeg), .int (72 + v1), .ref 10])) (hp' := xW B m) (q := (.iconst (-1), 1, 0, 0, .null)) rfl (fun _ => rfl) (Nat.le_refl _) ?_
  refine r_s (fr' := (15, lv, [.int ((1 <<< (v2 &&& 31)) ^^^ (-1)), .int (m.1 10 ((72 + v1) : Int32).toNatClampNeg), .int (72 + v1), .ref 10])) (hp' := xW B m) (q := (.ixor, 1, 0, 0, .null)) rfl (fun _ => rfl) (Nat.le_refl _) ?_
  refine r_s (fr' := (16, lv, [.int ((m.1 10 ((72 + v1) : Int32).toNatClampNeg) &&& ((1 <<< (v2 &&& 31)) ^^^ (-1))), .int (72 + v1), .ref 10])) (hp' := xW B m) (q := (.iand, 1, 0, 0, .null)) rfl (fun _ => rfl) (Nat.le_refl _) ?_
  obtain ⟨c2, h⟩ := xif h
  refine q_as (n := 114) (s2 := (xu m 10 ((72 + v1) : Int32).toNatClampNeg ((m.1 10 ((72 + v1) : Int32).toNatClampNeg) &&& ((1 <<< (v2 &&& 31)) ^^^ (-1))))) H (pc := 16) rfl (by decide) c2 rfl ?_
  refine q_lr (k := 1) (i := 0) (q := (.aload_n 0, 1, 0, 0, .null)) rfl (fun _ => rfl) l0 ?_
  refine r_gr (c := 10) H (pc := 18) rfl (by decide) (by decide) ?_
  refine r_s (fr' := (23, lv, [.int 72, .ref 10])) (hp' := xW B (xu m 10 ((72 + v1) : Int32).toNatClampNeg ((m.1 10 ((72 + v1) : Int32).toNatClampNeg) &&& ((1 <<< (v2 &&& 31)) ^^^ (-1))))) (q := (.bipush 72, 2, 0, 0, .null)) rfl (fun _ => rfl) (Nat.le_refl _) ?_
  refine q_li (k := 1) (i := 2) (q := (.iload_n 2, 1, 0, 0, .null)) rfl (fun _ => rfl) l2 ?_
  refine r_s (fr' := (25, lv, [.int (72 + v2), .ref 10])) (hp' := xW B (xu m 10 ((72 + v1) : Int32).toNatClampNeg ((m.1 10 ((72 + v1) : Int32).toNatClampNeg) &&& ((1 <<< (v2 &&& 31)) ^^^ (-1))))) (q := (.iadd, 1, 0, 0, .null)) rfl (fun _ => rfl) (Nat.le_refl _) ?_
  refine r_s (fr' := (26, lv, [.int (72 + v2), .ref 10, .int (72 + v2), .ref 10])) (hp' := xW B (xu m 10 ((72 + v1) : Int32).toNatClampNeg ((m.1 10 ((72 + v1) : Int32).toNatClampNeg) &&& ((1 <<< (v2 &&& 31)) ^^^ (-1))))) (q := (.dup2, 1, 0, 0, .null)) rfl (fun _ => rfl) (Nat.le_refl _) ?_
  obtain ⟨c3, h⟩ := xif h
  refine q_al (n := 114) (v := ((xu m 10 ((72 + v1) : Int32).toNatClampNeg ((m.1 10 ((72 + v1) : Int32).toNatClampNeg) &&& ((1 <<< (v2 &&& 31)) ^^^ (-1)))).1 10 ((72 + v2) : Int32).toNatClampNeg)) H (pc := 26) rfl (by decide) c3 rfl ?_
  refine r_s (fr' := (28, lv, [.int 1, .int ((xu m 10 ((72 + v1) : Int32).toNatClampNeg ((m.1 10 ((72 + v1) : Int32).toNatClampNeg) &&& ((1 <<< (v2 &&& 31)) ^^^ (-1)))).1 10 ((72 + v2) : Int32).toNatClampNeg), .int (72 + v2), .ref 10])) (hp' := xW B (xu m 10 ((72 + v1) : Int32).toNatClampNeg ((m.1 10 ((72 + v1) : Int32).toNatClampNeg) &&& ((1 <<< (v2 &&& 31)) ^^^ (-1))))) (q := (.iconst 1, 1, 0, 0, .null)) rfl (fun _ => rfl) (Nat.le_refl _) ?_
  refine q_li (k := 1) (i := 1) (q := (.iload_n 1, 1, 0, 0, .null)) rfl (fun _ => rfl) l1 ?_
  refine r_s (fr' := (30, lv, [.int (1 <<< (v1 &&& 31)), .int ((xu m 10 ((72 + v1) : Int32).toNatClampNeg ((m.1 10 ((72 + v1) : Int32).toNatClampNeg) &&& ((1 <<< (v2 &&& 31)) ^^^ (-1)))).1 10 ((72 + v2) : Int32).toNatClampNeg), .int (72 + v2), .ref 10])) (hp' := xW B (xu m 10 ((72 + v1) : Int32).toNatClampNeg ((m.1 10 ((72 + v1) : Int32).toNatClampNeg) &&& ((1 <<< (v2 &&& 31)) ^^^ (-1))))) (q := (.ishl, 1, 0, 0, .null)) rfl (fun _ => rfl) (Nat.le_refl _) ?_
  refine r_s (fr' := (31, lv, [.int (-1), .int (1 <<< (v1 &&& 31)), .int ((xu m 10 ((72 + v1) : Int32).toNatClampNeg ((m.1 10 ((72 + v1) : Int32).toNatClampNeg) &&& ((1 <<< (v2 &&& 31)) ^^^ (-1)))).1 10 ((72 + v2) : Int32).toNatClampNeg), .int (72 + v2), .ref 10])) (hp' := xW B (xu m 10 ((72 + v1) : Int32).toNatClampNeg ((m.1 10 ((72 + v1) : Int32).toNatClampNeg) &&& ((1 <<< (v2 &&& 31)) ^^^ (-1))))) (q := (.iconst (-1), 1, 0, 0, .null)) rfl (fun _ => rfl) (Nat.le_refl _) ?_
  refine r_s (fr' := (32, lv, [.int ((1 <<< (v1 &&& 31)) ^^^ (-1)), .int ((xu m 10 ((72 + v1) : Int32).toNatClampNeg ((m.1 10 ((72 + v1) : Int32).toNatClampNeg) &&& ((1 <<< (v2 &&& 31)) ^^^ (-1)))).1 10 ((72 + v2) : Int32).toNatClampNeg), .int (72 + v2), .ref 10])) (hp' := xW B (xu m 10 ((72 + v1) : Int32).toNatClampNeg ((m.1 10 ((72 + v1) : Int32).toNatClampNeg) &&& ((1 <<< (v2 &&& 31)) ^^^ (-1))))) (q := (.ixor, 1, 0, 0, .null)) rfl (fun _ => rfl) (Nat.le_refl _) ?_
  refine r_s (fr' := (33, lv, [.int (((xu m 10 ((72 + v1) : Int32).toNatClampNeg ((m.1 10 ((72 + v1) : Int32).toNatClampNeg) &&& ((1 <<< (v2 &&& 31)) ^^^ (-1)))).1 10 ((72 + v2) : Int32).toNatClampNeg) &&& ((1 <<< (v1 &&& 31)) ^^^ (-1))), .int (72 + v2), .ref 10])) (hp' := xW B (xu m 10 ((72 + v1) : Int32).toNatClampNeg ((m.1 10 ((72 + v1) : Int32).toNatClampNeg) &&& ((1 <<< (v2 &&& 31)) ^^^ (-1))))) (q := (.iand, 1, 0, 0, .null)) rfl (fun _ => rfl) (Nat.le_refl _) ?_
  obtain ⟨c4, h⟩ := xif h
  refine q_as (n := 114) (s2 := (xu (xu m 10 ((72 + v1) : Int32).toNatClampNeg ((m.1 10 ((72 + v1) : Int32).toNatClampNeg) &&& ((1 <<< (v2 &&& 31)) ^^^ (-1)))) 10 ((72 + v2) : Int32).toNatClampNeg (((xu m 10 ((72 + v1) : Int32).toNatClampNeg ((m.1 10 ((72 + v1) : Int32).toNatClampNeg) &&& ((1 <<< (v2 &&& 31)) ^^^ (-1)))).1 10 ((72 + v2) : Int32).toNatClampNeg) &&& ((1 <<< (v1 &&& 31)) ^^^ (-1))))) H (pc := 33) rfl (by decide) c4 rfl ?_
  obtain rfl := Option.some.inj h
  exact r_ret (q := (.return_, 1, 0, 0, .null)) rfl rfl (fun _ => rfl)
set_option maxRecDepth 20000 in
theorem Z105_9 {B : zHp} (H : yH0 B) {F : Nat} {a1 : Int32} {a2 : Int32} {m : xS} {x : Unit × xS} (h : D105_9 F a1 a2 m = some x) {d : Nat} (hd : 1 ≤ d) : zCan d 105 [.ref 9, .int a1, .int a2] (xW B m) (none, xW B x.2) := by
  obtain ⟨e, rfl⟩ : ∃ e, d = e + 1 := ⟨d - 1, by omega⟩
  refine zCan_body (nL := 3) (rt := none) (cd := zc105) (xg105) ⟨Nat.le_of_ble_eq_true rfl, by decide⟩ (Nat.le_refl _) ?_
  exact T105_9 H hd F rfl rfl rfl h
/-- LentTools.quarrel -/
def D134_0_24 (F : Nat) (v1 : Int32) (v2 : Int32) (m : xS) : Option (Int32 × xS) :=
  some (0, m)
set_option maxRecDepth 20000 in
theorem T134_0_24 {B : zHp} (H : yH0 B) {e : Nat} (he : 4 ≤ e + 1) (F : Nat) {v1 : Int32} {v2 : Int32} {lv : List (Nat × Value)} {m : xS} {x : Int32 × xS} (l0 : zld lv 0 = some (.ref 0)) (l1 : zld lv 1 = some (.int v1)) (l2 : zld lv 2 = some (.int v2)) (h : D134_0_24 F v1 v2 m = some x) : zR none e 3 (some .boolean) zc134 (24, lv, []) (xW B m) (some (.int x.1), xW B x.2) := by
  unfold D134_0_24 at h
  refine r_s (fr' := (25, lv, [.int 0])) (hp' := xW B m) (q := (.iconst 0, 1, 0, 0, .null)) rfl (fun _ => rfl) (Nat.le_refl _) ?_
  obtain rfl := Option.some.inj h
  exact q_ri (q := (.ireturn, 1, 0, 0, .null)) rfl (fun _ => rfl) rfl rfl
def D134_0 (F : Nat) (v1 : Int32) (v2 : Int32) (m : xS) : Option (Int32 × xS) :=
  (D86_9 F v1 v2 m).bind fun q6 =>
    if zcmp .eq q6.1 0 = true then
      D134_0_24 F v1 v2 q6.2
    else
      (D93_9 F v1 v2 q6.2).bind fun q18 =>
        if zcmp .ne q18.1 0 = true then
          (D16_14_9 F q18.2).bind fun q34 =>
            (D105_9 F v1 v2 q34.2).bind fun q43 =>
              some (1, q43.2)
        else
          D134_0_24 F v1 v2 q18.2
set_option maxRecDepth 20000 in
theorem T134_0 {B : zHp} (H : yH0 B) {e : Nat} (he : 4 ≤ e + 1) (F : Nat) {v1 : Int32} {v2 : Int32} {lv : List (Nat × Value)} {m : xS} {x : Int32 × xS} (l0 : zld lv 0 = some (.ref 0)) (l1 : zld lv 1 = some (.int v1)) (l2 : zld lv 2 = some (.int v2)) (h : D134_0 F v1 v2 m = some x) : zR none e 3 (some .boolean) zc134 (0, lv, []) (xW B m) (some (.int x.1), xW B x.2) := by
  unfold D134_0 at h
  refine q_lr (k := 1) (i := 0) (q := (.aload_n 0, 1, 0, 0, .null)) rfl (fun _ => rfl) l0 ?_
  refine r_gr (c := 9) H (pc := 1) rfl (by decide) (by decide) ?_
  refine q_li (k := 1) (i := 1) (q := (.iload_n 1, 1, 0, 0, .null)) rfl (fun _ => rfl) l1 ?_
  refine q_li (k := 1) (i := 2) (q := (.iload_n 2, 1, 0, 0, .null)) rfl (fun _ => rfl) l2 ?_
  obtain ⟨q6, h6, h⟩ := xbind h
  refine r_call (ix := 9) (as := [.int v1, .int v2]) (rest := []) (rv := some (.int q6.1)) (hp' := xW B q6.2) (pc := 6) rfl xr86 rfl rfl rfl (xkd H (by decide)) (Nat.le_of_ble_eq_true rfl) (Z86_9 H h6 (by omega)) (Nat.le_refl _) ?_
  refine r_if (len := 3) (a := 24) (b := 0) (v0 := .null) (cn := .eq) (off := 15) rfl (fun c => ?_) (fun c => ?_)
  · rw [if_pos c] at h
    exact T134_0_24 H he F l0 l1 l2 h
  · rw [if_neg (by rw [c]; decide)] at h
    refine q_lr (k := 1) (i := 0) (q := (.aload_n 0, 1, 0, 0, .null)) rfl (fun _ => rfl) l0 ?_
    refine r_gr (c := 9) H (pc := 13) rfl (by decide) (by decide) ?_
    refine q_li (k := 1) (i := 1) (q := (.iload_n 1, 1, 0, 0, .null)) rfl (fun _ => rfl) l1 ?_
    refine q_li (k := 1) (i := 2) (q := (.iload_n 2, 1, 0, 0, .null)) rfl (fun _ => rfl) l2 ?_
    obtain ⟨q18, h18, h⟩ := xbind h
    refine r_call (ix := 9) (as := [.int v1, .int v2]) (rest := []) (rv := some (.int q18.1)) (hp' := xW B q18.2) (pc := 18) rfl xr93 rfl rfl rfl (xkd H (by decide)) (Nat.le_of_ble_eq_true rfl) (Z93_9 H h18 (by omega)) (Nat.le_refl _) ?_
    refine r_if (len := 3) (a := 26) (b := 0) (v0 := .null) (cn := .ne) (off := 5) rfl (fun c => ?_) (fun c => ?_)
    · rw [if_pos c] at h
      refine q_lr (k := 1) (i := 0) (q := (.aload_n 0, 1, 0, 0, .null)) rfl (fun _ => rfl) l0 ?_
      refine r_gr (c := 14) H (pc := 27) rfl (by decide) (by decide) ?_
      refine q_lr (k := 1) (i := 0) (q := (.aload_n 0, 1, 0, 0, .null)) rfl (fun _ => rfl) l0 ?_
      refine r_gr (c := 9) H (pc := 31) rfl (by decide) (by decide) ?_
      obtain ⟨q34, h34, h⟩ := xbind h
      refine r_call (ix := 14) (as := [.ref 9]) (rest := []) (rv := none) (hp' := xW B q34.2) (pc := 34) rfl xr16 rfl rfl rfl (xkd H (by decide)) (Nat.le_of_ble_eq_true rfl) (Z16_14_9 H h34 (by omega)) (Nat.le_refl _) ?_
      refine q_lr (k := 1) (i := 0) (q := (.aload_n 0, 1, 0, 0, .null)) rfl (fun _ => rfl) l0 ?_
      refine r_gr (c := 9) H (pc := 38) rfl (by decide) (by decide) ?_
      refine q_li (k := 1) (i := 1) (q := (.iload_n 1, 1, 0, 0, .null)) rfl (fun _ => rfl) l1 ?_
      refine q_li (k := 1) (i := 2) (q := (.iload_n 2, 1, 0, 0, .null)) rfl (fun _ => rfl) l2 ?_
      obtain ⟨q43, h43, h⟩ := xbind h
      refine r_call (ix := 9) (as := [.int v1, .int v2]) (rest := []) (rv := none) (hp' := xW B q43.2) (pc := 43) rfl xr105 rfl rfl rfl (xkd H (by decide)) (Nat.le_of_ble_eq_true rfl) (Z105_9 H h43 (by omega)) (Nat.le_refl _) ?_
      refine r_s (fr' := (47, lv, [.int 1])) (hp' := xW B q43.2) (q := (.iconst 1, 1, 0, 0, .null)) rfl (fun _ => rfl) (Nat.le_refl _) ?_
      obtain rfl := Option.some.inj h
      exact q_ri (q := (.ireturn, 1, 0, 0, .null)) rfl (fun _ => rfl) rfl rfl
    · rw [if_neg (by rw [c]; decide)] at h
      exact T134_0_24 H he F l0 l1 l2 h
set_option maxRecDepth 20000 in
theorem Z134_0 {B : zHp} (H : yH0 B) {F : Nat} {a1 : Int32} {a2 : Int32} {m : xS} {x : Int32 × xS} (h : D134_0 F a1 a2 m = some x) {d : Nat} (hd : 4 ≤ d) : zCan d 134 [.ref 0, .int a1, .int a2] (xW B m) (some (.int x.1), xW B x.2) := by
  obtain ⟨e, rfl⟩ : ∃ e, d = e + 1 := ⟨d - 1, by omega⟩
  refine zCan_body (nL := 3) (rt := (some .boolean)) (cd := zc134) (xg134) ⟨Nat.le_of_ble_eq_true rfl, by decide⟩ (Nat.le_refl _) ?_
  exact T134_0 H hd F rfl rfl rfl h
/-- LentTools$ThanksRings.closes -/
def D64_67_9_16 (F : Nat) (slf : Int32 → Int32 → Int32 → xS → Option (Int32 × xS)) (v2 : Int32) (v3 : Int32) (v4 : Int32) (m : xS) : Option (Int32 × xS) :=
  (D94_9 F v2 (m.1 68 0) m).bind fun q24 =>
    if zcmp .le q24.1 0 = true then
      some (0, q24.2)
    else
      some (1, q24.2)
set_option maxRecDepth 20000 in
theorem T64_67_9_16 {B : zHp} (H : yH0 B) {e : Nat} (he : 2 ≤ e + 1) (F : Nat) (slf : Int32 → Int32 → Int32 → xS → Option (Int32 × xS)) (kslf : ∀ {a2 : Int32} {a3 : Int32} {a4 : Int32} {m : xS} {x : Int32 × xS}, slf a2 a3 a4 m = some x → zCan e 64 [.ref 67, .ref 9, .int a2, .int a3, .int a4] (xW B m) (some (.int x.1), xW B x.2)) {v2 : Int32} {v3 : Int32} {v4 : Int32} {lv : List (Nat × Value)} {m : xS} {x : Int32 × xS} (l0 : zld lv 0 = some (.ref 67)) (l1 : zld lv 1 = some (.ref 9)) (l2 : zld lv 2 = some (.int v2)) (l3 : zld lv 3 = some (.int v3)) (l4 : zld lv 4 = some (.int v4)) (h : D64_67_9_16 F slf v2 v3 v4 m = some x) : zR none e 6 (some .boolean) zc64 (16, lv, []) (xW B m) (some (.int x.1), xW B x.2) := by
  unfold D64_67_9_16 at h
  refine q_lr (k := 1) (i := 1) (q := (.aload_n 1, 1, 0, 0, .null)) rfl (fun _ => rfl) l1 ?_
  refine q_li (k := 1) (i := 2) (q := (.iload_n 2, 1, 0, 0, .null)) rfl (fun _ => rfl) l2 ?_
  refine q_lr (k := 1) (i := 0) (q := (.aload_n 0, 1, 0, 0, .null)) rfl (fun _ => rfl) l0 ?_
  refine r_gr (c := 68) H (pc := 19) rfl (by decide) (by decide) ?_
  refine r_s (fr' := (23, lv, [.int 0, .ref 68, .int v2, .ref 9])) (hp' := xW B m) (q := (.iconst 0, 1, 0, 0, .null)) rfl (fun _ => rfl) (Nat.le_refl _) ?_
  refine q_al (n := 6) (v := (m.1 68 0)) H (pc := 23) rfl (by decide) (by decide) rfl ?_
  obtain ⟨q24, h24, h⟩ := xbind h
  refine r_call (ix := 9) (as := [.int v2, .int (m.1 68 0)]) (rest := []) (rv := some (.int q24.1)) (hp' := xW B q24.2) (pc := 24) rfl xr94 rfl rfl rfl (xkd H (by decide)) (Nat.le_of_ble_eq_true rfl) (Z94_9 H h24 (by omega)) (Nat.le_refl _) ?_
  refine r_if (len := 3) (a := 34) (b := 0) (v0 := .null) (cn := .le) (off := 7) rfl (fun c => ?_) (fun c => ?_)
  · rw [if_pos c] at h
    refine r_s (fr' := (35, lv, [.int 0])) (hp' := xW B q24.2) (q := (.iconst 0, 1, 0, 0, .null)) rfl (fun _ => rfl) (Nat.le_refl _) ?_
    obtain rfl := Option.some.inj h
    exact q_ri (q := (.ireturn, 1, 0, 0, .null)) rfl (fun _ => rfl) rfl rfl
  · rw [if_neg (by rw [c]; decide)] at h
    refine r_s (fr' := (31, lv, [.int 1])) (hp' := xW B q24.2) (q := (.iconst 1, 1, 0, 0, .null)) rfl (fun _ => rfl) (Nat.le_refl _) ?_
    refine r_s (fr' := (35, lv, [.int 1])) (hp' := xW B q24.2) (q := (.goto 4, 3, 35, 0, .null)) rfl (fun _ => rfl) (Nat.le_refl _) ?_
    obtain rfl := Option.some.inj h
    exact q_ri (q := (.ireturn, 1, 0, 0, .null)) rfl (fun _ => rfl) rfl rfl
def D64_67_9_105 (F : Nat) (slf : Int32 → Int32 → Int32 → xS → Option (Int32 × xS)) (g46 : Int32 → Int32 → Int32 → Int32 → xS → Option (Int32 × xS)) (v2 : Int32) (v3 : Int32) (v4 : Int32) (v5 : Int32) (m : xS) : Option (Int32 × xS) :=
  g46 v2 v3 v4 (v5 + Int32.ofInt 1) m
set_option maxRecDepth 20000 in
theorem T64_67_9_105 {B : zHp} (H : yH0 B) {e : Nat} (he : 2 ≤ e + 1) (F : Nat) (slf : Int32 → Int32 → Int32 → xS → Option (Int32 × xS)) (kslf : ∀ {a2 : Int32} {a3 : Int32} {a4 : Int32} {m : xS} {x : Int32 × xS}, slf a2 a3 a4 m = some x → zCan e 64 [.ref 67, .ref 9, .int a2, .int a3, .int a4] (xW B m) (some (.int x.1), xW B x.2)) (g46 : Int32 → Int32 → Int32 → Int32 → xS → Option (Int32 × xS)) (k46 : ∀ {v2 : Int32} {v3 : Int32} {v4 : Int32} {v5 : Int32} {lv : List (Nat × Value)} {m : xS} {x : Int32 × xS}, zld lv 0 = some (.ref 67) → zld lv 1 = some (.ref 9) → zld lv 2 = some (.int v2) → zld lv 3 = some (.int v3) → zld lv 4 = some (.int v4) → zld lv 5 = some (.int v5) → g46 v2 v3 v4 v5 m = some x → zR none e 6 (some .boolean) zc64 (46, lv, []) (xW B m) (some (.int x.1), xW B x.2)) {v2 : Int32} {v3 : Int32} {v4 : Int32} {v5 : Int32} {lv : List (Nat × Value)} {m : xS} {x : Int32 × xS} (l0 : zld lv 0 = some (.ref 67)) (l1 : zld lv 1 = some (.ref 9)) (l2 : zld lv 2 = some (.int v2)) (l3 : zld lv 3 = some (.int v3)) (l4 : zld lv 4 = some (.int v4)) (l5 : zld lv 5 = some (.int v5)) (h : D64_67_9_105 F slf g46 v2 v3 v4 v5 m = some x) : zR none e 6 (some .boolean) zc64 (105, lv, []) (xW B m) (some (.int x.1), xW B x.2) := by
  unfold D64_67_9_105 at h
  refine q_inc (i := 5) (n := 1) (q := (.iinc 5 1, 3, 0, 0, .null)) rfl (fun _ => rfl) l5 (by decide) ?_
  have l0_1 : zld (zs1 lv 5 (.int (v5 + Int32.ofInt 1))) 0 = some (.ref 67) := x_o1 l0 rfl rfl
  have l1_1 : zld (zs1 lv 5 (.int (v5 + Int32.ofInt 1))) 1 = some (.ref 9) := x_o1 l1 rfl rfl
  have l2_1 : zld (zs1 lv 5 (.int (v5 + Int32.ofInt 1))) 2 = some (.int v2) := x_o1 l2 rfl rfl
  have l3_1 : zld (zs1 lv 5 (.int (v5 + Int32.ofInt 1))) 3 = some (.int v3) := x_o1 l3 rfl rfl
  have l4_1 : zld (zs1 lv 5 (.int (v5 + Int32.ofInt 1))) 4 = some (.int v4) := x_o1 l4 rfl rfl
  have l5_1 : zld (zs1 lv 5 (.int (v5 + Int32.ofInt 1))) 5 = some (.int (v5 + Int32.ofInt 1)) := zs1_ld _ _ _
  generalize (zs1 lv 5 (.int (v5 + Int32.ofInt 1))) = lv1 at *
  refine r_s (fr' := (46, lv1, [])) (hp' := xW B m) (q := (.goto (-62), 3, 46, 0, .null)) rfl (fun _ => rfl) (Nat.le_refl _) ?_
  exact k46 l0_1 l1_1 l2_1 l3_1 l4_1 l5_1 h
def D64_67_9_46 (F : Nat) (slf : Int32 → Int32 → Int32 → xS → Option (Int32 × xS)) : Nat → Int32 → Int32 → Int32 → Int32 → xS → Option (Int32 × xS)
  | 0, _, _, _, _, _ => none
  | f + 1, v2, v3, v4, v5, m =>
    (D77_9 F m).bind fun q49 =>
      if zcmp .ge v5 q49.1 = true then
        some (0, q49.2)
      else
        (D94_9 F v2 v5 q49.2).bind fun q59 =>
          if zcmp .le q59.1 0 = true then
            D64_67_9_105 F slf (D64_67_9_46 F slf f) v2 v3 v4 v5 q59.2
          else
            if zcmp .ne ((v3 >>> (v5 &&& 31)) &&& 1) 0 = true then
              D64_67_9_105 F slf (D64_67_9_46 F slf f) v2 v3 v4 v5 q59.2
            else
              if xib v4 6 = true then
                (slf v5 (v3 ||| (1 <<< (v5 &&& 31))) (v4 + 1) (xu q59.2 68 (v4 : Int32).toNatClampNeg v5)).bind fun q97 =>
                  if zcmp .eq q97.1 0 = true then
                    D64_67_9_105 F slf (D64_67_9_46 F slf f) v2 v3 v4 v5 q97.2
                  else
                    some (1, q97.2)
              else none
set_option maxRecDepth 20000 in
theorem T64_67_9_46 {B : zHp} (H : yH0 B) {e : Nat} (he : 2 ≤ e + 1) (F : Nat) (slf : Int32 → Int32 → Int32 → xS → Option (Int32 × xS)) (kslf : ∀ {a2 : Int32} {a3 : Int32} {a4 : Int32} {m : xS} {x : Int32 × xS}, slf a2 a3 a4 m = some x → zCan e 64 [.ref 67, .ref 9, .int a2, .int a3, .int a4] (xW B m) (some (.int x.1), xW B x.2)) : ∀ (f : Nat) {v2 : Int32} {v3 : Int32} {v4 : Int32} {v5 : Int32} {lv : List (Nat × Value)} {m : xS} {x : Int32 × xS}, zld lv 0 = some (.ref 67) → zld lv 1 = some (.ref 9) → zld lv 2 = some (.int v2) → zld lv 3 = some (.int v3) → zld lv 4 = some (.int v4) → zld lv 5 = some (.int v5) → D64_67_9_46 F slf f v2 v3 v4 v5 m = some x → zR none e 6 (some .boolean) zc64 (46, lv, []) (xW B m) (some (.int x.1), xW B x.2) := by
  intro f
  induction f with
  | zero => intro v2 v3 v4 v5 lv m x l0 l1 l2 l3 l4 l5 h; cases h
  | succ f ih =>
    intro v2 v3 v4 v5 lv m x l0 l1 l2 l3 l4 l5 h
    unfold D64_67_9_46 at h
    refine q_li (k := 2) (i := 5) (q := (.iload 5, 2, 0, 0, .null)) rfl (fun _ => rfl) l5 ?_
    refine q_lr (k := 1) (i := 1) (q := (.aload_n 1, 1, 0, 0, .null)) rfl (fun _ => rfl) l1 ?_
    obtain ⟨q49, h49, h⟩ := xbind h
    refine r_call (ix := 9) (as := []) (rest := [.int v5]) (rv := some (.int q49.1)) (hp' := xW B q49.2) (pc := 49) rfl xr77 rfl rfl rfl (xkd H (by decide)) (Nat.le_of_ble_eq_true rfl) (Z77_9 H h49 (by omega)) (Nat.le_refl _) ?_
    refine r_ifc (len := 3) (a := 111) (b := 0) (v0 := .null) (cn := .ge) (off := 59) rfl (fun c => ?_) (fun c => ?_)
    · rw [if_pos c] at h
      refine r_s (fr' := (112, lv, [.int 0])) (hp' := xW B q49.2) (q := (.iconst 0, 1, 0, 0, .null)) rfl (fun _ => rfl) (Nat.le_refl _) ?_
      obtain rfl := Option.some.inj h
      exact q_ri (q := (.ireturn, 1, 0, 0, .null)) rfl (fun _ => rfl) rfl rfl
    · rw [if_neg (by rw [c]; decide)] at h
      refine q_lr (k := 1) (i := 1) (q := (.aload_n 1, 1, 0, 0, .null)) rfl (fun _ => rfl) l1 ?_
      refine q_li (k := 1) (i := 2) (q := (.iload_n 2, 1, 0, 0, .null)) rfl (fun _ => rfl) l2 ?_
      refine q_li (k := 2) (i := 5) (q := (.iload 5, 2, 0, 0, .null)) rfl (fun _ => rfl) l5 ?_
      obtain ⟨q59, h59, h⟩ := xbind h
      refine r_call (ix := 9) (as := [.int v2, .int v5]) (rest := []) (rv := some (.int q59.1)) (hp' := xW B q59.2) (pc := 59) rfl xr94 rfl rfl rfl (xkd H (by decide)) (Nat.le_of_ble_eq_true rfl) (Z94_9 H h59 (by omega)) (Nat.le_refl _) ?_
      refine r_if (len := 3) (a := 105) (b := 0) (v0 := .null) (cn := .le) (off := 43) rfl (fun c => ?_) (fun c => ?_)
      · rw [if_pos c] at h
        exact T64_67_9_105 H he F slf kslf _ ih l0 l1 l2 l3 l4 l5 h
      · rw [if_neg (by rw [c]; decide)] at h
        refine q_li (k := 1) (i := 3) (q := (.iload_n 3, 1, 0, 0, .null)) rfl (fun _ => rfl) l3 ?_
        refine q_li (k := 2) (i := 5) (q := (.iload 5, 2, 0, 0, .null)) rfl (fun _ => rfl) l5 ?_
        refine r_s (fr' := (69, lv, [.int (v3 >>> (v5 &&& 31))])) (hp' := xW B q59.2) (q := (.ishr, 1, 0, 0, .null)) rfl (fun _ => rfl) (Nat.le_refl _) ?_
        refine r_s (fr' := (70, lv, [.int 1, .int (v3 >>> (v5 &&& 31))])) (hp' := xW B q59.2) (q := (.iconst 1, 1, 0, 0, .null)) rfl (fun _ => rfl) (Nat.le_refl _) ?_
        refine r_s (fr' := (71, lv, [.int ((v3 >>> (v5 &&& 31)) &&& 1)])) (hp' := xW B q59.2) (q := (.iand, 1, 0, 0, .null)) rfl (fun _ => rfl) (Nat.le_refl _) ?_
        refine r_if (len := 3) (a := 105) (b := 0) (v0 := .null) (cn := .ne) (off := 34) rfl (fun c => ?_) (fun c => ?_)
        · rw [if_pos c] at h
          exact T64_67_9_105 H he F slf kslf _ ih l0 l1 l2 l3 l4 l5 h
        · rw [if_neg (by rw [c]; decide)] at h
          refine q_lr (k := 1) (i := 0) (q := (.aload_n 0, 1, 0, 0, .null)) rfl (fun _ => rfl) l0 ?_
          refine r_gr (c := 68) H (pc := 75) rfl (by decide) (by decide) ?_
          refine q_li (k := 2) (i := 4) (q := (.iload 4, 2, 0, 0, .null)) rfl (fun _ => rfl) l4 ?_
          refine q_li (k := 2) (i := 5) (q := (.iload 5, 2, 0, 0, .null)) rfl (fun _ => rfl) l5 ?_
          obtain ⟨c1, h⟩ := xif h
          refine q_as (n := 6) (s2 := (xu q59.2 68 (v4 : Int32).toNatClampNeg v5)) H (pc := 82) rfl (by decide) c1 rfl ?_
          refine q_lr (k := 1) (i := 0) (q := (.aload_n 0, 1, 0, 0, .null)) rfl (fun _ => rfl) l0 ?_
          refine q_lr (k := 1) (i := 1) (q := (.aload_n 1, 1, 0, 0, .null)) rfl (fun _ => rfl) l1 ?_
          refine q_li (k := 2) (i := 5) (q := (.iload 5, 2, 0, 0, .null)) rfl (fun _ => rfl) l5 ?_
          refine q_li (k := 1) (i := 3) (q := (.iload_n 3, 1, 0, 0, .null)) rfl (fun _ => rfl) l3 ?_
          refine r_s (fr' := (89, lv, [.int 1, .int v3, .int v5, .ref 9, .ref 67])) (hp' := xW B (xu q59.2 68 (v4 : Int32).toNatClampNeg v5)) (q := (.iconst 1, 1, 0, 0, .null)) rfl (fun _ => rfl) (Nat.le_refl _) ?_
          refine q_li (k := 2) (i := 5) (q := (.iload 5, 2, 0, 0, .null)) rfl (fun _ => rfl) l5 ?_
          refine r_s (fr' := (92, lv, [.int (1 <<< (v5 &&& 31)), .int v3, .int v5, .ref 9, .ref 67])) (hp' := xW B (xu q59.2 68 (v4 : Int32).toNatClampNeg v5)) (q := (.ishl, 1, 0, 0, .null)) rfl (fun _ => rfl) (Nat.le_refl _) ?_
          refine r_s (fr' := (93, lv, [.int (v3 ||| (1 <<< (v5 &&& 31))), .int v5, .ref 9, .ref 67])) (hp' := xW B (xu q59.2 68 (v4 : Int32).toNatClampNeg v5)) (q := (.ior, 1, 0, 0, .null)) rfl (fun _ => rfl) (Nat.le_refl _) ?_
          refine q_li (k := 2) (i := 4) (q := (.iload 4, 2, 0, 0, .null)) rfl (fun _ => rfl) l4 ?_
          refine r_s (fr' := (96, lv, [.int 1, .int v4, .int (v3 ||| (1 <<< (v5 &&& 31))), .int v5, .ref 9, .ref 67])) (hp' := xW B (xu q59.2 68 (v4 : Int32).toNatClampNeg v5)) (q := (.iconst 1, 1, 0, 0, .null)) rfl (fun _ => rfl) (Nat.le_refl _) ?_
          refine r_s (fr' := (97, lv, [.int (v4 + 1), .int (v3 ||| (1 <<< (v5 &&& 31))), .int v5, .ref 9, .ref 67])) (hp' := xW B (xu q59.2 68 (v4 : Int32).toNatClampNeg v5)) (q := (.iadd, 1, 0, 0, .null)) rfl (fun _ => rfl) (Nat.le_refl _) ?_
          obtain ⟨q97, h97, h⟩ := xbind h
          refine r_call (ix := 67) (as := [.ref 9, .int v5, .int (v3 ||| (1 <<< (v5 &&& 31))), .int (v4 + 1)]) (rest := []) (rv := some (.int q97.1)) (hp' := xW B q97.2) (pc := 97) rfl xr64 rfl rfl rfl (xkd H (by decide)) (Nat.le_of_ble_eq_true rfl) (kslf h97) (Nat.le_refl _) ?_
          refine r_if (len := 3) (a := 105) (b := 0) (v0 := .null) (cn := .eq) (off := 5) rfl (fun c => ?_) (fun c => ?_)
          · rw [if_pos c] at h
            exact T64_67_9_105 H he F slf kslf _ ih l0 l1 l2 l3 l4 l5 h
          · rw [if_neg (by rw [c]; decide)] at h
            refine r_s (fr' := (104, lv, [.int 1])) (hp' := xW B q97.2) (q := (.iconst 1, 1, 0, 0, .null)) rfl (fun _ => rfl) (Nat.le_refl _) ?_
            obtain rfl := Option.some.inj h
            exact q_ri (q := (.ireturn, 1, 0, 0, .null)) rfl (fun _ => rfl) rfl rfl
def D64_67_9 (F : Nat) (slf : Int32 → Int32 → Int32 → xS → Option (Int32 × xS)) (v2 : Int32) (v3 : Int32) (v4 : Int32) (m : xS) : Option (Int32 × xS) :=
  if zcmp .ge v4 (m.1 67 1) = true then
    D64_67_9_16 F slf v2 v3 v4 m
  else
    if zcmp .lt v4 6 = true then
      D64_67_9_46 F slf F v2 v3 v4 ((m.1 68 0) + 1) m
    else
      D64_67_9_16 F slf v2 v3 v4 m
set_option maxRecDepth 20000 in
theorem T64_67_9 {B : zHp} (H : yH0 B) {e : Nat} (he : 2 ≤ e + 1) (F : Nat) (slf : Int32 → Int32 → Int32 → xS → Option (Int32 × xS)) (kslf : ∀ {a2 : Int32} {a3 : Int32} {a4 : Int32} {m : xS} {x : Int32 × xS}, slf a2 a3 a4 m = some x → zCan e 64 [.ref 67, .ref 9, .int a2, .int a3, .int a4] (xW B m) (some (.int x.1), xW B x.2)) {v2 : Int32} {v3 : Int32} {v4 : Int32} {lv : List (Nat × Value)} {m : xS} {x : Int32 × xS} (l0 : zld lv 0 = some (.ref 67)) (l1 : zld lv 1 = some (.ref 9)) (l2 : zld lv 2 = some (.int v2)) (l3 : zld lv 3 = some (.int v3)) (l4 : zld lv 4 = some (.int v4)) (h : D64_67_9 F slf v2 v3 v4 m = some x) : zR none e 6 (some .boolean) zc64 (0, lv, []) (xW B m) (some (.int x.1), xW B x.2) := by
  unfold D64_67_9 at h
  refine q_li (k := 2) (i := 4) (q := (.iload 4, 2, 0, 0, .null)) rfl (fun _ => rfl) l4 ?_
  refine q_lr (k := 1) (i := 0) (q := (.aload_n 0, 1, 0, 0, .null)) rfl (fun _ => rfl) l0 ?_
  refine r_gi (v := (m.1 67 1)) H (pc := 3) (i := _) rfl (by decide) (by decide) rfl ?_
  refine r_ifc (len := 3) (a := 16) (b := 0) (v0 := .null) (cn := .ge) (off := 10) rfl (fun c => ?_) (fun c => ?_)
  · rw [if_pos c] at h
    exact T64_67_9_16 H he F slf kslf l0 l1 l2 l3 l4 h
  · rw [if_neg (by rw [c]; decide)] at h
    refine q_li (k := 2) (i := 4) (q := (.iload 4, 2, 0, 0, .null)) rfl (fun _ => rfl) l4 ?_
    refine r_s (fr' := (13, lv, [.int 6, .int v4])) (hp' := xW B m) (q := (.bipush 6, 2, 0, 0, .null)) rfl (fun _ => rfl) (Nat.le_refl _) ?_
    refine r_ifc (len := 3) (a := 36) (b := 0) (v0 := .null) (cn := .lt) (off := 23) rfl (fun c => ?_) (fun c => ?_)
    · rw [if_pos c] at h
      refine q_lr (k := 1) (i := 0) (q := (.aload_n 0, 1, 0, 0, .null)) rfl (fun _ => rfl) l0 ?_
      refine r_gr (c := 68) H (pc := 37) rfl (by decide) (by decide) ?_
      refine r_s (fr' := (41, lv, [.int 0, .ref 68])) (hp' := xW B m) (q := (.iconst 0, 1, 0, 0, .null)) rfl (fun _ => rfl) (Nat.le_refl _) ?_
      refine q_al (n := 6) (v := (m.1 68 0)) H (pc := 41) rfl (by decide) (by decide) rfl ?_
      refine r_s (fr' := (43, lv, [.int 1, .int (m.1 68 0)])) (hp' := xW B m) (q := (.iconst 1, 1, 0, 0, .null)) rfl (fun _ => rfl) (Nat.le_refl _) ?_
      refine r_s (fr' := (44, lv, [.int ((m.1 68 0) + 1)])) (hp' := xW B m) (q := (.iadd, 1, 0, 0, .null)) rfl (fun _ => rfl) (Nat.le_refl _) ?_
      refine q_si (k := 2) (i := 5) (q := (.istore 5, 2, 0, 0, .null)) rfl (fun _ => rfl) (by decide) ?_
      have l0_1 : zld (zs1 lv 5 (.int ((m.1 68 0) + 1))) 0 = some (.ref 67) := x_o1 l0 rfl rfl
      have l1_1 : zld (zs1 lv 5 (.int ((m.1 68 0) + 1))) 1 = some (.ref 9) := x_o1 l1 rfl rfl
      have l2_1 : zld (zs1 lv 5 (.int ((m.1 68 0) + 1))) 2 = some (.int v2) := x_o1 l2 rfl rfl
      have l3_1 : zld (zs1 lv 5 (.int ((m.1 68 0) + 1))) 3 = some (.int v3) := x_o1 l3 rfl rfl
      have l4_1 : zld (zs1 lv 5 (.int ((m.1 68 0) + 1))) 4 = some (.int v4) := x_o1 l4 rfl rfl
      have l5_1 : zld (zs1 lv 5 (.int ((m.1 68 0) + 1))) 5 = some (.int ((m.1 68 0) + 1)) := zs1_ld _ _ _
      generalize (zs1 lv 5 (.int ((m.1 68 0) + 1))) = lv1 at *
      exact T64_67_9_46 H he F slf kslf F l0_1 l1_1 l2_1 l3_1 l4_1 l5_1 h
    · rw [if_neg (by rw [c]; decide)] at h
      exact T64_67_9_16 H he F slf kslf l0 l1 l2 l3 l4 h
def D64_67_9r (F : Nat) : Nat → Int32 → Int32 → Int32 → xS → Option (Int32 × xS)
  | 0, _, _, _, _ => none
  | g + 1, a2, a3, a4, m => D64_67_9 F (D64_67_9r F g) a2 a3 a4 m
set_option maxRecDepth 20000 in
theorem Z64_67_9 {B : zHp} (H : yH0 B) {F : Nat} : ∀ (g : Nat) {a2 : Int32} {a3 : Int32} {a4 : Int32} {m : xS} {x : Int32 × xS} (_ : D64_67_9r F g a2 a3 a4 m = some x) {d : Nat} (_ : 2 + g ≤ d), zCan d 64 [.ref 67, .ref 9, .int a2, .int a3, .int a4] (xW B m) (some (.int x.1), xW B x.2) := by
  intro g
  induction g with
  | zero => intro a2 a3 a4 m x h; cases h
  | succ g ih =>
    intro a2 a3 a4 m x h d hd
    have h : D64_67_9 F (D64_67_9r F g) a2 a3 a4 m = some x := h
    obtain ⟨e, rfl⟩ : ∃ e, d = e + 1 := ⟨d - 1, by omega⟩
    refine zCan_body (nL := 6) (rt := (some .boolean)) (cd := zc64) (xg64) ⟨Nat.le_of_ble_eq_true rfl, by decide⟩ (Nat.le_refl _) ?_
    exact T64_67_9 H (by omega) F (D64_67_9r F g) (fun h2 => ih h2 (by omega)) rfl rfl rfl rfl rfl h
/-- LentTools$ThanksRings.findShortest -/
def D63_67_9_17 (F : Nat) (g2 : Int32 → xS → Option (Unit × xS)) : Nat → Int32 → Int32 → xS → Option (Unit × xS)
  | 0, _, _, _ => none
  | f + 1, v2, v3, m =>
    (D77_9 F m).bind fun q19 =>
      if zcmp .ge v3 q19.1 = true then
        g2 (v2 + Int32.ofInt 1) q19.2
      else
        (D64_67_9r F 7 v3 (1 <<< (v3 &&& 31)) 1 (xu q19.2 68 0 v3)).bind fun q39 =>
          if zcmp .eq q39.1 0 = true then
            D63_67_9_17 F g2 f v2 (v3 + Int32.ofInt 1) q39.2
          else
            some ((), q39.2)
set_option maxRecDepth 20000 in
theorem T63_67_9_17 {B : zHp} (H : yH0 B) {e : Nat} (he : 10 ≤ e + 1) (F : Nat) (g2 : Int32 → xS → Option (Unit × xS)) (k2 : ∀ {v2 : Int32} {lv : List (Nat × Value)} {m : xS} {x : Unit × xS}, zld lv 0 = some (.ref 67) → zld lv 1 = some (.ref 9) → zld lv 2 = some (.int v2) → g2 v2 m = some x → zR none e 4 none zc63 (2, lv, []) (xW B m) (none, xW B x.2)) : ∀ (f : Nat) {v2 : Int32} {v3 : Int32} {lv : List (Nat × Value)} {m : xS} {x : Unit × xS}, zld lv 0 = some (.ref 67) → zld lv 1 = some (.ref 9) → zld lv 2 = some (.int v2) → zld lv 3 = some (.int v3) → D63_67_9_17 F g2 f v2 v3 m = some x → zR none e 4 none zc63 (17, lv, []) (xW B m) (none, xW B x.2) := by
  intro f
  induction f with
  | zero => intro v2 v3 lv m x l0 l1 l2 l3 h; cases h
  | succ f ih =>
    intro v2 v3 lv m x l0 l1 l2 l3 h
    unfold D63_67_9_17 at h
    refine q_li (k := 1) (i := 3) (q := (.iload_n 3, 1, 0, 0, .null)) rfl (fun _ => rfl) l3 ?_
    refine q_lr (k := 1) (i := 1) (q := (.aload_n 1, 1, 0, 0, .null)) rfl (fun _ => rfl) l1 ?_
    obtain ⟨q19, h19, h⟩ := xbind h
    refine r_call (ix := 9) (as := []) (rest := [.int v3]) (rv := some (.int q19.1)) (hp' := xW B q19.2) (pc := 19) rfl xr77 rfl rfl rfl (xkd H (by decide)) (Nat.le_of_ble_eq_true rfl) (Z77_9 H h19 (by omega)) (Nat.le_refl _) ?_
    refine r_ifc (len := 3) (a := 52) (b := 0) (v0 := .null) (cn := .ge) (off := 30) rfl (fun c => ?_) (fun c => ?_)
    · rw [if_pos c] at h
      refine q_inc (i := 2) (n := 1) (q := (.iinc 2 1, 3, 0, 0, .null)) rfl (fun _ => rfl) l2 (by decide) ?_
      have l0_1 : zld (zs1 lv 2 (.int (v2 + Int32.ofInt 1))) 0 = some (.ref 67) := x_o1 l0 rfl rfl
      have l1_1 : zld (zs1 lv 2 (.int (v2 + Int32.ofInt 1))) 1 = some (.ref 9) := x_o1 l1 rfl rfl
      have l2_1 : zld (zs1 lv 2 (.int (v2 + Int32.ofInt 1))) 2 = some (.int (v2 + Int32.ofInt 1)) := zs1_ld _ _ _
      have l3_1 : zld (zs1 lv 2 (.int (v2 + Int32.ofInt 1))) 3 = some (.int v3) := x_o1 l3 rfl rfl
      generalize (zs1 lv 2 (.int (v2 + Int32.ofInt 1))) = lv1 at *
      refine r_s (fr' := (2, lv1, [])) (hp' := xW B q19.2) (q := (.goto (-53), 3, 2, 0, .null)) rfl (fun _ => rfl) (Nat.le_refl _) ?_
      exact k2 l0_1 l1_1 l2_1 h
    · rw [if_neg (by rw [c]; decide)] at h
      refine q_lr (k := 1) (i := 0) (q := (.aload_n 0, 1, 0, 0, .null)) rfl (fun _ => rfl) l0 ?_
      refine r_gr (c := 68) H (pc := 26) rfl (by decide) (by decide) ?_
      refine r_s (fr' := (30, lv, [.int 0, .ref 68])) (hp' := xW B q19.2) (q := (.iconst 0, 1, 0, 0, .null)) rfl (fun _ => rfl) (Nat.le_refl _) ?_
      refine q_li (k := 1) (i := 3) (q := (.iload_n 3, 1, 0, 0, .null)) rfl (fun _ => rfl) l3 ?_
      refine q_as (n := 6) (s2 := (xu q19.2 68 0 v3)) H (pc := 31) rfl (by decide) (by decide) rfl ?_
      refine q_lr (k := 1) (i := 0) (q := (.aload_n 0, 1, 0, 0, .null)) rfl (fun _ => rfl) l0 ?_
      refine q_lr (k := 1) (i := 1) (q := (.aload_n 1, 1, 0, 0, .null)) rfl (fun _ => rfl) l1 ?_
      refine q_li (k := 1) (i := 3) (q := (.iload_n 3, 1, 0, 0, .null)) rfl (fun _ => rfl) l3 ?_
      refine r_s (fr' := (36, lv, [.int 1, .int v3, .ref 9, .ref 67])) (hp' := xW B (xu q19.2 68 0 v3)) (q := (.iconst 1, 1, 0, 0, .null)) rfl (fun _ => rfl) (Nat.le_refl _) ?_
      refine q_li (k := 1) (i := 3) (q := (.iload_n 3, 1, 0, 0, .null)) rfl (fun _ => rfl) l3 ?_
      refine r_s (fr' := (38, lv, [.int (1 <<< (v3 &&& 31)), .int v3, .ref 9, .ref 67])) (hp' := xW B (xu q19.2 68 0 v3)) (q := (.ishl, 1, 0, 0, .null)) rfl (fun _ => rfl) (Nat.le_refl _) ?_
      refine r_s (fr' := (39, lv, [.int 1, .int (1 <<< (v3 &&& 31)), .int v3, .ref 9, .ref 67])) (hp' := xW B (xu q19.2 68 0 v3)) (q := (.iconst 1, 1, 0, 0, .null)) rfl (fun _ => rfl) (Nat.le_refl _) ?_
      obtain ⟨q39, h39, h⟩ := xbind h
      refine r_call (ix := 67) (as := [.ref 9, .int v3, .int (1 <<< (v3 &&& 31)), .int 1]) (rest := []) (rv := some (.int q39.1)) (hp' := xW B q39.2) (pc := 39) rfl xr64 rfl rfl rfl (xkd H (by decide)) (Nat.le_of_ble_eq_true rfl) (Z64_67_9 H 7 h39 (by omega)) (Nat.le_refl _) ?_
      refine r_if (len := 3) (a := 46) (b := 0) (v0 := .null) (cn := .eq) (off := 4) rfl (fun c => ?_) (fun c => ?_)
      · rw [if_pos c] at h
        refine q_inc (i := 3) (n := 1) (q := (.iinc 3 1, 3, 0, 0, .null)) rfl (fun _ => rfl) l3 (by decide) ?_
        have l0_2 : zld (zs1 lv 3 (.int (v3 + Int32.ofInt 1))) 0 = some (.ref 67) := x_o1 l0 rfl rfl
        have l1_2 : zld (zs1 lv 3 (.int (v3 + Int32.ofInt 1))) 1 = some (.ref 9) := x_o1 l1 rfl rfl
        have l2_2 : zld (zs1 lv 3 (.int (v3 + Int32.ofInt 1))) 2 = some (.int v2) := x_o1 l2 rfl rfl
        have l3_2 : zld (zs1 lv 3 (.int (v3 + Int32.ofInt 1))) 3 = some (.int (v3 + Int32.ofInt 1)) := zs1_ld _ _ _
        generalize (zs1 lv 3 (.int (v3 + Int32.ofInt 1))) = lv2 at *
        refine r_s (fr' := (17, lv2, [])) (hp' := xW B q39.2) (q := (.goto (-32), 3, 17, 0, .null)) rfl (fun _ => rfl) (Nat.le_refl _) ?_
        exact ih l0_2 l1_2 l2_2 l3_2 h
      · rw [if_neg (by rw [c]; decide)] at h
        obtain rfl := Option.some.inj h
        exact r_ret (q := (.return_, 1, 0, 0, .null)) rfl rfl (fun _ => rfl)
def D63_67_9_2 (F : Nat) : Nat → Int32 → xS → Option (Unit × xS)
  | 0, _, _ => none
  | f + 1, v2, m =>
    (D77_9 F m).bind fun q4 =>
      if zcmp .gt v2 q4.1 = true then
        some ((), (xu q4.2 67 1 0))
      else
        D63_67_9_17 F (D63_67_9_2 F f) F v2 0 (xu q4.2 67 1 v2)
set_option maxRecDepth 20000 in
theorem T63_67_9_2 {B : zHp} (H : yH0 B) {e : Nat} (he : 10 ≤ e + 1) (F : Nat) : ∀ (f : Nat) {v2 : Int32} {lv : List (Nat × Value)} {m : xS} {x : Unit × xS}, zld lv 0 = some (.ref 67) → zld lv 1 = some (.ref 9) → zld lv 2 = some (.int v2) → D63_67_9_2 F f v2 m = some x → zR none e 4 none zc63 (2, lv, []) (xW B m) (none, xW B x.2) := by
  intro f
  induction f with
  | zero => intro v2 lv m x l0 l1 l2 h; cases h
  | succ f ih =>
    intro v2 lv m x l0 l1 l2 h
    unfold D63_67_9_2 at h
    refine q_li (k := 1) (i := 2) (q := (.iload_n 2, 1, 0, 0, .null)) rfl (fun _ => rfl) l2 ?_
    refine q_lr (k := 1) (i := 1) (q := (.aload_n 1, 1, 0, 0, .null)) rfl (fun _ => rfl) l1 ?_
    obtain ⟨q4, h4, h⟩ := xbind h
    refine r_call (ix := 9) (as := []) (rest := [.int v2]) (rv := some (.int q4.1)) (hp' := xW B q4.2) (pc := 4) rfl xr77 rfl rfl rfl (xkd H (by decide)) (Nat.le_of_ble_eq_true rfl) (Z77_9 H h4 (by omega)) (Nat.le_refl _) ?_
    refine r_ifc (len := 3) (a := 58) (b := 0) (v0 := .null) (cn := .gt) (off := 51) rfl (fun c => ?_) (fun c => ?_)
    · rw [if_pos c] at h
      refine q_lr (k := 1) (i := 0) (q := (.aload_n 0, 1, 0, 0, .null)) rfl (fun _ => rfl) l0 ?_
      refine r_s (fr' := (60, lv, [.int 0, .ref 67])) (hp' := xW B q4.2) (q := (.iconst 0, 1, 0, 0, .null)) rfl (fun _ => rfl) (Nat.le_refl _) ?_
      refine r_pi (s2 := (xu q4.2 67 1 0)) H (pc := 60) rfl (by decide) rfl rfl ?_
      obtain rfl := Option.some.inj h
      exact r_ret (q := (.return_, 1, 0, 0, .null)) rfl rfl (fun _ => rfl)
    · rw [if_neg (by rw [c]; decide)] at h
      refine q_lr (k := 1) (i := 0) (q := (.aload_n 0, 1, 0, 0, .null)) rfl (fun _ => rfl) l0 ?_
      refine q_li (k := 1) (i := 2) (q := (.iload_n 2, 1, 0, 0, .null)) rfl (fun _ => rfl) l2 ?_
      refine r_pi (s2 := (xu q4.2 67 1 v2)) H (pc := 12) rfl (by decide) rfl rfl ?_
      refine r_s (fr' := (16, lv, [.int 0])) (hp' := xW B (xu q4.2 67 1 v2)) (q := (.iconst 0, 1, 0, 0, .null)) rfl (fun _ => rfl) (Nat.le_refl _) ?_
      refine q_si (k := 1) (i := 3) (q := (.istore_n 3, 1, 0, 0, .null)) rfl (fun _ => rfl) (by decide) ?_
      have l0_1 : zld (zs1 lv 3 (.int 0)) 0 = some (.ref 67) := x_o1 l0 rfl rfl
      have l1_1 : zld (zs1 lv 3 (.int 0)) 1 = some (.ref 9) := x_o1 l1 rfl rfl
      have l2_1 : zld (zs1 lv 3 (.int 0)) 2 = some (.int v2) := x_o1 l2 rfl rfl
      have l3_1 : zld (zs1 lv 3 (.int 0)) 3 = some (.int 0) := zs1_ld _ _ _
      generalize (zs1 lv 3 (.int 0)) = lv1 at *
      exact T63_67_9_17 H he F _ ih F l0_1 l1_1 l2_1 l3_1 h
def D63_67_9 (F : Nat) (m : xS) : Option (Unit × xS) :=
  D63_67_9_2 F F 2 m
set_option maxRecDepth 20000 in
theorem T63_67_9 {B : zHp} (H : yH0 B) {e : Nat} (he : 10 ≤ e + 1) (F : Nat) {lv : List (Nat × Value)} {m : xS} {x : Unit × xS} (l0 : zld lv 0 = some (.ref 67)) (l1 : zld lv 1 = some (.ref 9)) (h : D63_67_9 F m = some x) : zR none e 4 none zc63 (0, lv, []) (xW B m) (none, xW B x.2) := by
  unfold D63_67_9 at h
  refine r_s (fr' := (1, lv, [.int 2])) (hp' := xW B m) (q := (.iconst 2, 1, 0, 0, .null)) rfl (fun _ => rfl) (Nat.le_refl _) ?_
  refine q_si (k := 1) (i := 2) (q := (.istore_n 2, 1, 0, 0, .null)) rfl (fun _ => rfl) (by decide) ?_
  have l0_1 : zld (zs1 lv 2 (.int 2)) 0 = some (.ref 67) := x_o1 l0 rfl rfl
  have l1_1 : zld (zs1 lv 2 (.int 2)) 1 = some (.ref 9) := x_o1 l1 rfl rfl
  have l2_1 : zld (zs1 lv 2 (.int 2)) 2 = some (.int 2) := zs1_ld _ _ _
  generalize (zs1 lv 2 (.int 2)) = lv1 at *
  exact T63_67_9_2 H he F F l0_1 l1_1 l2_1 h
set_option maxRecDepth 20000 in
theorem Z63_67_9 {B : zHp} (H : yH0 B) {F : Nat} {m : xS} {x : Unit × xS} (h : D63_67_9 F m = some x) {d : Nat} (hd : 10 ≤ d) : zCan d 63 [.ref 67, .ref 9] (xW B m) (none, xW B x.2) := by
  obtain ⟨e, rfl⟩ : ∃ e, d = e + 1 := ⟨d - 1, by omega⟩
  refine zCan_body (nL := 4) (rt := none) (cd := zc63) (xg63) ⟨Nat.le_of_ble_eq_true rfl, by decide⟩ (Nat.le_refl _) ?_
  exact T63_67_9 H hd F rfl rfl h
/-- LentTools$ThanksRings.settle -/
def D65_67_9_43 (F : Nat) (g2 : Int32 → xS → Option (Unit × xS)) (v2 : Int32) (w0 : Int32) (m : xS) : Option (Unit × xS) :=
  if xib v2 6 = true then
    if xib v2 6 = true then
      (D94_9 F (m.1 68 (v2 : Int32).toNatClampNeg) w0 m).bind fun q60 =>
        (D75_9 F (m.1 68 (v2 : Int32).toNatClampNeg) w0 (q60.1 - 1) q60.2).bind fun q65 =>
          g2 (v2 + Int32.ofInt 1) q65.2
    else none
  else none
set_option maxRecDepth 20000 in
theorem T65_67_9_43 {B : zHp} (H : yH0 B) {e : Nat} (he : 2 ≤ e + 1) (F : Nat) (g2 : Int32 → xS → Option (Unit × xS)) (k2 : ∀ {v2 : Int32} {lv : List (Nat × Value)} {m : xS} {x : Unit × xS}, zld lv 0 = some (.ref 67) → zld lv 1 = some (.ref 9) → zld lv 2 = some (.int v2) → g2 v2 m = some x → zR none e 4 none zc65 (2, lv, []) (xW B m) (none, xW B x.2)) {v2 : Int32} {w0 : Int32} {lv : List (Nat × Value)} {m : xS} {x : Unit × xS} (l0 : zld lv 0 = some (.ref 67)) (l1 : zld lv 1 = some (.ref 9)) (l2 : zld lv 2 = some (.int v2)) (h : D65_67_9_43 F g2 v2 w0 m = some x) : zR none e 4 none zc65 (43, lv, [.int w0]) (xW B m) (none, xW B x.2) := by
  unfold D65_67_9_43 at h
  refine q_si (k := 1) (i := 3) (q := (.istore_n 3, 1, 0, 0, .null)) rfl (fun _ => rfl) (by decide) ?_
  have l0_1 : zld (zs1 lv 3 (.int w0)) 0 = some (.ref 67) := x_o1 l0 rfl rfl
  have l1_1 : zld (zs1 lv 3 (.int w0)) 1 = some (.ref 9) := x_o1 l1 rfl rfl
  have l2_1 : zld (zs1 lv 3 (.int w0)) 2 = some (.int v2) := x_o1 l2 rfl rfl
  have l3_1 : zld (zs1 lv 3 (.int w0)) 3 = some (.int w0) := zs1_ld _ _ _
  generalize (zs1 lv 3 (.int w0)) = lv1 at *
  refine q_lr (k := 1) (i := 1) (q := (.aload_n 1, 1, 0, 0, .null)) rfl (fun _ => rfl) l1_1 ?_
  refine q_lr (k := 1) (i := 0) (q := (.aload_n 0, 1, 0, 0, .null)) rfl (fun _ => rfl) l0_1 ?_
  refine r_gr (c := 68) H (pc := 46) rfl (by decide) (by decide) ?_
  refine q_li (k := 1) (i := 2) (q := (.iload_n 2, 1, 0, 0, .null)) rfl (fun _ => rfl) l2_1 ?_
  obtain ⟨c2, h⟩ := xif h
  refine q_al (n := 6) (v := (m.1 68 (v2 : Int32).toNatClampNeg)) H (pc := 50) rfl (by decide) c2 rfl ?_
  refine q_li (k := 1) (i := 3) (q := (.iload_n 3, 1, 0, 0, .null)) rfl (fun _ => rfl) l3_1 ?_
  refine q_lr (k := 1) (i := 1) (q := (.aload_n 1, 1, 0, 0, .null)) rfl (fun _ => rfl) l1_1 ?_
  refine q_lr (k := 1) (i := 0) (q := (.aload_n 0, 1, 0, 0, .null)) rfl (fun _ => rfl) l0_1 ?_
  refine r_gr (c := 68) H (pc := 54) rfl (by decide) (by decide) ?_
  refine q_li (k := 1) (i := 2) (q := (.iload_n 2, 1, 0, 0, .null)) rfl (fun _ => rfl) l2_1 ?_
  obtain ⟨c3, h⟩ := xif h
  refine q_al (n := 6) (v := (m.1 68 (v2 : Int32).toNatClampNeg)) H (pc := 58) rfl (by decide) c3 rfl ?_
  refine q_li (k := 1) (i := 3) (q := (.iload_n 3, 1, 0, 0, .null)) rfl (fun _ => rfl) l3_1 ?_
  obtain ⟨q60, h60, h⟩ := xbind h
  refine r_call (ix := 9) (as := [.int (m.1 68 (v2 : Int32).toNatClampNeg), .int w0]) (rest := [.int w0, .int (m.1 68 (v2 : Int32).toNatClampNeg), .ref 9]) (rv := some (.int q60.1)) (hp' := xW B q60.2) (pc := 60) rfl xr94 rfl rfl rfl (xkd H (by decide)) (Nat.le_of_ble_eq_true rfl) (Z94_9 H h60 (by omega)) (Nat.le_refl _) ?_
  refine r_s (fr' := (64, lv1, [.int 1, .int q60.1, .int w0, .int (m.1 68 (v2 : Int32).toNatClampNeg), .ref 9])) (hp' := xW B q60.2) (q := (.iconst 1, 1, 0, 0, .null)) rfl (fun _ => rfl) (Nat.le_refl _) ?_
  refine r_s (fr' := (65, lv1, [.int (q60.1 - 1), .int w0, .int (m.1 68 (v2 : Int32).toNatClampNeg), .ref 9])) (hp' := xW B q60.2) (q := (.isub, 1, 0, 0, .null)) rfl (fun _ => rfl) (Nat.le_refl _) ?_
  obtain ⟨q65, h65, h⟩ := xbind h
  refine r_call (ix := 9) (as := [.int (m.1 68 (v2 : Int32).toNatClampNeg), .int w0, .int (q60.1 - 1)]) (rest := []) (rv := none) (hp' := xW B q65.2) (pc := 65) rfl xr75 rfl rfl rfl (xkd H (by decide)) (Nat.le_of_ble_eq_true rfl) (Z75_9 H h65 (by omega)) (Nat.le_refl _) ?_
  refine q_inc (i := 2) (n := 1) (q := (.iinc 2 1, 3, 0, 0, .null)) rfl (fun _ => rfl) l2_1 (by decide) ?_
  have l0_4 : zld (zs1 lv1 2 (.int (v2 + Int32.ofInt 1))) 0 = some (.ref 67) := x_o1 l0_1 rfl rfl
  have l1_4 : zld (zs1 lv1 2 (.int (v2 + Int32.ofInt 1))) 1 = some (.ref 9) := x_o1 l1_1 rfl rfl
  have l2_4 : zld (zs1 lv1 2 (.int (v2 + Int32.ofInt 1))) 2 = some (.int (v2 + Int32.ofInt 1)) := zs1_ld _ _ _
  have l3_4 : zld (zs1 lv1 2 (.int (v2 + Int32.ofInt 1))) 3 = some (.int w0) := x_o1 l3_1 rfl rfl
  generalize (zs1 lv1 2 (.int (v2 + Int32.ofInt 1))) = lv4 at *
  refine r_s (fr' := (2, lv4, [])) (hp' := xW B q65.2) (q := (.goto (-69), 3, 2, 0, .null)) rfl (fun _ => rfl) (Nat.le_refl _) ?_
  exact k2 l0_4 l1_4 l2_4 h
def D65_67_9_2 (F : Nat) : Nat → Int32 → xS → Option (Unit × xS)
  | 0, _, _ => none
  | f + 1, v2, m =>
    if zcmp .ge v2 (m.1 67 1) = true then
      some ((), m)
    else
      if zcmp .ge v2 6 = true then
        some ((), m)
      else
        if zcmp .ge (v2 + 1) (m.1 67 1) = true then
          D65_67_9_43 F (D65_67_9_2 F f) v2 (m.1 68 0) m
        else
          if xib (v2 + 1) 6 = true then
            D65_67_9_43 F (D65_67_9_2 F f) v2 (m.1 68 ((v2 + 1) : Int32).toNatClampNeg) m
          else none
set_option maxRecDepth 20000 in
theorem T65_67_9_2 {B : zHp} (H : yH0 B) {e : Nat} (he : 2 ≤ e + 1) (F : Nat) : ∀ (f : Nat) {v2 : Int32} {lv : List (Nat × Value)} {m : xS} {x : Unit × xS}, zld lv 0 = some (.ref 67) → zld lv 1 = some (.ref 9) → zld lv 2 = some (.int v2) → D65_67_9_2 F f v2 m = some x → zR none e 4 none zc65 (2, lv, []) (xW B m) (none, xW B x.2) := by
  intro f
  induction f with
  | zero => intro v2 lv m x l0 l1 l2 h; cases h
  | succ f ih =>
    intro v2 lv m x l0 l1 l2 h
    unfold D65_67_9_2 at h
    refine q_li (k := 1) (i := 2) (q := (.iload_n 2, 1, 0, 0, .null)) rfl (fun _ => rfl) l2 ?_
    refine q_lr (k := 1) (i := 0) (q := (.aload_n 0, 1, 0, 0, .null)) rfl (fun _ => rfl) l0 ?_
    refine r_gi (v := (m.1 67 1)) H (pc := 4) (i := _) rfl (by decide) (by decide) rfl ?_
    refine r_ifc (len := 3) (a := 74) (b := 0) (v0 := .null) (cn := .ge) (off := 67) rfl (fun c => ?_) (fun c => ?_)
    · rw [if_pos c] at h
      obtain rfl := Option.some.inj h
      exact r_ret (q := (.return_, 1, 0, 0, .null)) rfl rfl (fun _ => rfl)
    · rw [if_neg (by rw [c]; decide)] at h
      refine q_li (k := 1) (i := 2) (q := (.iload_n 2, 1, 0, 0, .null)) rfl (fun _ => rfl) l2 ?_
      refine r_s (fr' := (13, lv, [.int 6, .int v2])) (hp' := xW B m) (q := (.bipush 6, 2, 0, 0, .null)) rfl (fun _ => rfl) (Nat.le_refl _) ?_
      refine r_ifc (len := 3) (a := 74) (b := 0) (v0 := .null) (cn := .ge) (off := 61) rfl (fun c => ?_) (fun c => ?_)
      · rw [if_pos c] at h
        obtain rfl := Option.some.inj h
        exact r_ret (q := (.return_, 1, 0, 0, .null)) rfl rfl (fun _ => rfl)
      · rw [if_neg (by rw [c]; decide)] at h
        refine q_li (k := 1) (i := 2) (q := (.iload_n 2, 1, 0, 0, .null)) rfl (fun _ => rfl) l2 ?_
        refine r_s (fr' := (18, lv, [.int 1, .int v2])) (hp' := xW B m) (q := (.iconst 1, 1, 0, 0, .null)) rfl (fun _ => rfl) (Nat.le_refl _) ?_
        refine r_s (fr' := (19, lv, [.int (v2 + 1)])) (hp' := xW B m) (q := (.iadd, 1, 0, 0, .null)) rfl (fun _ => rfl) (Nat.le_refl _) ?_
        refine q_lr (k := 1) (i := 0) (q := (.aload_n 0, 1, 0, 0, .null)) rfl (fun _ => rfl) l0 ?_
        refine r_gi (v := (m.1 67 1)) H (pc := 20) (i := _) rfl (by decide) (by decide) rfl ?_
        refine r_ifc (len := 3) (a := 37) (b := 0) (v0 := .null) (cn := .ge) (off := 14) rfl (fun c => ?_) (fun c => ?_)
        · rw [if_pos c] at h
          refine q_lr (k := 1) (i := 0) (q := (.aload_n 0, 1, 0, 0, .null)) rfl (fun _ => rfl) l0 ?_
          refine r_gr (c := 68) H (pc := 38) rfl (by decide) (by decide) ?_
          refine r_s (fr' := (42, lv, [.int 0, .ref 68])) (hp' := xW B m) (q := (.iconst 0, 1, 0, 0, .null)) rfl (fun _ => rfl) (Nat.le_refl _) ?_
          refine q_al (n := 6) (v := (m.1 68 0)) H (pc := 42) rfl (by decide) (by decide) rfl ?_
          exact T65_67_9_43 H he F _ ih l0 l1 l2 h
        · rw [if_neg (by rw [c]; decide)] at h
          refine q_lr (k := 1) (i := 0) (q := (.aload_n 0, 1, 0, 0, .null)) rfl (fun _ => rfl) l0 ?_
          refine r_gr (c := 68) H (pc := 27) rfl (by decide) (by decide) ?_
          refine q_li (k := 1) (i := 2) (q := (.iload_n 2, 1, 0, 0, .null)) rfl (fun _ => rfl) l2 ?_
          refine r_s (fr' := (32, lv, [.int 1, .int v2, .ref 68])) (hp' := xW B m) (q := (.iconst 1, 1, 0, 0, .null)) rfl (fun _ => rfl) (Nat.le_refl _) ?_
          refine r_s (fr' := (33, lv, [.int (v2 + 1), .ref 68])) (hp' := xW B m) (q := (.iadd, 1, 0, 0, .null)) rfl (fun _ => rfl) (Nat.le_refl _) ?_
          obtain ⟨c1, h⟩ := xif h
          refine q_al (n := 6) (v := (m.1 68 ((v2 + 1) : Int32).toNatClampNeg)) H (pc := 33) rfl (by decide) c1 rfl ?_
          refine r_s (fr' := (43, lv, [.int (m.1 68 ((v2 + 1) : Int32).toNatClampNeg)])) (hp' := xW B m) (q := (.goto 9, 3, 43, 0, .null)) rfl (fun _ => rfl) (Nat.le_refl _) ?_
          exact T65_67_9_43 H he F _ ih l0 l1 l2 h
def D65_67_9 (F : Nat) (m : xS) : Option (Unit × xS) :=
  D65_67_9_2 F F 0 m
set_option maxRecDepth 20000 in
theorem T65_67_9 {B : zHp} (H : yH0 B) {e : Nat} (he : 2 ≤ e + 1) (F : Nat) {lv : List (Nat × Value)} {m : xS} {x : Unit × xS} (l0 : zld lv 0 = some (.ref 67)) (l1 : zld lv 1 = some (.ref 9)) (h : D65_67_9 F m = some x) : zR none e 4 none zc65 (0, lv, []) (xW B m) (none, xW B x.2) := by
  unfold D65_67_9 at h
  refine r_s (fr' := (1, lv, [.int 0])) (hp' := xW B m) (q := (.iconst 0, 1, 0, 0, .null)) rfl (fun _ => rfl) (Nat.le_refl _) ?_
  refine q_si (k := 1) (i := 2) (q := (.istore_n 2, 1, 0, 0, .null)) rfl (fun _ => rfl) (by decide) ?_
  have l0_1 : zld (zs1 lv 2 (.int 0)) 0 = some (.ref 67) := x_o1 l0 rfl rfl
  have l1_1 : zld (zs1 lv 2 (.int 0)) 1 = some (.ref 9) := x_o1 l1 rfl rfl
  have l2_1 : zld (zs1 lv 2 (.int 0)) 2 = some (.int 0) := zs1_ld _ _ _
  generalize (zs1 lv 2 (.int 0)) = lv1 at *
  exact T65_67_9_2 H he F F l0_1 l1_1 l2_1 h
set_option maxRecDepth 20000 in
theorem Z65_67_9 {B : zHp} (H : yH0 B) {F : Nat} {m : xS} {x : Unit × xS} (h : D65_67_9 F m = some x) {d : Nat} (hd : 2 ≤ d) : zCan d 65 [.ref 67, .ref 9] (xW B m) (none, xW B x.2) := by
  obtain ⟨e, rfl⟩ : ∃ e, d = e + 1 := ⟨d - 1, by omega⟩
  refine zCan_body (nL := 4) (rt := none) (cd := zc65) (xg65) ⟨Nat.le_of_ble_eq_true rfl, by decide⟩ (Nat.le_refl _) ?_
  exact T65_67_9 H hd F rfl rfl h
/-- LentTools.ring -/
def D135_0 (F : Nat) (m : xS) : Option (Int32 × xS) :=
  (D63_67_9 F m).bind fun q8 =>
    if zcmp .ne (q8.2.1 67 1) 0 = true then
      (D16_14_9 F q8.2).bind fun q31 =>
        (D65_67_9 F q31.2).bind fun q42 =>
          some ((q42.2.1 67 1), q42.2)
    else
      some ((-1), q8.2)
set_option maxRecDepth 20000 in
theorem T135_0 {B : zHp} (H : yH0 B) {e : Nat} (he : 11 ≤ e + 1) (F : Nat) {lv : List (Nat × Value)} {m : xS} {x : Int32 × xS} (l0 : zld lv 0 = some (.ref 0)) (h : D135_0 F m = some x) : zR none e 1 (some .int) zc135 (0, lv, []) (xW B m) (some (.int x.1), xW B x.2) := by
  unfold D135_0 at h
  refine q_lr (k := 1) (i := 0) (q := (.aload_n 0, 1, 0, 0, .null)) rfl (fun _ => rfl) l0 ?_
  refine r_gr (c := 67) H (pc := 1) rfl (by decide) (by decide) ?_
  refine q_lr (k := 1) (i := 0) (q := (.aload_n 0, 1, 0, 0, .null)) rfl (fun _ => rfl) l0 ?_
  refine r_gr (c := 9) H (pc := 5) rfl (by decide) (by decide) ?_
  obtain ⟨q8, h8, h⟩ := xbind h
  refine r_call (ix := 67) (as := [.ref 9]) (rest := []) (rv := none) (hp' := xW B q8.2) (pc := 8) rfl xr63 rfl rfl rfl (xkd H (by decide)) (Nat.le_of_ble_eq_true rfl) (Z63_67_9 H h8 (by omega)) (Nat.le_refl _) ?_
  refine q_lr (k := 1) (i := 0) (q := (.aload_n 0, 1, 0, 0, .null)) rfl (fun _ => rfl) l0 ?_
  refine r_gr (c := 67) H (pc := 12) rfl (by decide) (by decide) ?_
  refine r_gi (v := (q8.2.1 67 1)) H (pc := 15) (i := _) rfl (by decide) (by decide) rfl ?_
  refine r_if (len := 3) (a := 23) (b := 0) (v0 := .null) (cn := .ne) (off := 5) rfl (fun c => ?_) (fun c => ?_)
  · rw [if_pos c] at h
    refine q_lr (k := 1) (i := 0) (q := (.aload_n 0, 1, 0, 0, .null)) rfl (fun _ => rfl) l0 ?_
    refine r_gr (c := 14) H (pc := 24) rfl (by decide) (by decide) ?_
    refine q_lr (k := 1) (i := 0) (q := (.aload_n 0, 1, 0, 0, .null)) rfl (fun _ => rfl) l0 ?_
    refine r_gr (c := 9) H (pc := 28) rfl (by decide) (by decide) ?_
    obtain ⟨q31, h31, h⟩ := xbind h
    refine r_call (ix := 14) (as := [.ref 9]) (rest := []) (rv := none) (hp' := xW B q31.2) (pc := 31) rfl xr16 rfl rfl rfl (xkd H (by decide)) (Nat.le_of_ble_eq_true rfl) (Z16_14_9 H h31 (by omega)) (Nat.le_refl _) ?_
    refine q_lr (k := 1) (i := 0) (q := (.aload_n 0, 1, 0, 0, .null)) rfl (fun _ => rfl) l0 ?_
    refine r_gr (c := 67) H (pc := 35) rfl (by decide) (by decide) ?_
    refine q_lr (k := 1) (i := 0) (q := (.aload_n 0, 1, 0, 0, .null)) rfl (fun _ => rfl) l0 ?_
    refine r_gr (c := 9) H (pc := 39) rfl (by decide) (by decide) ?_
    obtain ⟨q42, h42, h⟩ := xbind h
    refine r_call (ix := 67) (as := [.ref 9]) (rest := []) (rv := none) (hp' := xW B q42.2) (pc := 42) rfl xr65 rfl rfl rfl (xkd H (by decide)) (Nat.le_of_ble_eq_true rfl) (Z65_67_9 H h42 (by omega)) (Nat.le_refl _) ?_
    refine q_lr (k := 1) (i := 0) (q := (.aload_n 0, 1, 0, 0, .null)) rfl (fun _ => rfl) l0 ?_
    refine r_gr (c := 67) H (pc := 46) rfl (by decide) (by decide) ?_
    refine r_gi (v := (q42.2.1 67 1)) H (pc := 49) (i := _) rfl (by decide) (by decide) rfl ?_
    obtain rfl := Option.some.inj h
    exact q_ri (q := (.ireturn, 1, 0, 0, .null)) rfl (fun _ => rfl) rfl rfl
  · rw [if_neg (by rw [c]; decide)] at h
    refine r_s (fr' := (22, lv, [.int (-1)])) (hp' := xW B q8.2) (q := (.iconst (-1), 1, 0, 0, .null)) rfl (fun _ => rfl) (Nat.le_refl _) ?_
    obtain rfl := Option.some.inj h
    exact q_ri (q := (.ireturn, 1, 0, 0, .null)) rfl (fun _ => rfl) rfl rfl
set_option maxRecDepth 20000 in
theorem Z135_0 {B : zHp} (H : yH0 B) {F : Nat} {m : xS} {x : Int32 × xS} (h : D135_0 F m = some x) {d : Nat} (hd : 11 ≤ d) : zCan d 135 [.ref 0] (xW B m) (some (.int x.1), xW B x.2) := by
  obtain ⟨e, rfl⟩ : ∃ e, d = e + 1 := ⟨d - 1, by omega⟩
  refine zCan_body (nL := 1) (rt := (some .int)) (cd := zc135) (xg135) ⟨Nat.le_of_ble_eq_true rfl, by decide⟩ (Nat.le_refl _) ?_
  exact T135_0 H hd F rfl h
/-- LentTools.gift -/
def D136_0_22 (F : Nat) (v1 : Int32) (v2 : Int32) (m : xS) : Option (Int32 × xS) :=
  some ((-1), m)
set_option maxRecDepth 20000 in
theorem T136_0_22 {B : zHp} (H : yH0 B) {e : Nat} (he : 3 ≤ e + 1) (F : Nat) {v1 : Int32} {v2 : Int32} {lv : List (Nat × Value)} {m : xS} {x : Int32 × xS} (l0 : zld lv 0 = some (.ref 0)) (l1 : zld lv 1 = some (.int v1)) (l2 : zld lv 2 = some (.int v2)) (h : D136_0_22 F v1 v2 m = some x) : zR none e 4 (some .int) zc136 (22, lv, []) (xW B m) (some (.int x.1), xW B x.2) := by
  unfold D136_0_22 at h
  refine r_s (fr' := (23, lv, [.int (-1)])) (hp' := xW B m) (q := (.iconst (-1), 1, 0, 0, .null)) rfl (fun _ => rfl) (Nat.le_refl _) ?_
  obtain rfl := Option.some.inj h
  exact q_ri (q := (.ireturn, 1, 0, 0, .null)) rfl (fun _ => rfl) rfl rfl
def D136_0 (F : Nat) (v1 : Int32) (v2 : Int32) (m : xS) : Option (Int32 × xS) :=
  (D83_9 F v1 m).bind fun q5 =>
    if zcmp .eq q5.1 0 = true then
      D136_0_22 F v1 v2 q5.2
    else
      (D85_9 F v2 q5.2).bind fun q16 =>
        if zcmp .ne q16.1 0 = true then
          (D87_9 F v1 0 q16.2).bind fun q30 =>
            if zcmp .ne q30.1 v2 = true then
              (D16_14_9 F q30.2).bind fun q49 =>
                (D104_9 F v1 v2 q49.2).bind fun q58 =>
                  some (q30.1, q58.2)
            else
              some ((-1), q30.2)
        else
          D136_0_22 F v1 v2 q16.2
set_option maxRecDepth 20000 in
theorem T136_0 {B : zHp} (H : yH0 B) {e : Nat} (he : 3 ≤ e + 1) (F : Nat) {v1 : Int32} {v2 : Int32} {lv : List (Nat × Value)} {m : xS} {x : Int32 × xS} (l0 : zld lv 0 = some (.ref 0)) (l1 : zld lv 1 = some (.int v1)) (l2 : zld lv 2 = some (.int v2)) (h : D136_0 F v1 v2 m = some x) : zR none e 4 (some .int) zc136 (0, lv, []) (xW B m) (some (.int x.1), xW B x.2) := by
  unfold D136_0 at h
  refine q_lr (k := 1) (i := 0) (q := (.aload_n 0, 1, 0, 0, .null)) rfl (fun _ => rfl) l0 ?_
  refine r_gr (c := 9) H (pc := 1) rfl (by decide) (by decide) ?_
  refine q_li (k := 1) (i := 1) (q := (.iload_n 1, 1, 0, 0, .null)) rfl (fun _ => rfl) l1 ?_
  obtain ⟨q5, h5, h⟩ := xbind h
  refine r_call (ix := 9) (as := [.int v1]) (rest := []) (rv := some (.int q5.1)) (hp' := xW B q5.2) (pc := 5) rfl xr83 rfl rfl rfl (xkd H (by decide)) (Nat.le_of_ble_eq_true rfl) (Z83_9 H h5 (by omega)) (Nat.le_refl _) ?_
  refine r_if (len := 3) (a := 22) (b := 0) (v0 := .null) (cn := .eq) (off := 14) rfl (fun c => ?_) (fun c => ?_)
  · rw [if_pos c] at h
    exact T136_0_22 H he F l0 l1 l2 h
  · rw [if_neg (by rw [c]; decide)] at h
    refine q_lr (k := 1) (i := 0) (q := (.aload_n 0, 1, 0, 0, .null)) rfl (fun _ => rfl) l0 ?_
    refine r_gr (c := 9) H (pc := 12) rfl (by decide) (by decide) ?_
    refine q_li (k := 1) (i := 2) (q := (.iload_n 2, 1, 0, 0, .null)) rfl (fun _ => rfl) l2 ?_
    obtain ⟨q16, h16, h⟩ := xbind h
    refine r_call (ix := 9) (as := [.int v2]) (rest := []) (rv := some (.int q16.1)) (hp' := xW B q16.2) (pc := 16) rfl xr85 rfl rfl rfl (xkd H (by decide)) (Nat.le_of_ble_eq_true rfl) (Z85_9 H h16 (by omega)) (Nat.le_refl _) ?_
    refine r_if (len := 3) (a := 24) (b := 0) (v0 := .null) (cn := .ne) (off := 5) rfl (fun c => ?_) (fun c => ?_)
    · rw [if_pos c] at h
      refine q_lr (k := 1) (i := 0) (q := (.aload_n 0, 1, 0, 0, .null)) rfl (fun _ => rfl) l0 ?_
      refine r_gr (c := 9) H (pc := 25) rfl (by decide) (by decide) ?_
      refine q_li (k := 1) (i := 1) (q := (.iload_n 1, 1, 0, 0, .null)) rfl (fun _ => rfl) l1 ?_
      refine r_s (fr' := (30, lv, [.int 0, .int v1, .ref 9])) (hp' := xW B q16.2) (q := (.iconst 0, 1, 0, 0, .null)) rfl (fun _ => rfl) (Nat.le_refl _) ?_
      obtain ⟨q30, h30, h⟩ := xbind h
      refine r_call (ix := 9) (as := [.int v1, .int 0]) (rest := []) (rv := some (.int q30.1)) (hp' := xW B q30.2) (pc := 30) rfl xr87 rfl rfl rfl (xkd H (by decide)) (Nat.le_of_ble_eq_true rfl) (Z87_9 H h30 (by omega)) (Nat.le_refl _) ?_
      refine q_si (k := 1) (i := 3) (q := (.istore_n 3, 1, 0, 0, .null)) rfl (fun _ => rfl) (by decide) ?_
      have l0_1 : zld (zs1 lv 3 (.int q30.1)) 0 = some (.ref 0) := x_o1 l0 rfl rfl
      have l1_1 : zld (zs1 lv 3 (.int q30.1)) 1 = some (.int v1) := x_o1 l1 rfl rfl
      have l2_1 : zld (zs1 lv 3 (.int q30.1)) 2 = some (.int v2) := x_o1 l2 rfl rfl
      have l3_1 : zld (zs1 lv 3 (.int q30.1)) 3 = some (.int q30.1) := zs1_ld _ _ _
      generalize (zs1 lv 3 (.int q30.1)) = lv1 at *
      refine q_li (k := 1) (i := 3) (q := (.iload_n 3, 1, 0, 0, .null)) rfl (fun _ => rfl) l3_1 ?_
      refine q_li (k := 1) (i := 2) (q := (.iload_n 2, 1, 0, 0, .null)) rfl (fun _ => rfl) l2_1 ?_
      refine r_ifc (len := 3) (a := 41) (b := 0) (v0 := .null) (cn := .ne) (off := 5) rfl (fun c => ?_) (fun c => ?_)
      · rw [if_pos c] at h
        refine q_lr (k := 1) (i := 0) (q := (.aload_n 0, 1, 0, 0, .null)) rfl (fun _ => rfl) l0_1 ?_
        refine r_gr (c := 14) H (pc := 42) rfl (by decide) (by decide) ?_
        refine q_lr (k := 1) (i := 0) (q := (.aload_n 0, 1, 0, 0, .null)) rfl (fun _ => rfl) l0_1 ?_
        refine r_gr (c := 9) H (pc := 46) rfl (by decide) (by decide) ?_
        obtain ⟨q49, h49, h⟩ := xbind h
        refine r_call (ix := 14) (as := [.ref 9]) (rest := []) (rv := none) (hp' := xW B q49.2) (pc := 49) rfl xr16 rfl rfl rfl (xkd H (by decide)) (Nat.le_of_ble_eq_true rfl) (Z16_14_9 H h49 (by omega)) (Nat.le_refl _) ?_
        refine q_lr (k := 1) (i := 0) (q := (.aload_n 0, 1, 0, 0, .null)) rfl (fun _ => rfl) l0_1 ?_
        refine r_gr (c := 9) H (pc := 53) rfl (by decide) (by decide) ?_
        refine q_li (k := 1) (i := 1) (q := (.iload_n 1, 1, 0, 0, .null)) rfl (fun _ => rfl) l1_1 ?_
        refine q_li (k := 1) (i := 2) (q := (.iload_n 2, 1, 0, 0, .null)) rfl (fun _ => rfl) l2_1 ?_
        obtain ⟨q58, h58, h⟩ := xbind h
        refine r_call (ix := 9) (as := [.int v1, .int v2]) (rest := []) (rv := none) (hp' := xW B q58.2) (pc := 58) rfl xr104 rfl rfl rfl (xkd H (by decide)) (Nat.le_of_ble_eq_true rfl) (Z104_9 H h58 (by omega)) (Nat.le_refl _) ?_
        refine q_li (k := 1) (i := 3) (q := (.iload_n 3, 1, 0, 0, .null)) rfl (fun _ => rfl) l3_1 ?_
        obtain rfl := Option.some.inj h
        exact q_ri (q := (.ireturn, 1, 0, 0, .null)) rfl (fun _ => rfl) rfl rfl
      · rw [if_neg (by rw [c]; decide)] at h
        refine r_s (fr' := (40, lv1, [.int (-1)])) (hp' := xW B q30.2) (q := (.iconst (-1), 1, 0, 0, .null)) rfl (fun _ => rfl) (Nat.le_refl _) ?_
        obtain rfl := Option.some.inj h
        exact q_ri (q := (.ireturn, 1, 0, 0, .null)) rfl (fun _ => rfl) rfl rfl
    · rw [if_neg (by rw [c]; decide)] at h
      exact T136_0_22 H he F l0 l1 l2 h
set_option maxRecDepth 20000 in
theorem Z136_0 {B : zHp} (H : yH0 B) {F : Nat} {a1 : Int32} {a2 : Int32} {m : xS} {x : Int32 × xS} (h : D136_0 F a1 a2 m = some x) {d : Nat} (hd : 3 ≤ d) : zCan d 136 [.ref 0, .int a1, .int a2] (xW B m) (some (.int x.1), xW B x.2) := by
  obtain ⟨e, rfl⟩ : ∃ e, d = e + 1 := ⟨d - 1, by omega⟩
  refine zCan_body (nL := 4) (rt := (some .int)) (cd := zc136) (xg136) ⟨Nat.le_of_ble_eq_true rfl, by decide⟩ (Nat.le_refl _) ?_
  exact T136_0 H hd F rfl rfl rfl h
/-- LentTools$Village.isTold -/
def D76_9 (F : Nat) (m : xS) : Option (Int32 × xS) :=
  (D77_9 F m).bind fun q1 =>
    if zcmp .le q1.1 0 = true then
      some (0, q1.2)
    else
      some (1, q1.2)
set_option maxRecDepth 20000 in
theorem T76_9 {B : zHp} (H : yH0 B) {e : Nat} (he : 2 ≤ e + 1) (F : Nat) {lv : List (Nat × Value)} {m : xS} {x : Int32 × xS} (l0 : zld lv 0 = some (.ref 9)) (h : D76_9 F m = some x) : zR none e 1 (some .boolean) zc76 (0, lv, []) (xW B m) (some (.int x.1), xW B x.2) := by
  unfold D76_9 at h
  refine q_lr (k := 1) (i := 0) (q := (.aload_n 0, 1, 0, 0, .null)) rfl (fun _ => rfl) l0 ?_
  obtain ⟨q1, h1, h⟩ := xbind h
  refine r_call (ix := 9) (as := []) (rest := []) (rv := some (.int q1.1)) (hp' := xW B q1.2) (pc := 1) rfl xr77 rfl rfl rfl (xkd H (by decide)) (Nat.le_of_ble_eq_true rfl) (Z77_9 H h1 (by omega)) (Nat.le_refl _) ?_
  refine r_if (len := 3) (a := 11) (b := 0) (v0 := .null) (cn := .le) (off := 7) rfl (fun c => ?_) (fun c => ?_)
  · rw [if_pos c] at h
    refine r_s (fr' := (12, lv, [.int 0])) (hp' := xW B q1.2) (q := (.iconst 0, 1, 0, 0, .null)) rfl (fun _ => rfl) (Nat.le_refl _) ?_
    obtain rfl := Option.some.inj h
    exact q_ri (q := (.ireturn, 1, 0, 0, .null)) rfl (fun _ => rfl) rfl rfl
  · rw [if_neg (by rw [c]; decide)] at h
    refine r_s (fr' := (8, lv, [.int 1])) (hp' := xW B q1.2) (q := (.iconst 1, 1, 0, 0, .null)) rfl (fun _ => rfl) (Nat.le_refl _) ?_
    refine r_s (fr' := (12, lv, [.int 1])) (hp' := xW B q1.2) (q := (.goto 4, 3, 12, 0, .null)) rfl (fun _ => rfl) (Nat.le_refl _) ?_
    obtain rfl := Option.some.inj h
    exact q_ri (q := (.ireturn, 1, 0, 0, .null)) rfl (fun _ => rfl) rfl rfl
set_option maxRecDepth 20000 in
theorem Z76_9 {B : zHp} (H : yH0 B) {F : Nat} {m : xS} {x : Int32 × xS} (h : D76_9 F m = some x) {d : Nat} (hd : 2 ≤ d) : zCan d 76 [.ref 9] (xW B m) (some (.int x.1), xW B x.2) := by
  obtain ⟨e, rfl⟩ : ∃ e, d = e + 1 := ⟨d - 1, by omega⟩
  refine zCan_body (nL := 1) (rt := (some .boolean)) (cd := zc76) (xg76) ⟨Nat.le_of_ble_eq_true rfl, by decide⟩ (Nat.le_refl _) ?_
  exact T76_9 H hd F rfl h
/-- LentTools$Village.passDay -/
def D112_9_32 (F : Nat) (g2 : Int32 → xS → Option (Unit × xS)) (v1 : Int32) (m : xS) : Option (Unit × xS) :=
  g2 (v1 + Int32.ofInt 1) m
set_option maxRecDepth 20000 in
theorem T112_9_32 {B : zHp} (H : yH0 B) {e : Nat} (he : 3 ≤ e + 1) (F : Nat) (g2 : Int32 → xS → Option (Unit × xS)) (k2 : ∀ {v1 : Int32} {lv : List (Nat × Value)} {m : xS} {x : Unit × xS}, zld lv 0 = some (.ref 9) → zld lv 1 = some (.int v1) → g2 v1 m = some x → zR none e 2 none zc112 (2, lv, []) (xW B m) (none, xW B x.2)) {v1 : Int32} {lv : List (Nat × Value)} {m : xS} {x : Unit × xS} (l0 : zld lv 0 = some (.ref 9)) (l1 : zld lv 1 = some (.int v1)) (h : D112_9_32 F g2 v1 m = some x) : zR none e 2 none zc112 (32, lv, []) (xW B m) (none, xW B x.2) := by
  unfold D112_9_32 at h
  refine q_inc (i := 1) (n := 1) (q := (.iinc 1 1, 3, 0, 0, .null)) rfl (fun _ => rfl) l1 (by decide) ?_
  have l0_1 : zld (zs1 lv 1 (.int (v1 + Int32.ofInt 1))) 0 = some (.ref 9) := x_o1 l0 rfl rfl
  have l1_1 : zld (zs1 lv 1 (.int (v1 + Int32.ofInt 1))) 1 = some (.int (v1 + Int32.ofInt 1)) := zs1_ld _ _ _
  generalize (zs1 lv 1 (.int (v1 + Int32.ofInt 1))) = lv1 at *
  refine r_s (fr' := (2, lv1, [])) (hp' := xW B m) (q := (.goto (-33), 3, 2, 0, .null)) rfl (fun _ => rfl) (Nat.le_refl _) ?_
  exact k2 l0_1 l1_1 h
def D112_9_2 (F : Nat) : Nat → Int32 → xS → Option (Unit × xS)
  | 0, _, _ => none
  | f + 1, v1, m =>
    (D79_9 F m).bind fun q4 =>
      if zcmp .ge v1 q4.1 = true then
        (D81_9 F q4.2).bind fun q47 =>
          some ((), (xu q47.2 10 4 (if (q47.1 + 1) < 999 then (q47.1 + 1) else 999)))
      else
        (D97_9 F v1 q4.2).bind fun q12 =>
          if zcmp .ne q12.1 0 = true then
            D112_9_32 F (D112_9_2 F f) v1 q12.2
          else
            (D87_9 F v1 5 q12.2).bind fun q24 =>
              (D88_9 F v1 5 (q24.1 + 1) q24.2).bind fun q29 =>
                D112_9_32 F (D112_9_2 F f) v1 q29.2
set_option maxRecDepth 20000 in
theorem T112_9_2 {B : zHp} (H : yH0 B) {e : Nat} (he : 3 ≤ e + 1) (F : Nat) : ∀ (f : Nat) {v1 : Int32} {lv : List (Nat × Value)} {m : xS} {x : Unit × xS}, zld lv 0 = some (.ref 9) → zld lv 1 = some (.int v1) → D112_9_2 F f v1 m = some x → zR none e 2 none zc112 (2, lv, []) (xW B m) (none, xW B x.2) := by
  intro f
  induction f with
  | zero => intro v1 lv m x l0 l1 h; cases h
  | succ f ih =>
    intro v1 lv m x l0 l1 h
    unfold D112_9_2 at h
    refine q_li (k := 1) (i := 1) (q := (.iload_n 1, 1, 0, 0, .null)) rfl (fun _ => rfl) l1 ?_
    refine q_lr (k := 1) (i := 0) (q := (.aload_n 0, 1, 0, 0, .null)) rfl (fun _ => rfl) l0 ?_
    obtain ⟨q4, h4, h⟩ := xbind h
    refine r_call (ix := 9) (as := []) (rest := [.int v1]) (rv := some (.int q4.1)) (hp' := xW B q4.2) (pc := 4) rfl xr79 rfl rfl rfl (xkd H (by decide)) (Nat.le_of_ble_eq_true rfl) (Z79_9 H h4 (by omega)) (Nat.le_refl _) ?_
    refine r_ifc (len := 3) (a := 38) (b := 0) (v0 := .null) (cn := .ge) (off := 31) rfl (fun c => ?_) (fun c => ?_)
    · rw [if_pos c] at h
      refine q_lr (k := 1) (i := 0) (q := (.aload_n 0, 1, 0, 0, .null)) rfl (fun _ => rfl) l0 ?_
      refine r_gr (c := 10) H (pc := 39) rfl (by decide) (by decide) ?_
      refine r_s (fr' := (43, lv, [.int 4, .ref 10])) (hp' := xW B q4.2) (q := (.iconst 4, 1, 0, 0, .null)) rfl (fun _ => rfl) (Nat.le_refl _) ?_
      refine r_s (fr' := (46, lv, [.int 999, .int 4, .ref 10])) (hp' := xW B q4.2) (q := (.sipush 999, 3, 0, 0, .null)) rfl (fun _ => rfl) (Nat.le_refl _) ?_
      refine q_lr (k := 1) (i := 0) (q := (.aload_n 0, 1, 0, 0, .null)) rfl (fun _ => rfl) l0 ?_
      obtain ⟨q47, h47, h⟩ := xbind h
      refine r_call (ix := 9) (as := []) (rest := [.int 999, .int 4, .ref 10]) (rv := some (.int q47.1)) (hp' := xW B q47.2) (pc := 47) rfl xr81 rfl rfl rfl (xkd H (by decide)) (Nat.le_of_ble_eq_true rfl) (Z81_9 H h47 (by omega)) (Nat.le_refl _) ?_
      refine r_s (fr' := (51, lv, [.int 1, .int q47.1, .int 999, .int 4, .ref 10])) (hp' := xW B q47.2) (q := (.iconst 1, 1, 0, 0, .null)) rfl (fun _ => rfl) (Nat.le_refl _) ?_
      refine r_s (fr' := (52, lv, [.int (q47.1 + 1), .int 999, .int 4, .ref 10])) (hp' := xW B q47.2) (q := (.iadd, 1, 0, 0, .null)) rfl (fun _ => rfl) (Nat.le_refl _) ?_
      refine r_s (fr' := (55, lv, [.int (if (q47.1 + 1) < 999 then (q47.1 + 1) else 999), .int 4, .ref 10])) (hp' := xW B q47.2) (q := (.invokestatic 80, 3, 0, 3, .null)) rfl (fun _ => rfl) (Nat.le_refl _) ?_
      refine q_as (n := 114) (s2 := (xu q47.2 10 4 (if (q47.1 + 1) < 999 then (q47.1 + 1) else 999))) H (pc := 55) rfl (by decide) (by decide) rfl ?_
      obtain rfl := Option.some.inj h
      exact r_ret (q := (.return_, 1, 0, 0, .null)) rfl rfl (fun _ => rfl)
    · rw [if_neg (by rw [c]; decide)] at h
      refine q_lr (k := 1) (i := 0) (q := (.aload_n 0, 1, 0, 0, .null)) rfl (fun _ => rfl) l0 ?_
      refine q_li (k := 1) (i := 1) (q := (.iload_n 1, 1, 0, 0, .null)) rfl (fun _ => rfl) l1 ?_
      obtain ⟨q12, h12, h⟩ := xbind h
      refine r_call (ix := 9) (as := [.int v1]) (rest := []) (rv := some (.int q12.1)) (hp' := xW B q12.2) (pc := 12) rfl xr97 rfl rfl rfl (xkd H (by decide)) (Nat.le_of_ble_eq_true rfl) (Z97_9 H h12 (by omega)) (Nat.le_refl _) ?_
      refine r_if (len := 3) (a := 32) (b := 0) (v0 := .null) (cn := .ne) (off := 17) rfl (fun c => ?_) (fun c => ?_)
      · rw [if_pos c] at h
        exact T112_9_32 H he F _ ih l0 l1 h
      · rw [if_neg (by rw [c]; decide)] at h
        refine q_lr (k := 1) (i := 0) (q := (.aload_n 0, 1, 0, 0, .null)) rfl (fun _ => rfl) l0 ?_
        refine q_li (k := 1) (i := 1) (q := (.iload_n 1, 1, 0, 0, .null)) rfl (fun _ => rfl) l1 ?_
        refine r_s (fr' := (21, lv, [.int 5, .int v1, .ref 9])) (hp' := xW B q12.2) (q := (.iconst 5, 1, 0, 0, .null)) rfl (fun _ => rfl) (Nat.le_refl _) ?_
        refine q_lr (k := 1) (i := 0) (q := (.aload_n 0, 1, 0, 0, .null)) rfl (fun _ => rfl) l0 ?_
        refine q_li (k := 1) (i := 1) (q := (.iload_n 1, 1, 0, 0, .null)) rfl (fun _ => rfl) l1 ?_
        refine r_s (fr' := (24, lv, [.int 5, .int v1, .ref 9, .int 5, .int v1, .ref 9])) (hp' := xW B q12.2) (q := (.iconst 5, 1, 0, 0, .null)) rfl (fun _ => rfl) (Nat.le_refl _) ?_
        obtain ⟨q24, h24, h⟩ := xbind h
        refine r_call (ix := 9) (as := [.int v1, .int 5]) (rest := [.int 5, .int v1, .ref 9]) (rv := some (.int q24.1)) (hp' := xW B q24.2) (pc := 24) rfl xr87 rfl rfl rfl (xkd H (by decide)) (Nat.le_of_ble_eq_true rfl) (Z87_9 H h24 (by omega)) (Nat.le_refl _) ?_
        refine r_s (fr' := (28, lv, [.int 1, .int q24.1, .int 5, .int v1, .ref 9])) (hp' := xW B q24.2) (q := (.iconst 1, 1, 0, 0, .null)) rfl (fun _ => rfl) (Nat.le_refl _) ?_
        refine r_s (fr' := (29, lv, [.int (q24.1 + 1), .int 5, .int v1, .ref 9])) (hp' := xW B q24.2) (q := (.iadd, 1, 0, 0, .null)) rfl (fun _ => rfl) (Nat.le_refl _) ?_
        obtain ⟨q29, h29, h⟩ := xbind h
        refine r_call (ix := 9) (as := [.int v1, .int 5, .int (q24.1 + 1)]) (rest := []) (rv := none) (hp' := xW B q29.2) (pc := 29) rfl xr88 rfl rfl rfl (xkd H (by decide)) (Nat.le_of_ble_eq_true rfl) (Z88_9 H h29 (by omega)) (Nat.le_refl _) ?_
        exact T112_9_32 H he F _ ih l0 l1 h
def D112_9 (F : Nat) (m : xS) : Option (Unit × xS) :=
  D112_9_2 F F 0 m
set_option maxRecDepth 20000 in
theorem T112_9 {B : zHp} (H : yH0 B) {e : Nat} (he : 3 ≤ e + 1) (F : Nat) {lv : List (Nat × Value)} {m : xS} {x : Unit × xS} (l0 : zld lv 0 = some (.ref 9)) (h : D112_9 F m = some x) : zR none e 2 none zc112 (0, lv, []) (xW B m) (none, xW B x.2) := by
  unfold D112_9 at h
  refine r_s (fr' := (1, lv, [.int 0])) (hp' := xW B m) (q := (.iconst 0, 1, 0, 0, .null)) rfl (fun _ => rfl) (Nat.le_refl _) ?_
  refine q_si (k := 1) (i := 1) (q := (.istore_n 1, 1, 0, 0, .null)) rfl (fun _ => rfl) (by decide) ?_
  have l0_1 : zld (zs1 lv 1 (.int 0)) 0 = some (.ref 9) := x_o1 l0 rfl rfl
  have l1_1 : zld (zs1 lv 1 (.int 0)) 1 = some (.int 0) := zs1_ld _ _ _
  generalize (zs1 lv 1 (.int 0)) = lv1 at *
  exact T112_9_2 H he F F l0_1 l1_1 h
set_option maxRecDepth 20000 in
theorem Z112_9 {B : zHp} (H : yH0 B) {F : Nat} {m : xS} {x : Unit × xS} (h : D112_9 F m = some x) {d : Nat} (hd : 3 ≤ d) : zCan d 112 [.ref 9] (xW B m) (none, xW B x.2) := by
  obtain ⟨e, rfl⟩ : ∃ e, d = e + 1 := ⟨d - 1, by omega⟩
  refine zCan_body (nL := 2) (rt := none) (cd := zc112) (xg112) ⟨Nat.le_of_ble_eq_true rfl, by decide⟩ (Nat.le_refl _) ?_
  exact T112_9 H hd F rfl h
/-- LentTools$Village.lateTools -/
def D113_9_23 (F : Nat) (g4 : Int32 → Int32 → xS → Option (Int32 × xS)) (v1 : Int32) (v2 : Int32) (m : xS) : Option (Int32 × xS) :=
  g4 v1 (v2 + Int32.ofInt 1) m
set_option maxRecDepth 20000 in
theorem T113_9_23 {B : zHp} (H : yH0 B) {e : Nat} (he : 3 ≤ e + 1) (F : Nat) (g4 : Int32 → Int32 → xS → Option (Int32 × xS)) (k4 : ∀ {v1 : Int32} {v2 : Int32} {lv : List (Nat × Value)} {m : xS} {x : Int32 × xS}, zld lv 0 = some (.ref 9) → zld lv 1 = some (.int v1) → zld lv 2 = some (.int v2) → g4 v1 v2 m = some x → zR none e 3 (some .int) zc113 (4, lv, []) (xW B m) (some (.int x.1), xW B x.2)) {v1 : Int32} {v2 : Int32} {lv : List (Nat × Value)} {m : xS} {x : Int32 × xS} (l0 : zld lv 0 = some (.ref 9)) (l1 : zld lv 1 = some (.int v1)) (l2 : zld lv 2 = some (.int v2)) (h : D113_9_23 F g4 v1 v2 m = some x) : zR none e 3 (some .int) zc113 (23, lv, []) (xW B m) (some (.int x.1), xW B x.2) := by
  unfold D113_9_23 at h
  refine q_inc (i := 2) (n := 1) (q := (.iinc 2 1, 3, 0, 0, .null)) rfl (fun _ => rfl) l2 (by decide) ?_
  have l0_1 : zld (zs1 lv 2 (.int (v2 + Int32.ofInt 1))) 0 = some (.ref 9) := x_o1 l0 rfl rfl
  have l1_1 : zld (zs1 lv 2 (.int (v2 + Int32.ofInt 1))) 1 = some (.int v1) := x_o1 l1 rfl rfl
  have l2_1 : zld (zs1 lv 2 (.int (v2 + Int32.ofInt 1))) 2 = some (.int (v2 + Int32.ofInt 1)) := zs1_ld _ _ _
  generalize (zs1 lv 2 (.int (v2 + Int32.ofInt 1))) = lv1 at *
  refine r_s (fr' := (4, lv1, [])) (hp' := xW B m) (q := (.goto (-22), 3, 4, 0, .null)) rfl (fun _ => rfl) (Nat.le_refl _) ?_
  exact k4 l0_1 l1_1 l2_1 h
def D113_9_4 (F : Nat) : Nat → Int32 → Int32 → xS → Option (Int32 × xS)
  | 0, _, _, _ => none
  | f + 1, v1, v2, m =>
    (D79_9 F m).bind fun q6 =>
      if zcmp .ge v2 q6.1 = true then
        some (v1, q6.2)
      else
        (D98_9 F v2 q6.2).bind fun q14 =>
          if zcmp .le q14.1 0 = true then
            D113_9_23 F (D113_9_4 F f) v1 v2 q14.2
          else
            D113_9_23 F (D113_9_4 F f) (v1 + Int32.ofInt 1) v2 q14.2
set_option maxRecDepth 20000 in
theorem T113_9_4 {B : zHp} (H : yH0 B) {e : Nat} (he : 3 ≤ e + 1) (F : Nat) : ∀ (f : Nat) {v1 : Int32} {v2 : Int32} {lv : List (Nat × Value)} {m : xS} {x : Int32 × xS}, zld lv 0 = some (.ref 9) → zld lv 1 = some (.int v1) → zld lv 2 = some (.int v2) → D113_9_4 F f v1 v2 m = some x → zR none e 3 (some .int) zc113 (4, lv, []) (xW B m) (some (.int x.1), xW B x.2) := by
  intro f
  induction f with
  | zero => intro v1 v2 lv m x l0 l1 l2 h; cases h
  | succ f ih =>
    intro v1 v2 lv m x l0 l1 l2 h
    unfold D113_9_4 at h
    refine q_li (k := 1) (i := 2) (q := (.iload_n 2, 1, 0, 0, .null)) rfl (fun _ => rfl) l2 ?_
    refine q_lr (k := 1) (i := 0) (q := (.aload_n 0, 1, 0, 0, .null)) rfl (fun _ => rfl) l0 ?_
    obtain ⟨q6, h6, h⟩ := xbind h
    refine r_call (ix := 9) (as := []) (rest := [.int v2]) (rv := some (.int q6.1)) (hp' := xW B q6.2) (pc := 6) rfl xr79 rfl rfl rfl (xkd H (by decide)) (Nat.le_of_ble_eq_true rfl) (Z79_9 H h6 (by omega)) (Nat.le_refl _) ?_
    refine r_ifc (len := 3) (a := 29) (b := 0) (v0 := .null) (cn := .ge) (off := 20) rfl (fun c => ?_) (fun c => ?_)
    · rw [if_pos c] at h
      refine q_li (k := 1) (i := 1) (q := (.iload_n 1, 1, 0, 0, .null)) rfl (fun _ => rfl) l1 ?_
      obtain rfl := Option.some.inj h
      exact q_ri (q := (.ireturn, 1, 0, 0, .null)) rfl (fun _ => rfl) rfl rfl
    · rw [if_neg (by rw [c]; decide)] at h
      refine q_lr (k := 1) (i := 0) (q := (.aload_n 0, 1, 0, 0, .null)) rfl (fun _ => rfl) l0 ?_
      refine q_li (k := 1) (i := 2) (q := (.iload_n 2, 1, 0, 0, .null)) rfl (fun _ => rfl) l2 ?_
      obtain ⟨q14, h14, h⟩ := xbind h
      refine r_call (ix := 9) (as := [.int v2]) (rest := []) (rv := some (.int q14.1)) (hp' := xW B q14.2) (pc := 14) rfl xr98 rfl rfl rfl (xkd H (by decide)) (Nat.le_of_ble_eq_true rfl) (Z98_9 H h14 (by omega)) (Nat.le_refl _) ?_
      refine r_if (len := 3) (a := 23) (b := 0) (v0 := .null) (cn := .le) (off := 6) rfl (fun c => ?_) (fun c => ?_)
      · rw [if_pos c] at h
        exact T113_9_23 H he F _ ih l0 l1 l2 h
      · rw [if_neg (by rw [c]; decide)] at h
        refine q_inc (i := 1) (n := 1) (q := (.iinc 1 1, 3, 0, 0, .null)) rfl (fun _ => rfl) l1 (by decide) ?_
        have l0_1 : zld (zs1 lv 1 (.int (v1 + Int32.ofInt 1))) 0 = some (.ref 9) := x_o1 l0 rfl rfl
        have l1_1 : zld (zs1 lv 1 (.int (v1 + Int32.ofInt 1))) 1 = some (.int (v1 + Int32.ofInt 1)) := zs1_ld _ _ _
        have l2_1 : zld (zs1 lv 1 (.int (v1 + Int32.ofInt 1))) 2 = some (.int v2) := x_o1 l2 rfl rfl
        generalize (zs1 lv 1 (.int (v1 + Int32.ofInt 1))) = lv1 at *
        exact T113_9_23 H he F _ ih l0_1 l1_1 l2_1 h
def D113_9 (F : Nat) (m : xS) : Option (Int32 × xS) :=
  D113_9_4 F F 0 0 m
set_option maxRecDepth 20000 in
theorem T113_9 {B : zHp} (H : yH0 B) {e : Nat} (he : 3 ≤ e + 1) (F : Nat) {lv : List (Nat × Value)} {m : xS} {x : Int32 × xS} (l0 : zld lv 0 = some (.ref 9)) (h : D113_9 F m = some x) : zR none e 3 (some .int) zc113 (0, lv, []) (xW B m) (some (.int x.1), xW B x.2) := by
  unfold D113_9 at h
  refine r_s (fr' := (1, lv, [.int 0])) (hp' := xW B m) (q := (.iconst 0, 1, 0, 0, .null)) rfl (fun _ => rfl) (Nat.le_refl _) ?_
  refine q_si (k := 1) (i := 1) (q := (.istore_n 1, 1, 0, 0, .null)) rfl (fun _ => rfl) (by decide) ?_
  have l0_1 : zld (zs1 lv 1 (.int 0)) 0 = some (.ref 9) := x_o1 l0 rfl rfl
  have l1_1 : zld (zs1 lv 1 (.int 0)) 1 = some (.int 0) := zs1_ld _ _ _
  generalize (zs1 lv 1 (.int 0)) = lv1 at *
  refine r_s (fr' := (3, lv1, [.int 0])) (hp' := xW B m) (q := (.iconst 0, 1, 0, 0, .null)) rfl (fun _ => rfl) (Nat.le_refl _) ?_
  refine q_si (k := 1) (i := 2) (q := (.istore_n 2, 1, 0, 0, .null)) rfl (fun _ => rfl) (by decide) ?_
  have l0_2 : zld (zs1 lv1 2 (.int 0)) 0 = some (.ref 9) := x_o1 l0_1 rfl rfl
  have l1_2 : zld (zs1 lv1 2 (.int 0)) 1 = some (.int 0) := x_o1 l1_1 rfl rfl
  have l2_2 : zld (zs1 lv1 2 (.int 0)) 2 = some (.int 0) := zs1_ld _ _ _
  generalize (zs1 lv1 2 (.int 0)) = lv2 at *
  exact T113_9_4 H he F F l0_2 l1_2 l2_2 h
set_option maxRecDepth 20000 in
theorem Z113_9 {B : zHp} (H : yH0 B) {F : Nat} {m : xS} {x : Int32 × xS} (h : D113_9 F m = some x) {d : Nat} (hd : 3 ≤ d) : zCan d 113 [.ref 9] (xW B m) (some (.int x.1), xW B x.2) := by
  obtain ⟨e, rfl⟩ : ∃ e, d = e + 1 := ⟨d - 1, by omega⟩
  refine zCan_body (nL := 3) (rt := (some .int)) (cd := zc113) (xg113) ⟨Nat.le_of_ble_eq_true rfl, by decide⟩ (Nat.le_refl _) ?_
  exact T113_9 H hd F rfl h
/-- LentTools.day -/
def D137_0_23 (F : Nat) (m : xS) : Option (Int32 × xS) :=
  some ((-1), m)
set_option maxRecDepth 20000 in
theorem T137_0_23 {B : zHp} (H : yH0 B) {e : Nat} (he : 4 ≤ e + 1) (F : Nat) {lv : List (Nat × Value)} {m : xS} {x : Int32 × xS} (l0 : zld lv 0 = some (.ref 0)) (h : D137_0_23 F m = some x) : zR none e 1 (some .int) zc137 (23, lv, []) (xW B m) (some (.int x.1), xW B x.2) := by
  unfold D137_0_23 at h
  refine r_s (fr' := (24, lv, [.int (-1)])) (hp' := xW B m) (q := (.iconst (-1), 1, 0, 0, .null)) rfl (fun _ => rfl) (Nat.le_refl _) ?_
  obtain rfl := Option.some.inj h
  exact q_ri (q := (.ireturn, 1, 0, 0, .null)) rfl (fun _ => rfl) rfl rfl
def D137_0 (F : Nat) (m : xS) : Option (Int32 × xS) :=
  (D76_9 F m).bind fun q4 =>
    if zcmp .eq q4.1 0 = true then
      D137_0_23 F q4.2
    else
      (D81_9 F q4.2).bind fun q14 =>
        if zcmp .lt q14.1 999 = true then
          (D16_14_9 F q14.2).bind fun q33 =>
            (D112_9 F q33.2).bind fun q40 =>
              (D113_9 F q40.2).bind fun q47 =>
                some (q47.1, q47.2)
        else
          D137_0_23 F q14.2
set_option maxRecDepth 20000 in
theorem T137_0 {B : zHp} (H : yH0 B) {e : Nat} (he : 4 ≤ e + 1) (F : Nat) {lv : List (Nat × Value)} {m : xS} {x : Int32 × xS} (l0 : zld lv 0 = some (.ref 0)) (h : D137_0 F m = some x) : zR none e 1 (some .int) zc137 (0, lv, []) (xW B m) (some (.int x.1), xW B x.2) := by
  unfold D137_0 at h
  refine q_lr (k := 1) (i := 0) (q := (.aload_n 0, 1, 0, 0, .null)) rfl (fun _ => rfl) l0 ?_
  refine r_gr (c := 9) H (pc := 1) rfl (by decide) (by decide) ?_
  obtain ⟨q4, h4, h⟩ := xbind h
  refine r_call (ix := 9) (as := []) (rest := []) (rv := some (.int q4.1)) (hp' := xW B q4.2) (pc := 4) rfl xr76 rfl rfl rfl (xkd H (by decide)) (Nat.le_of_ble_eq_true rfl) (Z76_9 H h4 (by omega)) (Nat.le_refl _) ?_
  refine r_if (len := 3) (a := 23) (b := 0) (v0 := .null) (cn := .eq) (off := 16) rfl (fun c => ?_) (fun c => ?_)
  · rw [if_pos c] at h
    exact T137_0_23 H he F l0 h
  · rw [if_neg (by rw [c]; decide)] at h
    refine q_lr (k := 1) (i := 0) (q := (.aload_n 0, 1, 0, 0, .null)) rfl (fun _ => rfl) l0 ?_
    refine r_gr (c := 9) H (pc := 11) rfl (by decide) (by decide) ?_
    obtain ⟨q14, h14, h⟩ := xbind h
    refine r_call (ix := 9) (as := []) (rest := []) (rv := some (.int q14.1)) (hp' := xW B q14.2) (pc := 14) rfl xr81 rfl rfl rfl (xkd H (by decide)) (Nat.le_of_ble_eq_true rfl) (Z81_9 H h14 (by omega)) (Nat.le_refl _) ?_
    refine r_s (fr' := (20, lv, [.int 999, .int q14.1])) (hp' := xW B q14.2) (q := (.sipush 999, 3, 0, 0, .null)) rfl (fun _ => rfl) (Nat.le_refl _) ?_
    refine r_ifc (len := 3) (a := 25) (b := 0) (v0 := .null) (cn := .lt) (off := 5) rfl (fun c => ?_) (fun c => ?_)
    · rw [if_pos c] at h
      refine q_lr (k := 1) (i := 0) (q := (.aload_n 0, 1, 0, 0, .null)) rfl (fun _ => rfl) l0 ?_
      refine r_gr (c := 14) H (pc := 26) rfl (by decide) (by decide) ?_
      refine q_lr (k := 1) (i := 0) (q := (.aload_n 0, 1, 0, 0, .null)) rfl (fun _ => rfl) l0 ?_
      refine r_gr (c := 9) H (pc := 30) rfl (by decide) (by decide) ?_
      obtain ⟨q33, h33, h⟩ := xbind h
      refine r_call (ix := 14) (as := [.ref 9]) (rest := []) (rv := none) (hp' := xW B q33.2) (pc := 33) rfl xr16 rfl rfl rfl (xkd H (by decide)) (Nat.le_of_ble_eq_true rfl) (Z16_14_9 H h33 (by omega)) (Nat.le_refl _) ?_
      refine q_lr (k := 1) (i := 0) (q := (.aload_n 0, 1, 0, 0, .null)) rfl (fun _ => rfl) l0 ?_
      refine r_gr (c := 9) H (pc := 37) rfl (by decide) (by decide) ?_
      obtain ⟨q40, h40, h⟩ := xbind h
      refine r_call (ix := 9) (as := []) (rest := []) (rv := none) (hp' := xW B q40.2) (pc := 40) rfl xr112 rfl rfl rfl (xkd H (by decide)) (Nat.le_of_ble_eq_true rfl) (Z112_9 H h40 (by omega)) (Nat.le_refl _) ?_
      refine q_lr (k := 1) (i := 0) (q := (.aload_n 0, 1, 0, 0, .null)) rfl (fun _ => rfl) l0 ?_
      refine r_gr (c := 9) H (pc := 44) rfl (by decide) (by decide) ?_
      obtain ⟨q47, h47, h⟩ := xbind h
      refine r_call (ix := 9) (as := []) (rest := []) (rv := some (.int q47.1)) (hp' := xW B q47.2) (pc := 47) rfl xr113 rfl rfl rfl (xkd H (by decide)) (Nat.le_of_ble_eq_true rfl) (Z113_9 H h47 (by omega)) (Nat.le_refl _) ?_
      obtain rfl := Option.some.inj h
      exact q_ri (q := (.ireturn, 1, 0, 0, .null)) rfl (fun _ => rfl) rfl rfl
    · rw [if_neg (by rw [c]; decide)] at h
      exact T137_0_23 H he F l0 h
set_option maxRecDepth 20000 in
theorem Z137_0 {B : zHp} (H : yH0 B) {F : Nat} {m : xS} {x : Int32 × xS} (h : D137_0 F m = some x) {d : Nat} (hd : 4 ≤ d) : zCan d 137 [.ref 0] (xW B m) (some (.int x.1), xW B x.2) := by
  obtain ⟨e, rfl⟩ : ∃ e, d = e + 1 := ⟨d - 1, by omega⟩
  refine zCan_body (nL := 1) (rt := (some .int)) (cd := zc137) (xg137) ⟨Nat.le_of_ble_eq_true rfl, by decide⟩ (Nat.le_refl _) ?_
  exact T137_0 H hd F rfl h
/-- LentTools$History.size -/
def D14_14 (F : Nat) (m : xS) : Option (Int32 × xS) :=
  some ((m.1 14 2), m)
set_option maxRecDepth 20000 in
theorem T14_14 {B : zHp} (H : yH0 B) {e : Nat} (he : 1 ≤ e + 1) (F : Nat) {lv : List (Nat × Value)} {m : xS} {x : Int32 × xS} (l0 : zld lv 0 = some (.ref 14)) (h : D14_14 F m = some x) : zR none e 1 (some .int) zc14 (0, lv, []) (xW B m) (some (.int x.1), xW B x.2) := by
  unfold D14_14 at h
  refine q_lr (k := 1) (i := 0) (q := (.aload_n 0, 1, 0, 0, .null)) rfl (fun _ => rfl) l0 ?_
  refine r_gi (v := (m.1 14 2)) H (pc := 1) (i := _) rfl (by decide) (by decide) rfl ?_
  obtain rfl := Option.some.inj h
  exact q_ri (q := (.ireturn, 1, 0, 0, .null)) rfl (fun _ => rfl) rfl rfl
set_option maxRecDepth 20000 in
theorem Z14_14 {B : zHp} (H : yH0 B) {F : Nat} {m : xS} {x : Int32 × xS} (h : D14_14 F m = some x) {d : Nat} (hd : 1 ≤ d) : zCan d 14 [.ref 14] (xW B m) (some (.int x.1), xW B x.2) := by
  obtain ⟨e, rfl⟩ : ∃ e, d = e + 1 := ⟨d - 1, by omega⟩
  refine zCan_body (nL := 1) (rt := (some .int)) (cd := zc14) (xg14) ⟨Nat.le_of_ble_eq_true rfl, by decide⟩ (Nat.le_refl _) ?_
  exact T14_14 H hd F rfl h
/-- LentTools$Village.readFrom -/
def D69_9_S16_20 (F : Nat) (r1 : Nat) (m : xS) : Option (Unit × xS) :=
  some ((), (xcp m 10 r1 114))
set_option maxRecDepth 20000 in
theorem T69_9_S16_20 {B : zHp} (H : yH0 B) {e : Nat} (he : 1 ≤ e + 1) (F : Nat) (r1 : Nat) (hr1 : 16 ≤ r1 ∧ r1 < 36) {lv : List (Nat × Value)} {m : xS} {x : Unit × xS} (l0 : zld lv 0 = some (.ref 9)) (l1 : zld lv 1 = some (.ref r1)) (h : D69_9_S16_20 F r1 m = some x) : zR none e 2 none zc69 (0, lv, []) (xW B m) (none, xW B x.2) := by
  unfold D69_9_S16_20 at h
  refine q_lr (k := 1) (i := 1) (q := (.aload_n 1, 1, 0, 0, .null)) rfl (fun _ => rfl) l1 ?_
  refine r_s (fr' := (2, lv, [.int 0, .ref r1])) (hp' := xW B m) (q := (.iconst 0, 1, 0, 0, .null)) rfl (fun _ => rfl) (Nat.le_refl _) ?_
  refine q_lr (k := 1) (i := 0) (q := (.aload_n 0, 1, 0, 0, .null)) rfl (fun _ => rfl) l0 ?_
  refine r_gr (c := 10) H (pc := 3) rfl (by decide) (by decide) ?_
  refine r_s (fr' := (7, lv, [.int 0, .ref 10, .int 0, .ref r1])) (hp' := xW B m) (q := (.iconst 0, 1, 0, 0, .null)) rfl (fun _ => rfl) (Nat.le_refl _) ?_
  refine r_s (fr' := (9, lv, [.int 114, .int 0, .ref 10, .int 0, .ref r1])) (hp' := xW B m) (q := (.bipush 114, 2, 0, 0, .null)) rfl (fun _ => rfl) (Nat.le_refl _) ?_
  refine q_cpy (n := 114) (n0 := 114) (n1 := 114) H (pc := 9) rfl (xtS16_20 hr1) (by decide) (by decide) (by decide) (by have := hr1; omega) (Nat.le_of_ble_eq_true rfl) ?_
  obtain rfl := Option.some.inj h
  exact r_ret (q := (.return_, 1, 0, 0, .null)) rfl rfl (fun _ => rfl)
set_option maxRecDepth 20000 in
theorem Z69_9_S16_20 {B : zHp} (H : yH0 B) {F : Nat} {r1 : Nat} (hr1 : 16 ≤ r1 ∧ r1 < 36) {m : xS} {x : Unit × xS} (h : D69_9_S16_20 F r1 m = some x) {d : Nat} (hd : 1 ≤ d) : zCan d 69 [.ref 9, .ref r1] (xW B m) (none, xW B x.2) := by
  obtain ⟨e, rfl⟩ : ∃ e, d = e + 1 := ⟨d - 1, by omega⟩
  refine zCan_body (nL := 2) (rt := none) (cd := zc69) (xg69) ⟨Nat.le_of_ble_eq_true rfl, by decide⟩ (Nat.le_refl _) ?_
  exact T69_9_S16_20 H hd F r1 hr1 rfl rfl h
/-- LentTools$History.takeBack -/
def D17_14_9 (F : Nat) (m : xS) : Option (Unit × xS) :=
  if zcmp .le (m.1 14 2) 0 = true then
    some ((), m)
  else
    if xib ((((m.1 14 1) + 20) - 1) - (((m.1 14 1) + 20) - 1) / 20 * 20) 20 = true then
      (D69_9_S16_20 F (16 + (((((m.1 14 1) + 20) - 1) - (((m.1 14 1) + 20) - 1) / 20 * 20) : Int32).toNatClampNeg) (xu (xu m 14 1 ((((m.1 14 1) + 20) - 1) - (((m.1 14 1) + 20) - 1) / 20 * 20)) 14 2 ((m.1 14 2) - 1))).bind fun q43 =>
        some ((), q43.2)
    else none
set_option maxRecDepth 20000 in
theorem T17_14_9 {B : zHp} (H : yH0 B) {e : Nat} (he : 2 ≤ e + 1) (F : Nat) {lv : List (Nat × Value)} {m : xS} {x : Unit × xS} (l0 : zld lv 0 = some (.ref 14)) (l1 : zld lv 1 = some (.ref 9)) (h : D17_14_9 F m = some x) : zR none e 2 none zc17 (0, lv, []) (xW B m) (none, xW B x.2) := by
  unfold D17_14_9 at h
  refine q_lr (k := 1) (i := 0) (q := (.aload_n 0, 1, 0, 0, .null)) rfl (fun _ => rfl) l0 ?_
  refine r_gi (v := (m.1 14 2)) H (pc := 1) (i := _) rfl (by decide) (by decide) rfl ?_
  refine r_if (len := 3) (a := 46) (b := 0) (v0 := .null) (cn := .le) (off := 42) rfl (fun c => ?_) (fun c => ?_)
  · rw [if_pos c] at h
    obtain rfl := Option.some.inj h
    exact r_ret (q := (.return_, 1, 0, 0, .null)) rfl rfl (fun _ => rfl)
  · rw [if_neg (by rw [c]; decide)] at h
    refine q_lr (k := 1) (i := 0) (q := (.aload_n 0, 1, 0, 0, .null)) rfl (fun _ => rfl) l0 ?_
    refine q_lr (k := 1) (i := 0) (q := (.aload_n 0, 1, 0, 0, .null)) rfl (fun _ => rfl) l0 ?_
    refine r_gi (v := (m.1 14 1)) H (pc := 9) (i := _) rfl (by decide) (by decide) rfl ?_
    refine r_s (fr' := (14, lv, [.int 20, .int (m.1 14 1), .ref 14])) (hp' := xW B m) (q := (.bipush 20, 2, 0, 0, .null)) rfl (fun _ => rfl) (Nat.le_refl _) ?_
    refine r_s (fr' := (15, lv, [.int ((m.1 14 1) + 20), .ref 14])) (hp' := xW B m) (q := (.iadd, 1, 0, 0, .null)) rfl (fun _ => rfl) (Nat.le_refl _) ?_
    refine r_s (fr' := (16, lv, [.int 1, .int ((m.1 14 1) + 20), .ref 14])) (hp' := xW B m) (q := (.iconst 1, 1, 0, 0, .null)) rfl (fun _ => rfl) (Nat.le_refl _) ?_
    refine r_s (fr' := (17, lv, [.int (((m.1 14 1) + 20) - 1), .ref 14])) (hp' := xW B m) (q := (.isub, 1, 0, 0, .null)) rfl (fun _ => rfl) (Nat.le_refl _) ?_
    refine r_s (fr' := (19, lv, [.int 20, .int (((m.1 14 1) + 20) - 1), .ref 14])) (hp' := xW B m) (q := (.bipush 20, 2, 0, 0, .null)) rfl (fun _ => rfl) (Nat.le_refl _) ?_
    refine q_div (f := fun x y => x - x / y * y) (q := (.irem, 1, 0, 0, .null)) rfl (fun _ => rfl) (by decide) ?_
    refine r_pi (s2 := (xu m 14 1 ((((m.1 14 1) + 20) - 1) - (((m.1 14 1) + 20) - 1) / 20 * 20))) H (pc := 20) rfl (by decide) rfl rfl ?_
    refine q_lr (k := 1) (i := 0) (q := (.aload_n 0, 1, 0, 0, .null)) rfl (fun _ => rfl) l0 ?_
    refine r_s (fr' := (25, lv, [.ref 14, .ref 14])) (hp' := xW B (xu m 14 1 ((((m.1 14 1) + 20) - 1) - (((m.1 14 1) + 20) - 1) / 20 * 20))) (q := (.dup, 1, 0, 0, .null)) rfl (fun _ => rfl) (Nat.le_refl _) ?_
    refine r_gi (v := (m.1 14 2)) H (pc := 25) (i := _) rfl (by decide) (by decide) rfl ?_
    refine r_s (fr' := (29, lv, [.int 1, .int (m.1 14 2), .ref 14])) (hp' := xW B (xu m 14 1 ((((m.1 14 1) + 20) - 1) - (((m.1 14 1) + 20) - 1) / 20 * 20))) (q := (.iconst 1, 1, 0, 0, .null)) rfl (fun _ => rfl) (Nat.le_refl _) ?_
    refine r_s (fr' := (30, lv, [.int ((m.1 14 2) - 1), .ref 14])) (hp' := xW B (xu m 14 1 ((((m.1 14 1) + 20) - 1) - (((m.1 14 1) + 20) - 1) / 20 * 20))) (q := (.isub, 1, 0, 0, .null)) rfl (fun _ => rfl) (Nat.le_refl _) ?_
    refine r_pi (s2 := (xu (xu m 14 1 ((((m.1 14 1) + 20) - 1) - (((m.1 14 1) + 20) - 1) / 20 * 20)) 14 2 ((m.1 14 2) - 1))) H (pc := 30) rfl (by decide) rfl rfl ?_
    refine q_lr (k := 1) (i := 1) (q := (.aload_n 1, 1, 0, 0, .null)) rfl (fun _ => rfl) l1 ?_
    refine q_lr (k := 1) (i := 0) (q := (.aload_n 0, 1, 0, 0, .null)) rfl (fun _ => rfl) l0 ?_
    refine r_gr (c := 15) H (pc := 35) rfl (by decide) (by decide) ?_
    refine q_lr (k := 1) (i := 0) (q := (.aload_n 0, 1, 0, 0, .null)) rfl (fun _ => rfl) l0 ?_
    refine r_gi (v := ((((m.1 14 1) + 20) - 1) - (((m.1 14 1) + 20) - 1) / 20 * 20)) H (pc := 39) (i := _) rfl (by decide) (by decide) rfl ?_
    obtain ⟨c1, h⟩ := xif h
    refine q_aal (n := 20) (b := 16) H (pc := 42) rfl ⟨rfl, by decide⟩ c1 ?_
    obtain ⟨q43, h43, h⟩ := xbind h
    refine r_call (ix := 9) (as := [.ref (16 + (((((m.1 14 1) + 20) - 1) - (((m.1 14 1) + 20) - 1) / 20 * 20) : Int32).toNatClampNeg)]) (rest := []) (rv := none) (hp' := xW B q43.2) (pc := 43) rfl xr69 rfl rfl rfl (xkd H (by decide)) (Nat.le_of_ble_eq_true rfl) (Z69_9_S16_20 H ((xibS c1)) h43 (by omega)) (Nat.le_refl _) ?_
    obtain rfl := Option.some.inj h
    exact r_ret (q := (.return_, 1, 0, 0, .null)) rfl rfl (fun _ => rfl)
set_option maxRecDepth 20000 in
theorem Z17_14_9 {B : zHp} (H : yH0 B) {F : Nat} {m : xS} {x : Unit × xS} (h : D17_14_9 F m = some x) {d : Nat} (hd : 2 ≤ d) : zCan d 17 [.ref 14, .ref 9] (xW B m) (none, xW B x.2) := by
  obtain ⟨e, rfl⟩ : ∃ e, d = e + 1 := ⟨d - 1, by omega⟩
  refine zCan_body (nL := 2) (rt := none) (cd := zc17) (xg17) ⟨Nat.le_of_ble_eq_true rfl, by decide⟩ (Nat.le_refl _) ?_
  exact T17_14_9 H hd F rfl rfl h
/-- LentTools.undo -/
def D138_0 (F : Nat) (m : xS) : Option (Int32 × xS) :=
  (D14_14 F m).bind fun q4 =>
    if zcmp .ne q4.1 0 = true then
      (D17_14_9 F q4.2).bind fun q20 =>
        (D14_14 F q20.2).bind fun q27 =>
          some (q27.1, q27.2)
    else
      some ((-1), q4.2)
set_option maxRecDepth 20000 in
theorem T138_0 {B : zHp} (H : yH0 B) {e : Nat} (he : 3 ≤ e + 1) (F : Nat) {lv : List (Nat × Value)} {m : xS} {x : Int32 × xS} (l0 : zld lv 0 = some (.ref 0)) (h : D138_0 F m = some x) : zR none e 1 (some .int) zc138 (0, lv, []) (xW B m) (some (.int x.1), xW B x.2) := by
  unfold D138_0 at h
  refine q_lr (k := 1) (i := 0) (q := (.aload_n 0, 1, 0, 0, .null)) rfl (fun _ => rfl) l0 ?_
  refine r_gr (c := 14) H (pc := 1) rfl (by decide) (by decide) ?_
  obtain ⟨q4, h4, h⟩ := xbind h
  refine r_call (ix := 14) (as := []) (rest := []) (rv := some (.int q4.1)) (hp' := xW B q4.2) (pc := 4) rfl xr14 rfl rfl rfl (xkd H (by decide)) (Nat.le_of_ble_eq_true rfl) (Z14_14 H h4 (by omega)) (Nat.le_refl _) ?_
  refine r_if (len := 3) (a := 12) (b := 0) (v0 := .null) (cn := .ne) (off := 5) rfl (fun c => ?_) (fun c => ?_)
  · rw [if_pos c] at h
    refine q_lr (k := 1) (i := 0) (q := (.aload_n 0, 1, 0, 0, .null)) rfl (fun _ => rfl) l0 ?_
    refine r_gr (c := 14) H (pc := 13) rfl (by decide) (by decide) ?_
    refine q_lr (k := 1) (i := 0) (q := (.aload_n 0, 1, 0, 0, .null)) rfl (fun _ => rfl) l0 ?_
    refine r_gr (c := 9) H (pc := 17) rfl (by decide) (by decide) ?_
    obtain ⟨q20, h20, h⟩ := xbind h
    refine r_call (ix := 14) (as := [.ref 9]) (rest := []) (rv := none) (hp' := xW B q20.2) (pc := 20) rfl xr17 rfl rfl rfl (xkd H (by decide)) (Nat.le_of_ble_eq_true rfl) (Z17_14_9 H h20 (by omega)) (Nat.le_refl _) ?_
    refine q_lr (k := 1) (i := 0) (q := (.aload_n 0, 1, 0, 0, .null)) rfl (fun _ => rfl) l0 ?_
    refine r_gr (c := 14) H (pc := 24) rfl (by decide) (by decide) ?_
    obtain ⟨q27, h27, h⟩ := xbind h
    refine r_call (ix := 14) (as := []) (rest := []) (rv := some (.int q27.1)) (hp' := xW B q27.2) (pc := 27) rfl xr14 rfl rfl rfl (xkd H (by decide)) (Nat.le_of_ble_eq_true rfl) (Z14_14 H h27 (by omega)) (Nat.le_refl _) ?_
    obtain rfl := Option.some.inj h
    exact q_ri (q := (.ireturn, 1, 0, 0, .null)) rfl (fun _ => rfl) rfl rfl
  · rw [if_neg (by rw [c]; decide)] at h
    refine r_s (fr' := (11, lv, [.int (-1)])) (hp' := xW B q4.2) (q := (.iconst (-1), 1, 0, 0, .null)) rfl (fun _ => rfl) (Nat.le_refl _) ?_
    obtain rfl := Option.some.inj h
    exact q_ri (q := (.ireturn, 1, 0, 0, .null)) rfl (fun _ => rfl) rfl rfl
set_option maxRecDepth 20000 in
theorem Z138_0 {B : zHp} (H : yH0 B) {F : Nat} {m : xS} {x : Int32 × xS} (h : D138_0 F m = some x) {d : Nat} (hd : 3 ≤ d) : zCan d 138 [.ref 0] (xW B m) (some (.int x.1), xW B x.2) := by
  obtain ⟨e, rfl⟩ : ∃ e, d = e + 1 := ⟨d - 1, by omega⟩
  refine zCan_body (nL := 1) (rt := (some .int)) (cd := zc138) (xg138) ⟨Nat.le_of_ble_eq_true rfl, by decide⟩ (Nat.le_refl _) ?_
  exact T138_0 H hd F rfl h
/-- LentTools$ThanksRings.housesInRings -/
def D66_67_9_51 (F : Nat) (g7 : Int32 → Int32 → xS → Option (Int32 × xS)) (g22 : Int32 → Int32 → Int32 → xS → Option (Int32 × xS)) (v2 : Int32) (v3 : Int32) (v4 : Int32) (m : xS) : Option (Int32 × xS) :=
  g22 v2 v3 (v4 + Int32.ofInt 1) m
set_option maxRecDepth 20000 in
theorem T66_67_9_51 {B : zHp} (H : yH0 B) {e : Nat} (he : 2 ≤ e + 1) (F : Nat) (g7 : Int32 → Int32 → xS → Option (Int32 × xS)) (g22 : Int32 → Int32 → Int32 → xS → Option (Int32 × xS)) (k7 : ∀ {v2 : Int32} {v3 : Int32} {lv : List (Nat × Value)} {m : xS} {x : Int32 × xS}, zld lv 0 = some (.ref 67) → zld lv 1 = some (.ref 9) → zld lv 2 = some (.int v2) → zld lv 3 = some (.int v3) → g7 v2 v3 m = some x → zR none e 5 (some .int) zc66 (7, lv, []) (xW B m) (some (.int x.1), xW B x.2)) (k22 : ∀ {v2 : Int32} {v3 : Int32} {v4 : Int32} {lv : List (Nat × Value)} {m : xS} {x : Int32 × xS}, zld lv 0 = some (.ref 67) → zld lv 1 = some (.ref 9) → zld lv 2 = some (.int v2) → zld lv 3 = some (.int v3) → zld lv 4 = some (.int v4) → g22 v2 v3 v4 m = some x → zR none e 5 (some .int) zc66 (22, lv, []) (xW B m) (some (.int x.1), xW B x.2)) {v2 : Int32} {v3 : Int32} {v4 : Int32} {lv : List (Nat × Value)} {m : xS} {x : Int32 × xS} (l0 : zld lv 0 = some (.ref 67)) (l1 : zld lv 1 = some (.ref 9)) (l2 : zld lv 2 = some (.int v2)) (l3 : zld lv 3 = some (.int v3)) (l4 : zld lv 4 = some (.int v4)) (h : D66_67_9_51 F g7 g22 v2 v3 v4 m = some x) : zR none e 5 (some .int) zc66 (51, lv, []) (xW B m) (some (.int x.1), xW B x.2) := by
  unfold D66_67_9_51 at h
  refine q_inc (i := 4) (n := 1) (q := (.iinc 4 1, 3, 0, 0, .null)) rfl (fun _ => rfl) l4 (by decide) ?_
  have l0_1 : zld (zs1 lv 4 (.int (v4 + Int32.ofInt 1))) 0 = some (.ref 67) := x_o1 l0 rfl rfl
  have l1_1 : zld (zs1 lv 4 (.int (v4 + Int32.ofInt 1))) 1 = some (.ref 9) := x_o1 l1 rfl rfl
  have l2_1 : zld (zs1 lv 4 (.int (v4 + Int32.ofInt 1))) 2 = some (.int v2) := x_o1 l2 rfl rfl
  have l3_1 : zld (zs1 lv 4 (.int (v4 + Int32.ofInt 1))) 3 = some (.int v3) := x_o1 l3 rfl rfl
  have l4_1 : zld (zs1 lv 4 (.int (v4 + Int32.ofInt 1))) 4 = some (.int (v4 + Int32.ofInt 1)) := zs1_ld _ _ _
  generalize (zs1 lv 4 (.int (v4 + Int32.ofInt 1))) = lv1 at *
  refine r_s (fr' := (22, lv1, [])) (hp' := xW B m) (q := (.goto (-32), 3, 22, 0, .null)) rfl (fun _ => rfl) (Nat.le_refl _) ?_
  exact k22 l0_1 l1_1 l2_1 l3_1 l4_1 h
def D66_67_9_22 (F : Nat) (g7 : Int32 → Int32 → xS → Option (Int32 × xS)) : Nat → Int32 → Int32 → Int32 → xS → Option (Int32 × xS)
  | 0, _, _, _, _ => none
  | f + 1, v2, v3, v4, m =>
    if zcmp .ge v4 v2 = true then
      g7 v2 (v3 + Int32.ofInt 1) m
    else
      (D94_9 F v3 v4 m).bind fun q32 =>
        if zcmp .le q32.1 0 = true then
          D66_67_9_51 F g7 (D66_67_9_22 F g7 f) v2 v3 v4 q32.2
        else
          if xib v3 6 = true then
            if xib v3 6 = true then
              D66_67_9_51 F g7 (D66_67_9_22 F g7 f) v2 v3 v4 (xu q32.2 69 (v3 : Int32).toNatClampNeg ((q32.2.1 69 (v3 : Int32).toNatClampNeg) ||| (1 <<< (v4 &&& 31))))
            else none
          else none
set_option maxRecDepth 20000 in
theorem T66_67_9_22 {B : zHp} (H : yH0 B) {e : Nat} (he : 2 ≤ e + 1) (F : Nat) (g7 : Int32 → Int32 → xS → Option (Int32 × xS)) (k7 : ∀ {v2 : Int32} {v3 : Int32} {lv : List (Nat × Value)} {m : xS} {x : Int32 × xS}, zld lv 0 = some (.ref 67) → zld lv 1 = some (.ref 9) → zld lv 2 = some (.int v2) → zld lv 3 = some (.int v3) → g7 v2 v3 m = some x → zR none e 5 (some .int) zc66 (7, lv, []) (xW B m) (some (.int x.1), xW B x.2)) : ∀ (f : Nat) {v2 : Int32} {v3 : Int32} {v4 : Int32} {lv : List (Nat × Value)} {m : xS} {x : Int32 × xS}, zld lv 0 = some (.ref 67) → zld lv 1 = some (.ref 9) → zld lv 2 = some (.int v2) → zld lv 3 = some (.int v3) → zld lv 4 = some (.int v4) → D66_67_9_22 F g7 f v2 v3 v4 m = some x → zR none e 5 (some .int) zc66 (22, lv, []) (xW B m) (some (.int x.1), xW B x.2) := by
  intro f
  induction f with
  | zero => intro v2 v3 v4 lv m x l0 l1 l2 l3 l4 h; cases h
  | succ f ih =>
    intro v2 v3 v4 lv m x l0 l1 l2 l3 l4 h
    unfold D66_67_9_22 at h
    refine q_li (k := 2) (i := 4) (q := (.iload 4, 2, 0, 0, .null)) rfl (fun _ => rfl) l4 ?_
    refine q_li (k := 1) (i := 2) (q := (.iload_n 2, 1, 0, 0, .null)) rfl (fun _ => rfl) l2 ?_
    refine r_ifc (len := 3) (a := 57) (b := 0) (v0 := .null) (cn := .ge) (off := 32) rfl (fun c => ?_) (fun c => ?_)
    · rw [if_pos c] at h
      refine q_inc (i := 3) (n := 1) (q := (.iinc 3 1, 3, 0, 0, .null)) rfl (fun _ => rfl) l3 (by decide) ?_
      have l0_1 : zld (zs1 lv 3 (.int (v3 + Int32.ofInt 1))) 0 = some (.ref 67) := x_o1 l0 rfl rfl
      have l1_1 : zld (zs1 lv 3 (.int (v3 + Int32.ofInt 1))) 1 = some (.ref 9) := x_o1 l1 rfl rfl
      have l2_1 : zld (zs1 lv 3 (.int (v3 + Int32.ofInt 1))) 2 = some (.int v2) := x_o1 l2 rfl rfl
      have l3_1 : zld (zs1 lv 3 (.int (v3 + Int32.ofInt 1))) 3 = some (.int (v3 + Int32.ofInt 1)) := zs1_ld _ _ _
      have l4_1 : zld (zs1 lv 3 (.int (v3 + Int32.ofInt 1))) 4 = some (.int v4) := x_o1 l4 rfl rfl
      generalize (zs1 lv 3 (.int (v3 + Int32.ofInt 1))) = lv1 at *
      refine r_s (fr' := (7, lv1, [])) (hp' := xW B m) (q := (.goto (-53), 3, 7, 0, .null)) rfl (fun _ => rfl) (Nat.le_refl _) ?_
      exact k7 l0_1 l1_1 l2_1 l3_1 h
    · rw [if_neg (by rw [c]; decide)] at h
      refine q_lr (k := 1) (i := 1) (q := (.aload_n 1, 1, 0, 0, .null)) rfl (fun _ => rfl) l1 ?_
      refine q_li (k := 1) (i := 3) (q := (.iload_n 3, 1, 0, 0, .null)) rfl (fun _ => rfl) l3 ?_
      refine q_li (k := 2) (i := 4) (q := (.iload 4, 2, 0, 0, .null)) rfl (fun _ => rfl) l4 ?_
      obtain ⟨q32, h32, h⟩ := xbind h
      refine r_call (ix := 9) (as := [.int v3, .int v4]) (rest := []) (rv := some (.int q32.1)) (hp' := xW B q32.2) (pc := 32) rfl xr94 rfl rfl rfl (xkd H (by decide)) (Nat.le_of_ble_eq_true rfl) (Z94_9 H h32 (by omega)) (Nat.le_refl _) ?_
      refine r_if (len := 3) (a := 51) (b := 0) (v0 := .null) (cn := .le) (off := 16) rfl (fun c => ?_) (fun c => ?_)
      · rw [if_pos c] at h
        exact T66_67_9_51 H he F _ _ k7 ih l0 l1 l2 l3 l4 h
      · rw [if_neg (by rw [c]; decide)] at h
        refine q_lr (k := 1) (i := 0) (q := (.aload_n 0, 1, 0, 0, .null)) rfl (fun _ => rfl) l0 ?_
        refine r_gr (c := 69) H (pc := 39) rfl (by decide) (by decide) ?_
        refine q_li (k := 1) (i := 3) (q := (.iload_n 3, 1, 0, 0, .null)) rfl (fun _ => rfl) l3 ?_
        refine r_s (fr' := (44, lv, [.int v3, .ref 69, .int v3, .ref 69])) (hp' := xW B q32.2) (q := (.dup2, 1, 0, 0, .null)) rfl (fun _ => rfl) (Nat.le_refl _) ?_
        obtain ⟨c2, h⟩ := xif h
        refine q_al (n := 6) (v := (q32.2.1 69 (v3 : Int32).toNatClampNeg)) H (pc := 44) rfl (by decide) c2 rfl ?_
        refine r_s (fr' := (46, lv, [.int 1, .int (q32.2.1 69 (v3 : Int32).toNatClampNeg), .int v3, .ref 69])) (hp' := xW B q32.2) (q := (.iconst 1, 1, 0, 0, .null)) rfl (fun _ => rfl) (Nat.le_refl _) ?_
        refine q_li (k := 2) (i := 4) (q := (.iload 4, 2, 0, 0, .null)) rfl (fun _ => rfl) l4 ?_
        refine r_s (fr' := (49, lv, [.int (1 <<< (v4 &&& 31)), .int (q32.2.1 69 (v3 : Int32).toNatClampNeg), .int v3, .ref 69])) (hp' := xW B q32.2) (q := (.ishl, 1, 0, 0, .null)) rfl (fun _ => rfl) (Nat.le_refl _) ?_
        refine r_s (fr' := (50, lv, [.int ((q32.2.1 69 (v3 : Int32).toNatClampNeg) ||| (1 <<< (v4 &&& 31))), .int v3, .ref 69])) (hp' := xW B q32.2) (q := (.ior, 1, 0, 0, .null)) rfl (fun _ => rfl) (Nat.le_refl _) ?_
        obtain ⟨c3, h⟩ := xif h
        refine q_as (n := 6) (s2 := (xu q32.2 69 (v3 : Int32).toNatClampNeg ((q32.2.1 69 (v3 : Int32).toNatClampNeg) ||| (1 <<< (v4 &&& 31))))) H (pc := 50) rfl (by decide) c3 rfl ?_
        exact T66_67_9_51 H he F _ _ k7 ih l0 l1 l2 l3 l4 h
def D66_67_9_109 (F : Nat) (g65 : Int32 → Int32 → xS → Option (Int32 × xS)) (g73 : Int32 → Int32 → Int32 → xS → Option (Int32 × xS)) (v2 : Int32) (v3 : Int32) (v4 : Int32) (m : xS) : Option (Int32 × xS) :=
  g73 v2 v3 (v4 + Int32.ofInt 1) m
set_option maxRecDepth 20000 in
theorem T66_67_9_109 {B : zHp} (H : yH0 B) {e : Nat} (he : 2 ≤ e + 1) (F : Nat) (g65 : Int32 → Int32 → xS → Option (Int32 × xS)) (g73 : Int32 → Int32 → Int32 → xS → Option (Int32 × xS)) (k65 : ∀ {v2 : Int32} {v3 : Int32} {lv : List (Nat × Value)} {m : xS} {x : Int32 × xS}, zld lv 0 = some (.ref 67) → zld lv 1 = some (.ref 9) → zld lv 2 = some (.int v2) → zld lv 3 = some (.int v3) → g65 v2 v3 m = some x → zR none e 5 (some .int) zc66 (65, lv, []) (xW B m) (some (.int x.1), xW B x.2)) (k73 : ∀ {v2 : Int32} {v3 : Int32} {v4 : Int32} {lv : List (Nat × Value)} {m : xS} {x : Int32 × xS}, zld lv 0 = some (.ref 67) → zld lv 1 = some (.ref 9) → zld lv 2 = some (.int v2) → zld lv 3 = some (.int v3) → zld lv 4 = some (.int v4) → g73 v2 v3 v4 m = some x → zR none e 5 (some .int) zc66 (73, lv, []) (xW B m) (some (.int x.1), xW B x.2)) {v2 : Int32} {v3 : Int32} {v4 : Int32} {lv : List (Nat × Value)} {m : xS} {x : Int32 × xS} (l0 : zld lv 0 = some (.ref 67)) (l1 : zld lv 1 = some (.ref 9)) (l2 : zld lv 2 = some (.int v2)) (l3 : zld lv 3 = some (.int v3)) (l4 : zld lv 4 = some (.int v4)) (h : D66_67_9_109 F g65 g73 v2 v3 v4 m = some x) : zR none e 5 (some .int) zc66 (109, lv, []) (xW B m) (some (.int x.1), xW B x.2) := by
  unfold D66_67_9_109 at h
  refine q_inc (i := 4) (n := 1) (q := (.iinc 4 1, 3, 0, 0, .null)) rfl (fun _ => rfl) l4 (by decide) ?_
  have l0_1 : zld (zs1 lv 4 (.int (v4 + Int32.ofInt 1))) 0 = some (.ref 67) := x_o1 l0 rfl rfl
  have l1_1 : zld (zs1 lv 4 (.int (v4 + Int32.ofInt 1))) 1 = some (.ref 9) := x_o1 l1 rfl rfl
  have l2_1 : zld (zs1 lv 4 (.int (v4 + Int32.ofInt 1))) 2 = some (.int v2) := x_o1 l2 rfl rfl
  have l3_1 : zld (zs1 lv 4 (.int (v4 + Int32.ofInt 1))) 3 = some (.int v3) := x_o1 l3 rfl rfl
  have l4_1 : zld (zs1 lv 4 (.int (v4 + Int32.ofInt 1))) 4 = some (.int (v4 + Int32.ofInt 1)) := zs1_ld _ _ _
  generalize (zs1 lv 4 (.int (v4 + Int32.ofInt 1))) = lv1 at *
  refine r_s (fr' := (73, lv1, [])) (hp' := xW B m) (q := (.goto (-39), 3, 73, 0, .null)) rfl (fun _ => rfl) (Nat.le_refl _) ?_
  exact k73 l0_1 l1_1 l2_1 l3_1 l4_1 h
def D66_67_9_73 (F : Nat) (g65 : Int32 → Int32 → xS → Option (Int32 × xS)) : Nat → Int32 → Int32 → Int32 → xS → Option (Int32 × xS)
  | 0, _, _, _, _ => none
  | f + 1, v2, v3, v4, m =>
    if zcmp .ge v4 v2 = true then
      g65 v2 (v3 + Int32.ofInt 1) m
    else
      if xib v4 6 = true then
        if zcmp .eq (((m.1 69 (v4 : Int32).toNatClampNeg) >>> (v3 &&& 31)) &&& 1) 0 = true then
          D66_67_9_109 F g65 (D66_67_9_73 F g65 f) v2 v3 v4 m
        else
          if xib v4 6 = true then
            if xib v3 6 = true then
              if xib v4 6 = true then
                D66_67_9_109 F g65 (D66_67_9_73 F g65 f) v2 v3 v4 (xu m 69 (v4 : Int32).toNatClampNeg ((m.1 69 (v4 : Int32).toNatClampNeg) ||| (m.1 69 (v3 : Int32).toNatClampNeg)))
              else none
            else none
          else none
      else none
set_option maxRecDepth 20000 in
theorem T66_67_9_73 {B : zHp} (H : yH0 B) {e : Nat} (he : 2 ≤ e + 1) (F : Nat) (g65 : Int32 → Int32 → xS → Option (Int32 × xS)) (k65 : ∀ {v2 : Int32} {v3 : Int32} {lv : List (Nat × Value)} {m : xS} {x : Int32 × xS}, zld lv 0 = some (.ref 67) → zld lv 1 = some (.ref 9) → zld lv 2 = some (.int v2) → zld lv 3 = some (.int v3) → g65 v2 v3 m = some x → zR none e 5 (some .int) zc66 (65, lv, []) (xW B m) (some (.int x.1), xW B x.2)) : ∀ (f : Nat) {v2 : Int32} {v3 : Int32} {v4 : Int32} {lv : List (Nat × Value)} {m : xS} {x : Int32 × xS}, zld lv 0 = some (.ref 67) → zld lv 1 = some (.ref 9) → zld lv 2 = some (.int v2) → zld lv 3 = some (.int v3) → zld lv 4 = some (.int v4) → D66_67_9_73 F g65 f v2 v3 v4 m = some x → zR none e 5 (some .int) zc66 (73, lv, []) (xW B m) (some (.int x.1), xW B x.2) := by
  intro f
  induction f with
  | zero => intro v2 v3 v4 lv m x l0 l1 l2 l3 l4 h; cases h
  | succ f ih =>
    intro v2 v3 v4 lv m x l0 l1 l2 l3 l4 h
    unfold D66_67_9_73 at h
    refine q_li (k := 2) (i := 4) (q := (.iload 4, 2, 0, 0, .null)) rfl (fun _ => rfl) l4 ?_
    refine q_li (k := 1) (i := 2) (q := (.iload_n 2, 1, 0, 0, .null)) rfl (fun _ => rfl) l2 ?_
    refine r_ifc (len := 3) (a := 115) (b := 0) (v0 := .null) (cn := .ge) (off := 39) rfl (fun c => ?_) (fun c => ?_)
    · rw [if_pos c] at h
      refine q_inc (i := 3) (n := 1) (q := (.iinc 3 1, 3, 0, 0, .null)) rfl (fun _ => rfl) l3 (by decide) ?_
      have l0_1 : zld (zs1 lv 3 (.int (v3 + Int32.ofInt 1))) 0 = some (.ref 67) := x_o1 l0 rfl rfl
      have l1_1 : zld (zs1 lv 3 (.int (v3 + Int32.ofInt 1))) 1 = some (.ref 9) := x_o1 l1 rfl rfl
      have l2_1 : zld (zs1 lv 3 (.int (v3 + Int32.ofInt 1))) 2 = some (.int v2) := x_o1 l2 rfl rfl
      have l3_1 : zld (zs1 lv 3 (.int (v3 + Int32.ofInt 1))) 3 = some (.int (v3 + Int32.ofInt 1)) := zs1_ld _ _ _
      have l4_1 : zld (zs1 lv 3 (.int (v3 + Int32.ofInt 1))) 4 = some (.int v4) := x_o1 l4 rfl rfl
      generalize (zs1 lv 3 (.int (v3 + Int32.ofInt 1))) = lv1 at *
      refine r_s (fr' := (65, lv1, [])) (hp' := xW B m) (q := (.goto (-53), 3, 65, 0, .null)) rfl (fun _ => rfl) (Nat.le_refl _) ?_
      exact k65 l0_1 l1_1 l2_1 l3_1 h
    · rw [if_neg (by rw [c]; decide)] at h
      refine q_lr (k := 1) (i := 0) (q := (.aload_n 0, 1, 0, 0, .null)) rfl (fun _ => rfl) l0 ?_
      refine r_gr (c := 69) H (pc := 80) rfl (by decide) (by decide) ?_
      refine q_li (k := 2) (i := 4) (q := (.iload 4, 2, 0, 0, .null)) rfl (fun _ => rfl) l4 ?_
      obtain ⟨c2, h⟩ := xif h
      refine q_al (n := 6) (v := (m.1 69 (v4 : Int32).toNatClampNeg)) H (pc := 85) rfl (by decide) c2 rfl ?_
      refine q_li (k := 1) (i := 3) (q := (.iload_n 3, 1, 0, 0, .null)) rfl (fun _ => rfl) l3 ?_
      refine r_s (fr' := (88, lv, [.int ((m.1 69 (v4 : Int32).toNatClampNeg) >>> (v3 &&& 31))])) (hp' := xW B m) (q := (.ishr, 1, 0, 0, .null)) rfl (fun _ => rfl) (Nat.le_refl _) ?_
      refine r_s (fr' := (89, lv, [.int 1, .int ((m.1 69 (v4 : Int32).toNatClampNeg) >>> (v3 &&& 31))])) (hp' := xW B m) (q := (.iconst 1, 1, 0, 0, .null)) rfl (fun _ => rfl) (Nat.le_refl _) ?_
      refine r_s (fr' := (90, lv, [.int (((m.1 69 (v4 : Int32).toNatClampNeg) >>> (v3 &&& 31)) &&& 1)])) (hp' := xW B m) (q := (.iand, 1, 0, 0, .null)) rfl (fun _ => rfl) (Nat.le_refl _) ?_
      refine r_if (len := 3) (a := 109) (b := 0) (v0 := .null) (cn := .eq) (off := 19) rfl (fun c => ?_) (fun c => ?_)
      · rw [if_pos c] at h
        exact T66_67_9_109 H he F _ _ k65 ih l0 l1 l2 l3 l4 h
      · rw [if_neg (by rw [c]; decide)] at h
        refine q_lr (k := 1) (i := 0) (q := (.aload_n 0, 1, 0, 0, .null)) rfl (fun _ => rfl) l0 ?_
        refine r_gr (c := 69) H (pc := 94) rfl (by decide) (by decide) ?_
        refine q_li (k := 2) (i := 4) (q := (.iload 4, 2, 0, 0, .null)) rfl (fun _ => rfl) l4 ?_
        refine r_s (fr' := (100, lv, [.int v4, .ref 69, .int v4, .ref 69])) (hp' := xW B m) (q := (.dup2, 1, 0, 0, .null)) rfl (fun _ => rfl) (Nat.le_refl _) ?_
        obtain ⟨c3, h⟩ := xif h
        refine q_al (n := 6) (v := (m.1 69 (v4 : Int32).toNatClampNeg)) H (pc := 100) rfl (by decide) c3 rfl ?_
        refine q_lr (k := 1) (i := 0) (q := (.aload_n 0, 1, 0, 0, .null)) rfl (fun _ => rfl) l0 ?_
        refine r_gr (c := 69) H (pc := 102) rfl (by decide) (by decide) ?_
        refine q_li (k := 1) (i := 3) (q := (.iload_n 3, 1, 0, 0, .null)) rfl (fun _ => rfl) l3 ?_
        obtain ⟨c4, h⟩ := xif h
        refine q_al (n := 6) (v := (m.1 69 (v3 : Int32).toNatClampNeg)) H (pc := 106) rfl (by decide) c4 rfl ?_
        refine r_s (fr' := (108, lv, [.int ((m.1 69 (v4 : Int32).toNatClampNeg) ||| (m.1 69 (v3 : Int32).toNatClampNeg)), .int v4, .ref 69])) (hp' := xW B m) (q := (.ior, 1, 0, 0, .null)) rfl (fun _ => rfl) (Nat.le_refl _) ?_
        obtain ⟨c5, h⟩ := xif h
        refine q_as (n := 6) (s2 := (xu m 69 (v4 : Int32).toNatClampNeg ((m.1 69 (v4 : Int32).toNatClampNeg) ||| (m.1 69 (v3 : Int32).toNatClampNeg)))) H (pc := 108) rfl (by decide) c5 rfl ?_
        exact T66_67_9_109 H he F _ _ k65 ih l0 l1 l2 l3 l4 h
def D66_67_9_126 (F : Nat) : Nat → Int32 → Int32 → Int32 → xS → Option (Int32 × xS)
  | 0, _, _, _, _ => none
  | f + 1, v2, v3, v4, m =>
    if zcmp .ge v4 v2 = true then
      some (v3, m)
    else
      if xib v4 6 = true then
        D66_67_9_126 F f v2 (v3 + (((m.1 69 (v4 : Int32).toNatClampNeg) >>> (v4 &&& 31)) &&& 1)) (v4 + Int32.ofInt 1) m
      else none
set_option maxRecDepth 20000 in
theorem T66_67_9_126 {B : zHp} (H : yH0 B) {e : Nat} (he : 2 ≤ e + 1) (F : Nat) : ∀ (f : Nat) {v2 : Int32} {v3 : Int32} {v4 : Int32} {lv : List (Nat × Value)} {m : xS} {x : Int32 × xS}, zld lv 0 = some (.ref 67) → zld lv 1 = some (.ref 9) → zld lv 2 = some (.int v2) → zld lv 3 = some (.int v3) → zld lv 4 = some (.int v4) → D66_67_9_126 F f v2 v3 v4 m = some x → zR none e 5 (some .int) zc66 (126, lv, []) (xW B m) (some (.int x.1), xW B x.2) := by
  intro f
  induction f with
  | zero => intro v2 v3 v4 lv m x l0 l1 l2 l3 l4 h; cases h
  | succ f ih =>
    intro v2 v3 v4 lv m x l0 l1 l2 l3 l4 h
    unfold D66_67_9_126 at h
    refine q_li (k := 2) (i := 4) (q := (.iload 4, 2, 0, 0, .null)) rfl (fun _ => rfl) l4 ?_
    refine q_li (k := 1) (i := 2) (q := (.iload_n 2, 1, 0, 0, .null)) rfl (fun _ => rfl) l2 ?_
    refine r_ifc (len := 3) (a := 153) (b := 0) (v0 := .null) (cn := .ge) (off := 24) rfl (fun c => ?_) (fun c => ?_)
    · rw [if_pos c] at h
      refine q_li (k := 1) (i := 3) (q := (.iload_n 3, 1, 0, 0, .null)) rfl (fun _ => rfl) l3 ?_
      obtain rfl := Option.some.inj h
      exact q_ri (q := (.ireturn, 1, 0, 0, .null)) rfl (fun _ => rfl) rfl rfl
    · rw [if_neg (by rw [c]; decide)] at h
      refine q_li (k := 1) (i := 3) (q := (.iload_n 3, 1, 0, 0, .null)) rfl (fun _ => rfl) l3 ?_
      refine q_lr (k := 1) (i := 0) (q := (.aload_n 0, 1, 0, 0, .null)) rfl (fun _ => rfl) l0 ?_
      refine r_gr (c := 69) H (pc := 134) rfl (by decide) (by decide) ?_
      refine q_li (k := 2) (i := 4) (q := (.iload 4, 2, 0, 0, .null)) rfl (fun _ => rfl) l4 ?_
      obtain ⟨c1, h⟩ := xif h
      refine q_al (n := 6) (v := (m.1 69 (v4 : Int32).toNatClampNeg)) H (pc := 139) rfl (by decide) c1 rfl ?_
      refine q_li (k := 2) (i := 4) (q := (.iload 4, 2, 0, 0, .null)) rfl (fun _ => rfl) l4 ?_
      refine r_s (fr' := (143, lv, [.int ((m.1 69 (v4 : Int32).toNatClampNeg) >>> (v4 &&& 31)), .int v3])) (hp' := xW B m) (q := (.ishr, 1, 0, 0, .null)) rfl (fun _ => rfl) (Nat.le_refl _) ?_
      refine r_s (fr' := (144, lv, [.int 1, .int ((m.1 69 (v4 : Int32).toNatClampNeg) >>> (v4 &&& 31)), .int v3])) (hp' := xW B m) (q := (.iconst 1, 1, 0, 0, .null)) rfl (fun _ => rfl) (Nat.le_refl _) ?_
      refine r_s (fr' := (145, lv, [.int (((m.1 69 (v4 : Int32).toNatClampNeg) >>> (v4 &&& 31)) &&& 1), .int v3])) (hp' := xW B m) (q := (.iand, 1, 0, 0, .null)) rfl (fun _ => rfl) (Nat.le_refl _) ?_
      refine r_s (fr' := (146, lv, [.int (v3 + (((m.1 69 (v4 : Int32).toNatClampNeg) >>> (v4 &&& 31)) &&& 1))])) (hp' := xW B m) (q := (.iadd, 1, 0, 0, .null)) rfl (fun _ => rfl) (Nat.le_refl _) ?_
      refine q_si (k := 1) (i := 3) (q := (.istore_n 3, 1, 0, 0, .null)) rfl (fun _ => rfl) (by decide) ?_
      have l0_2 : zld (zs1 lv 3 (.int (v3 + (((m.1 69 (v4 : Int32).toNatClampNeg) >>> (v4 &&& 31)) &&& 1)))) 0 = some (.ref 67) := x_o1 l0 rfl rfl
      have l1_2 : zld (zs1 lv 3 (.int (v3 + (((m.1 69 (v4 : Int32).toNatClampNeg) >>> (v4 &&& 31)) &&& 1)))) 1 = some (.ref 9) := x_o1 l1 rfl rfl
      have l2_2 : zld (zs1 lv 3 (.int (v3 + (((m.1 69 (v4 : Int32).toNatClampNeg) >>> (v4 &&& 31)) &&& 1)))) 2 = some (.int v2) := x_o1 l2 rfl rfl
      have l3_2 : zld (zs1 lv 3 (.int (v3 + (((m.1 69 (v4 : Int32).toNatClampNeg) >>> (v4 &&& 31)) &&& 1)))) 3 = some (.int (v3 + (((m.1 69 (v4 : Int32).toNatClampNeg) >>> (v4 &&& 31)) &&& 1))) := zs1_ld _ _ _
      have l4_2 : zld (zs1 lv 3 (.int (v3 + (((m.1 69 (v4 : Int32).toNatClampNeg) >>> (v4 &&& 31)) &&& 1)))) 4 = some (.int v4) := x_o1 l4 rfl rfl
      generalize (zs1 lv 3 (.int (v3 + (((m.1 69 (v4 : Int32).toNatClampNeg) >>> (v4 &&& 31)) &&& 1)))) = lv2 at *
      refine q_inc (i := 4) (n := 1) (q := (.iinc 4 1, 3, 0, 0, .null)) rfl (fun _ => rfl) l4_2 (by decide) ?_
      have l0_3 : zld (zs1 lv2 4 (.int (v4 + Int32.ofInt 1))) 0 = some (.ref 67) := x_o1 l0_2 rfl rfl
      have l1_3 : zld (zs1 lv2 4 (.int (v4 + Int32.ofInt 1))) 1 = some (.ref 9) := x_o1 l1_2 rfl rfl
      have l2_3 : zld (zs1 lv2 4 (.int (v4 + Int32.ofInt 1))) 2 = some (.int v2) := x_o1 l2_2 rfl rfl
      have l3_3 : zld (zs1 lv2 4 (.int (v4 + Int32.ofInt 1))) 3 = some (.int (v3 + (((m.1 69 (v4 : Int32).toNatClampNeg) >>> (v4 &&& 31)) &&& 1))) := x_o1 l3_2 rfl rfl
      have l4_3 : zld (zs1 lv2 4 (.int (v4 + Int32.ofInt 1))) 4 = some (.int (v4 + Int32.ofInt 1)) := zs1_ld _ _ _
      generalize (zs1 lv2 4 (.int (v4 + Int32.ofInt 1))) = lv3 at *
      refine r_s (fr' := (126, lv3, [])) (hp' := xW B m) (q := (.goto (-24), 3, 126, 0, .null)) rfl (fun _ => rfl) (Nat.le_refl _) ?_
      exact ih l0_3 l1_3 l2_3 l3_3 l4_3 h
def D66_67_9_65 (F : Nat) : Nat → Int32 → Int32 → xS → Option (Int32 × xS)
  | 0, _, _, _ => none
  | f + 1, v2, v3, m =>
    if zcmp .ge v3 v2 = true then
      D66_67_9_126 F F v2 0 0 m
    else
      D66_67_9_73 F (D66_67_9_65 F f) F v2 v3 0 m
set_option maxRecDepth 20000 in
theorem T66_67_9_65 {B : zHp} (H : yH0 B) {e : Nat} (he : 2 ≤ e + 1) (F : Nat) : ∀ (f : Nat) {v2 : Int32} {v3 : Int32} {lv : List (Nat × Value)} {m : xS} {x : Int32 × xS}, zld lv 0 = some (.ref 67) → zld lv 1 = some (.ref 9) → zld lv 2 = some (.int v2) → zld lv 3 = some (.int v3) → D66_67_9_65 F f v2 v3 m = some x → zR none e 5 (some .int) zc66 (65, lv, []) (xW B m) (some (.int x.1), xW B x.2) := by
  intro f
  induction f with
  | zero => intro v2 v3 lv m x l0 l1 l2 l3 h; cases h
  | succ f ih =>
    intro v2 v3 lv m x l0 l1 l2 l3 h
    unfold D66_67_9_65 at h
    refine q_li (k := 1) (i := 3) (q := (.iload_n 3, 1, 0, 0, .null)) rfl (fun _ => rfl) l3 ?_
    refine q_li (k := 1) (i := 2) (q := (.iload_n 2, 1, 0, 0, .null)) rfl (fun _ => rfl) l2 ?_
    refine r_ifc (len := 3) (a := 121) (b := 0) (v0 := .null) (cn := .ge) (off := 54) rfl (fun c => ?_) (fun c => ?_)
    · rw [if_pos c] at h
      refine r_s (fr' := (122, lv, [.int 0])) (hp' := xW B m) (q := (.iconst 0, 1, 0, 0, .null)) rfl (fun _ => rfl) (Nat.le_refl _) ?_
      refine q_si (k := 1) (i := 3) (q := (.istore_n 3, 1, 0, 0, .null)) rfl (fun _ => rfl) (by decide) ?_
      have l0_1 : zld (zs1 lv 3 (.int 0)) 0 = some (.ref 67) := x_o1 l0 rfl rfl
      have l1_1 : zld (zs1 lv 3 (.int 0)) 1 = some (.ref 9) := x_o1 l1 rfl rfl
      have l2_1 : zld (zs1 lv 3 (.int 0)) 2 = some (.int v2) := x_o1 l2 rfl rfl
      have l3_1 : zld (zs1 lv 3 (.int 0)) 3 = some (.int 0) := zs1_ld _ _ _
      generalize (zs1 lv 3 (.int 0)) = lv1 at *
      refine r_s (fr' := (124, lv1, [.int 0])) (hp' := xW B m) (q := (.iconst 0, 1, 0, 0, .null)) rfl (fun _ => rfl) (Nat.le_refl _) ?_
      refine q_si (k := 2) (i := 4) (q := (.istore 4, 2, 0, 0, .null)) rfl (fun _ => rfl) (by decide) ?_
      have l0_2 : zld (zs1 lv1 4 (.int 0)) 0 = some (.ref 67) := x_o1 l0_1 rfl rfl
      have l1_2 : zld (zs1 lv1 4 (.int 0)) 1 = some (.ref 9) := x_o1 l1_1 rfl rfl
      have l2_2 : zld (zs1 lv1 4 (.int 0)) 2 = some (.int v2) := x_o1 l2_1 rfl rfl
      have l3_2 : zld (zs1 lv1 4 (.int 0)) 3 = some (.int 0) := x_o1 l3_1 rfl rfl
      have l4_2 : zld (zs1 lv1 4 (.int 0)) 4 = some (.int 0) := zs1_ld _ _ _
      generalize (zs1 lv1 4 (.int 0)) = lv2 at *
      exact T66_67_9_126 H he F F l0_2 l1_2 l2_2 l3_2 l4_2 h
    · rw [if_neg (by rw [c]; decide)] at h
      refine r_s (fr' := (71, lv, [.int 0])) (hp' := xW B m) (q := (.iconst 0, 1, 0, 0, .null)) rfl (fun _ => rfl) (Nat.le_refl _) ?_
      refine q_si (k := 2) (i := 4) (q := (.istore 4, 2, 0, 0, .null)) rfl (fun _ => rfl) (by decide) ?_
      have l0_3 : zld (zs1 lv 4 (.int 0)) 0 = some (.ref 67) := x_o1 l0 rfl rfl
      have l1_3 : zld (zs1 lv 4 (.int 0)) 1 = some (.ref 9) := x_o1 l1 rfl rfl
      have l2_3 : zld (zs1 lv 4 (.int 0)) 2 = some (.int v2) := x_o1 l2 rfl rfl
      have l3_3 : zld (zs1 lv 4 (.int 0)) 3 = some (.int v3) := x_o1 l3 rfl rfl
      have l4_3 : zld (zs1 lv 4 (.int 0)) 4 = some (.int 0) := zs1_ld _ _ _
      generalize (zs1 lv 4 (.int 0)) = lv3 at *
      exact T66_67_9_73 H he F _ ih F l0_3 l1_3 l2_3 l3_3 l4_3 h
def D66_67_9_7 (F : Nat) : Nat → Int32 → Int32 → xS → Option (Int32 × xS)
  | 0, _, _, _ => none
  | f + 1, v2, v3, m =>
    if zcmp .ge v3 v2 = true then
      D66_67_9_65 F F v2 0 m
    else
      if xib v3 6 = true then
        D66_67_9_22 F (D66_67_9_7 F f) F v2 v3 0 (xu m 69 (v3 : Int32).toNatClampNeg 0)
      else none
set_option maxRecDepth 20000 in
theorem T66_67_9_7 {B : zHp} (H : yH0 B) {e : Nat} (he : 2 ≤ e + 1) (F : Nat) : ∀ (f : Nat) {v2 : Int32} {v3 : Int32} {lv : List (Nat × Value)} {m : xS} {x : Int32 × xS}, zld lv 0 = some (.ref 67) → zld lv 1 = some (.ref 9) → zld lv 2 = some (.int v2) → zld lv 3 = some (.int v3) → D66_67_9_7 F f v2 v3 m = some x → zR none e 5 (some .int) zc66 (7, lv, []) (xW B m) (some (.int x.1), xW B x.2) := by
  intro f
  induction f with
  | zero => intro v2 v3 lv m x l0 l1 l2 l3 h; cases h
  | succ f ih =>
    intro v2 v3 lv m x l0 l1 l2 l3 h
    unfold D66_67_9_7 at h
    refine q_li (k := 1) (i := 3) (q := (.iload_n 3, 1, 0, 0, .null)) rfl (fun _ => rfl) l3 ?_
    refine q_li (k := 1) (i := 2) (q := (.iload_n 2, 1, 0, 0, .null)) rfl (fun _ => rfl) l2 ?_
    refine r_ifc (len := 3) (a := 63) (b := 0) (v0 := .null) (cn := .ge) (off := 54) rfl (fun c => ?_) (fun c => ?_)
    · rw [if_pos c] at h
      refine r_s (fr' := (64, lv, [.int 0])) (hp' := xW B m) (q := (.iconst 0, 1, 0, 0, .null)) rfl (fun _ => rfl) (Nat.le_refl _) ?_
      refine q_si (k := 1) (i := 3) (q := (.istore_n 3, 1, 0, 0, .null)) rfl (fun _ => rfl) (by decide) ?_
      have l0_1 : zld (zs1 lv 3 (.int 0)) 0 = some (.ref 67) := x_o1 l0 rfl rfl
      have l1_1 : zld (zs1 lv 3 (.int 0)) 1 = some (.ref 9) := x_o1 l1 rfl rfl
      have l2_1 : zld (zs1 lv 3 (.int 0)) 2 = some (.int v2) := x_o1 l2 rfl rfl
      have l3_1 : zld (zs1 lv 3 (.int 0)) 3 = some (.int 0) := zs1_ld _ _ _
      generalize (zs1 lv 3 (.int 0)) = lv1 at *
      exact T66_67_9_65 H he F F l0_1 l1_1 l2_1 l3_1 h
    · rw [if_neg (by rw [c]; decide)] at h
      refine q_lr (k := 1) (i := 0) (q := (.aload_n 0, 1, 0, 0, .null)) rfl (fun _ => rfl) l0 ?_
      refine r_gr (c := 69) H (pc := 13) rfl (by decide) (by decide) ?_
      refine q_li (k := 1) (i := 3) (q := (.iload_n 3, 1, 0, 0, .null)) rfl (fun _ => rfl) l3 ?_
      refine r_s (fr' := (18, lv, [.int 0, .int v3, .ref 69])) (hp' := xW B m) (q := (.iconst 0, 1, 0, 0, .null)) rfl (fun _ => rfl) (Nat.le_refl _) ?_
      obtain ⟨c2, h⟩ := xif h
      refine q_as (n := 6) (s2 := (xu m 69 (v3 : Int32).toNatClampNeg 0)) H (pc := 18) rfl (by decide) c2 rfl ?_
      refine r_s (fr' := (20, lv, [.int 0])) (hp' := xW B (xu m 69 (v3 : Int32).toNatClampNeg 0)) (q := (.iconst 0, 1, 0, 0, .null)) rfl (fun _ => rfl) (Nat.le_refl _) ?_
      refine q_si (k := 2) (i := 4) (q := (.istore 4, 2, 0, 0, .null)) rfl (fun _ => rfl) (by decide) ?_
      have l0_3 : zld (zs1 lv 4 (.int 0)) 0 = some (.ref 67) := x_o1 l0 rfl rfl
      have l1_3 : zld (zs1 lv 4 (.int 0)) 1 = some (.ref 9) := x_o1 l1 rfl rfl
      have l2_3 : zld (zs1 lv 4 (.int 0)) 2 = some (.int v2) := x_o1 l2 rfl rfl
      have l3_3 : zld (zs1 lv 4 (.int 0)) 3 = some (.int v3) := x_o1 l3 rfl rfl
      have l4_3 : zld (zs1 lv 4 (.int 0)) 4 = some (.int 0) := zs1_ld _ _ _
      generalize (zs1 lv 4 (.int 0)) = lv3 at *
      exact T66_67_9_22 H he F _ ih F l0_3 l1_3 l2_3 l3_3 l4_3 h
def D66_67_9 (F : Nat) (m : xS) : Option (Int32 × xS) :=
  (D77_9 F m).bind fun q1 =>
    D66_67_9_7 F F q1.1 0 q1.2
set_option maxRecDepth 20000 in
theorem T66_67_9 {B : zHp} (H : yH0 B) {e : Nat} (he : 2 ≤ e + 1) (F : Nat) {lv : List (Nat × Value)} {m : xS} {x : Int32 × xS} (l0 : zld lv 0 = some (.ref 67)) (l1 : zld lv 1 = some (.ref 9)) (h : D66_67_9 F m = some x) : zR none e 5 (some .int) zc66 (0, lv, []) (xW B m) (some (.int x.1), xW B x.2) := by
  unfold D66_67_9 at h
  refine q_lr (k := 1) (i := 1) (q := (.aload_n 1, 1, 0, 0, .null)) rfl (fun _ => rfl) l1 ?_
  obtain ⟨q1, h1, h⟩ := xbind h
  refine r_call (ix := 9) (as := []) (rest := []) (rv := some (.int q1.1)) (hp' := xW B q1.2) (pc := 1) rfl xr77 rfl rfl rfl (xkd H (by decide)) (Nat.le_of_ble_eq_true rfl) (Z77_9 H h1 (by omega)) (Nat.le_refl _) ?_
  refine q_si (k := 1) (i := 2) (q := (.istore_n 2, 1, 0, 0, .null)) rfl (fun _ => rfl) (by decide) ?_
  have l0_1 : zld (zs1 lv 2 (.int q1.1)) 0 = some (.ref 67) := x_o1 l0 rfl rfl
  have l1_1 : zld (zs1 lv 2 (.int q1.1)) 1 = some (.ref 9) := x_o1 l1 rfl rfl
  have l2_1 : zld (zs1 lv 2 (.int q1.1)) 2 = some (.int q1.1) := zs1_ld _ _ _
  generalize (zs1 lv 2 (.int q1.1)) = lv1 at *
  refine r_s (fr' := (6, lv1, [.int 0])) (hp' := xW B q1.2) (q := (.iconst 0, 1, 0, 0, .null)) rfl (fun _ => rfl) (Nat.le_refl _) ?_
  refine q_si (k := 1) (i := 3) (q := (.istore_n 3, 1, 0, 0, .null)) rfl (fun _ => rfl) (by decide) ?_
  have l0_2 : zld (zs1 lv1 3 (.int 0)) 0 = some (.ref 67) := x_o1 l0_1 rfl rfl
  have l1_2 : zld (zs1 lv1 3 (.int 0)) 1 = some (.ref 9) := x_o1 l1_1 rfl rfl
  have l2_2 : zld (zs1 lv1 3 (.int 0)) 2 = some (.int q1.1) := x_o1 l2_1 rfl rfl
  have l3_2 : zld (zs1 lv1 3 (.int 0)) 3 = some (.int 0) := zs1_ld _ _ _
  generalize (zs1 lv1 3 (.int 0)) = lv2 at *
  exact T66_67_9_7 H he F F l0_2 l1_2 l2_2 l3_2 h
set_option maxRecDepth 20000 in
theorem Z66_67_9 {B : zHp} (H : yH0 B) {F : Nat} {m : xS} {x : Int32 × xS} (h : D66_67_9 F m = some x) {d : Nat} (hd : 2 ≤ d) : zCan d 66 [.ref 67, .ref 9] (xW B m) (some (.int x.1), xW B x.2) := by
  obtain ⟨e, rfl⟩ : ∃ e, d = e + 1 := ⟨d - 1, by omega⟩
  refine zCan_body (nL := 5) (rt := (some .int)) (cd := zc66) (xg66) ⟨Nat.le_of_ble_eq_true rfl, by decide⟩ (Nat.le_refl _) ?_
  exact T66_67_9 H hd F rfl rfl h
/-- LentTools.rings -/
def D146_0_20 (F : Nat) (v1 : Int32) (m : xS) : Option (Int32 × xS) :=
  some ((-1), m)
set_option maxRecDepth 20000 in
theorem T146_0_20 {B : zHp} (H : yH0 B) {e : Nat} (he : 11 ≤ e + 1) (F : Nat) {v1 : Int32} {lv : List (Nat × Value)} {m : xS} {x : Int32 × xS} (l0 : zld lv 0 = some (.ref 0)) (l1 : zld lv 1 = some (.int v1)) (h : D146_0_20 F v1 m = some x) : zR none e 2 (some .int) zc146 (20, lv, []) (xW B m) (some (.int x.1), xW B x.2) := by
  unfold D146_0_20 at h
  refine r_s (fr' := (21, lv, [.int (-1)])) (hp' := xW B m) (q := (.iconst (-1), 1, 0, 0, .null)) rfl (fun _ => rfl) (Nat.le_refl _) ?_
  obtain rfl := Option.some.inj h
  exact q_ri (q := (.ireturn, 1, 0, 0, .null)) rfl (fun _ => rfl) rfl rfl
def D146_0 (F : Nat) (v1 : Int32) (m : xS) : Option (Int32 × xS) :=
  (D76_9 F m).bind fun q4 =>
    if zcmp .eq q4.1 0 = true then
      D146_0_20 F v1 q4.2
    else
      if zcmp .lt v1 0 = true then
        D146_0_20 F v1 q4.2
      else
        if zcmp .le v1 7 = true then
          if zcmp .ne v1 0 = true then
            (D63_67_9 F q4.2).bind fun q46 =>
              if zcmp .ne v1 1 = true then
                if zcmp .ge (v1 - 2) (q46.2.1 67 1) = true then
                  some ((-2), q46.2)
                else
                  if xib (v1 - 2) 6 = true then
                    some ((q46.2.1 68 ((v1 - 2) : Int32).toNatClampNeg), q46.2)
                  else none
              else
                some ((q46.2.1 67 1), q46.2)
          else
            (D66_67_9 F q4.2).bind fun q34 =>
              some (q34.1, q34.2)
        else
          D146_0_20 F v1 q4.2
set_option maxRecDepth 20000 in
theorem T146_0 {B : zHp} (H : yH0 B) {e : Nat} (he : 11 ≤ e + 1) (F : Nat) {v1 : Int32} {lv : List (Nat × Value)} {m : xS} {x : Int32 × xS} (l0 : zld lv 0 = some (.ref 0)) (l1 : zld lv 1 = some (.int v1)) (h : D146_0 F v1 m = some x) : zR none e 2 (some .int) zc146 (0, lv, []) (xW B m) (some (.int x.1), xW B x.2) := by
  unfold D146_0 at h
  refine q_lr (k := 1) (i := 0) (q := (.aload_n 0, 1, 0, 0, .null)) rfl (fun _ => rfl) l0 ?_
  refine r_gr (c := 9) H (pc := 1) rfl (by decide) (by decide) ?_
  obtain ⟨q4, h4, h⟩ := xbind h
  refine r_call (ix := 9) (as := []) (rest := []) (rv := some (.int q4.1)) (hp' := xW B q4.2) (pc := 4) rfl xr76 rfl rfl rfl (xkd H (by decide)) (Nat.le_of_ble_eq_true rfl) (Z76_9 H h4 (by omega)) (Nat.le_refl _) ?_
  refine r_if (len := 3) (a := 20) (b := 0) (v0 := .null) (cn := .eq) (off := 13) rfl (fun c => ?_) (fun c => ?_)
  · rw [if_pos c] at h
    exact T146_0_20 H he F l0 l1 h
  · rw [if_neg (by rw [c]; decide)] at h
    refine q_li (k := 1) (i := 1) (q := (.iload_n 1, 1, 0, 0, .null)) rfl (fun _ => rfl) l1 ?_
    refine r_if (len := 3) (a := 20) (b := 0) (v0 := .null) (cn := .lt) (off := 9) rfl (fun c => ?_) (fun c => ?_)
    · rw [if_pos c] at h
      exact T146_0_20 H he F l0 l1 h
    · rw [if_neg (by rw [c]; decide)] at h
      refine q_li (k := 1) (i := 1) (q := (.iload_n 1, 1, 0, 0, .null)) rfl (fun _ => rfl) l1 ?_
      refine r_s (fr' := (17, lv, [.int 7, .int v1])) (hp' := xW B q4.2) (q := (.bipush 7, 2, 0, 0, .null)) rfl (fun _ => rfl) (Nat.le_refl _) ?_
      refine r_ifc (len := 3) (a := 22) (b := 0) (v0 := .null) (cn := .le) (off := 5) rfl (fun c => ?_) (fun c => ?_)
      · rw [if_pos c] at h
        refine q_li (k := 1) (i := 1) (q := (.iload_n 1, 1, 0, 0, .null)) rfl (fun _ => rfl) l1 ?_
        refine r_if (len := 3) (a := 38) (b := 0) (v0 := .null) (cn := .ne) (off := 15) rfl (fun c => ?_) (fun c => ?_)
        · rw [if_pos c] at h
          refine q_lr (k := 1) (i := 0) (q := (.aload_n 0, 1, 0, 0, .null)) rfl (fun _ => rfl) l0 ?_
          refine r_gr (c := 67) H (pc := 39) rfl (by decide) (by decide) ?_
          refine q_lr (k := 1) (i := 0) (q := (.aload_n 0, 1, 0, 0, .null)) rfl (fun _ => rfl) l0 ?_
          refine r_gr (c := 9) H (pc := 43) rfl (by decide) (by decide) ?_
          obtain ⟨q46, h46, h⟩ := xbind h
          refine r_call (ix := 67) (as := [.ref 9]) (rest := []) (rv := none) (hp' := xW B q46.2) (pc := 46) rfl xr63 rfl rfl rfl (xkd H (by decide)) (Nat.le_of_ble_eq_true rfl) (Z63_67_9 H h46 (by omega)) (Nat.le_refl _) ?_
          refine q_li (k := 1) (i := 1) (q := (.iload_n 1, 1, 0, 0, .null)) rfl (fun _ => rfl) l1 ?_
          refine r_s (fr' := (51, lv, [.int 1, .int v1])) (hp' := xW B q46.2) (q := (.iconst 1, 1, 0, 0, .null)) rfl (fun _ => rfl) (Nat.le_refl _) ?_
          refine r_ifc (len := 3) (a := 62) (b := 0) (v0 := .null) (cn := .ne) (off := 11) rfl (fun c => ?_) (fun c => ?_)
          · rw [if_pos c] at h
            refine q_li (k := 1) (i := 1) (q := (.iload_n 1, 1, 0, 0, .null)) rfl (fun _ => rfl) l1 ?_
            refine r_s (fr' := (64, lv, [.int 2, .int v1])) (hp' := xW B q46.2) (q := (.iconst 2, 1, 0, 0, .null)) rfl (fun _ => rfl) (Nat.le_refl _) ?_
            refine r_s (fr' := (65, lv, [.int (v1 - 2)])) (hp' := xW B q46.2) (q := (.isub, 1, 0, 0, .null)) rfl (fun _ => rfl) (Nat.le_refl _) ?_
            refine q_lr (k := 1) (i := 0) (q := (.aload_n 0, 1, 0, 0, .null)) rfl (fun _ => rfl) l0 ?_
            refine r_gr (c := 67) H (pc := 66) rfl (by decide) (by decide) ?_
            refine r_gi (v := (q46.2.1 67 1)) H (pc := 69) (i := _) rfl (by decide) (by decide) rfl ?_
            refine r_ifc (len := 3) (a := 89) (b := 0) (v0 := .null) (cn := .ge) (off := 17) rfl (fun c => ?_) (fun c => ?_)
            · rw [if_pos c] at h
              refine r_s (fr' := (91, lv, [.int (-2)])) (hp' := xW B q46.2) (q := (.bipush (-2), 2, 0, 0, .null)) rfl (fun _ => rfl) (Nat.le_refl _) ?_
              obtain rfl := Option.some.inj h
              exact q_ri (q := (.ireturn, 1, 0, 0, .null)) rfl (fun _ => rfl) rfl rfl
            · rw [if_neg (by rw [c]; decide)] at h
              refine q_lr (k := 1) (i := 0) (q := (.aload_n 0, 1, 0, 0, .null)) rfl (fun _ => rfl) l0 ?_
              refine r_gr (c := 67) H (pc := 76) rfl (by decide) (by decide) ?_
              refine r_gr (c := 68) H (pc := 79) rfl (by decide) (by decide) ?_
              refine q_li (k := 1) (i := 1) (q := (.iload_n 1, 1, 0, 0, .null)) rfl (fun _ => rfl) l1 ?_
              refine r_s (fr' := (84, lv, [.int 2, .int v1, .ref 68])) (hp' := xW B q46.2) (q := (.iconst 2, 1, 0, 0, .null)) rfl (fun _ => rfl) (Nat.le_refl _) ?_
              refine r_s (fr' := (85, lv, [.int (v1 - 2), .ref 68])) (hp' := xW B q46.2) (q := (.isub, 1, 0, 0, .null)) rfl (fun _ => rfl) (Nat.le_refl _) ?_
              obtain ⟨c1, h⟩ := xif h
              refine q_al (n := 6) (v := (q46.2.1 68 ((v1 - 2) : Int32).toNatClampNeg)) H (pc := 85) rfl (by decide) c1 rfl ?_
              refine r_s (fr' := (91, lv, [.int (q46.2.1 68 ((v1 - 2) : Int32).toNatClampNeg)])) (hp' := xW B q46.2) (q := (.goto 5, 3, 91, 0, .null)) rfl (fun _ => rfl) (Nat.le_refl _) ?_
              obtain rfl := Option.some.inj h
              exact q_ri (q := (.ireturn, 1, 0, 0, .null)) rfl (fun _ => rfl) rfl rfl
          · rw [if_neg (by rw [c]; decide)] at h
            refine q_lr (k := 1) (i := 0) (q := (.aload_n 0, 1, 0, 0, .null)) rfl (fun _ => rfl) l0 ?_
            refine r_gr (c := 67) H (pc := 55) rfl (by decide) (by decide) ?_
            refine r_gi (v := (q46.2.1 67 1)) H (pc := 58) (i := _) rfl (by decide) (by decide) rfl ?_
            obtain rfl := Option.some.inj h
            exact q_ri (q := (.ireturn, 1, 0, 0, .null)) rfl (fun _ => rfl) rfl rfl
        · rw [if_neg (by rw [c]; decide)] at h
          refine q_lr (k := 1) (i := 0) (q := (.aload_n 0, 1, 0, 0, .null)) rfl (fun _ => rfl) l0 ?_
          refine r_gr (c := 67) H (pc := 27) rfl (by decide) (by decide) ?_
          refine q_lr (k := 1) (i := 0) (q := (.aload_n 0, 1, 0, 0, .null)) rfl (fun _ => rfl) l0 ?_
          refine r_gr (c := 9) H (pc := 31) rfl (by decide) (by decide) ?_
          obtain ⟨q34, h34, h⟩ := xbind h
          refine r_call (ix := 67) (as := [.ref 9]) (rest := []) (rv := some (.int q34.1)) (hp' := xW B q34.2) (pc := 34) rfl xr66 rfl rfl rfl (xkd H (by decide)) (Nat.le_of_ble_eq_true rfl) (Z66_67_9 H h34 (by omega)) (Nat.le_refl _) ?_
          obtain rfl := Option.some.inj h
          exact q_ri (q := (.ireturn, 1, 0, 0, .null)) rfl (fun _ => rfl) rfl rfl
      · rw [if_neg (by rw [c]; decide)] at h
        exact T146_0_20 H he F l0 l1 h
set_option maxRecDepth 20000 in
theorem Z146_0 {B : zHp} (H : yH0 B) {F : Nat} {a1 : Int32} {m : xS} {x : Int32 × xS} (h : D146_0 F a1 m = some x) {d : Nat} (hd : 11 ≤ d) : zCan d 146 [.ref 0, .int a1] (xW B m) (some (.int x.1), xW B x.2) := by
  obtain ⟨e, rfl⟩ : ∃ e, d = e + 1 := ⟨d - 1, by omega⟩
  refine zCan_body (nL := 2) (rt := (some .int)) (cd := zc146) (xg146) ⟨Nat.le_of_ble_eq_true rfl, by decide⟩ (Nat.le_refl _) ?_
  exact T146_0 H hd F rfl rfl h
/-- LentTools$Village.debtOf -/
def D95_9_4 (F : Nat) : Nat → Int32 → Int32 → Int32 → xS → Option (Int32 × xS)
  | 0, _, _, _, _ => none
  | f + 1, v1, v2, v3, m =>
    (D77_9 F m).bind fun q6 =>
      if zcmp .ge v3 q6.1 = true then
        some (v2, q6.2)
      else
        (D94_9 F v1 v3 q6.2).bind fun q16 =>
          (D94_9 F v3 v1 q16.2).bind fun q22 =>
            D95_9_4 F f v1 (v2 + (q16.1 - q22.1)) (v3 + Int32.ofInt 1) q22.2
set_option maxRecDepth 20000 in
theorem T95_9_4 {B : zHp} (H : yH0 B) {e : Nat} (he : 2 ≤ e + 1) (F : Nat) : ∀ (f : Nat) {v1 : Int32} {v2 : Int32} {v3 : Int32} {lv : List (Nat × Value)} {m : xS} {x : Int32 × xS}, zld lv 0 = some (.ref 9) → zld lv 1 = some (.int v1) → zld lv 2 = some (.int v2) → zld lv 3 = some (.int v3) → D95_9_4 F f v1 v2 v3 m = some x → zR none e 4 (some .int) zc95 (4, lv, []) (xW B m) (some (.int x.1), xW B x.2) := by
  intro f
  induction f with
  | zero => intro v1 v2 v3 lv m x l0 l1 l2 l3 h; cases h
  | succ f ih =>
    intro v1 v2 v3 lv m x l0 l1 l2 l3 h
    unfold D95_9_4 at h
    refine q_li (k := 1) (i := 3) (q := (.iload_n 3, 1, 0, 0, .null)) rfl (fun _ => rfl) l3 ?_
    refine q_lr (k := 1) (i := 0) (q := (.aload_n 0, 1, 0, 0, .null)) rfl (fun _ => rfl) l0 ?_
    obtain ⟨q6, h6, h⟩ := xbind h
    refine r_call (ix := 9) (as := []) (rest := [.int v3]) (rv := some (.int q6.1)) (hp' := xW B q6.2) (pc := 6) rfl xr77 rfl rfl rfl (xkd H (by decide)) (Nat.le_of_ble_eq_true rfl) (Z77_9 H h6 (by omega)) (Nat.le_refl _) ?_
    refine r_ifc (len := 3) (a := 34) (b := 0) (v0 := .null) (cn := .ge) (off := 25) rfl (fun c => ?_) (fun c => ?_)
    · rw [if_pos c] at h
      refine q_li (k := 1) (i := 2) (q := (.iload_n 2, 1, 0, 0, .null)) rfl (fun _ => rfl) l2 ?_
      obtain rfl := Option.some.inj h
      exact q_ri (q := (.ireturn, 1, 0, 0, .null)) rfl (fun _ => rfl) rfl rfl
    · rw [if_neg (by rw [c]; decide)] at h
      refine q_li (k := 1) (i := 2) (q := (.iload_n 2, 1, 0, 0, .null)) rfl (fun _ => rfl) l2 ?_
      refine q_lr (k := 1) (i := 0) (q := (.aload_n 0, 1, 0, 0, .null)) rfl (fun _ => rfl) l0 ?_
      refine q_li (k := 1) (i := 1) (q := (.iload_n 1, 1, 0, 0, .null)) rfl (fun _ => rfl) l1 ?_
      refine q_li (k := 1) (i := 3) (q := (.iload_n 3, 1, 0, 0, .null)) rfl (fun _ => rfl) l3 ?_
      obtain ⟨q16, h16, h⟩ := xbind h
      refine r_call (ix := 9) (as := [.int v1, .int v3]) (rest := [.int v2]) (rv := some (.int q16.1)) (hp' := xW B q16.2) (pc := 16) rfl xr94 rfl rfl rfl (xkd H (by decide)) (Nat.le_of_ble_eq_true rfl) (Z94_9 H h16 (by omega)) (Nat.le_refl _) ?_
      refine q_lr (k := 1) (i := 0) (q := (.aload_n 0, 1, 0, 0, .null)) rfl (fun _ => rfl) l0 ?_
      refine q_li (k := 1) (i := 3) (q := (.iload_n 3, 1, 0, 0, .null)) rfl (fun _ => rfl) l3 ?_
      refine q_li (k := 1) (i := 1) (q := (.iload_n 1, 1, 0, 0, .null)) rfl (fun _ => rfl) l1 ?_
      obtain ⟨q22, h22, h⟩ := xbind h
      refine r_call (ix := 9) (as := [.int v3, .int v1]) (rest := [.int q16.1, .int v2]) (rv := some (.int q22.1)) (hp' := xW B q22.2) (pc := 22) rfl xr94 rfl rfl rfl (xkd H (by decide)) (Nat.le_of_ble_eq_true rfl) (Z94_9 H h22 (by omega)) (Nat.le_refl _) ?_
      refine r_s (fr' := (26, lv, [.int (q16.1 - q22.1), .int v2])) (hp' := xW B q22.2) (q := (.isub, 1, 0, 0, .null)) rfl (fun _ => rfl) (Nat.le_refl _) ?_
      refine r_s (fr' := (27, lv, [.int (v2 + (q16.1 - q22.1))])) (hp' := xW B q22.2) (q := (.iadd, 1, 0, 0, .null)) rfl (fun _ => rfl) (Nat.le_refl _) ?_
      refine q_si (k := 1) (i := 2) (q := (.istore_n 2, 1, 0, 0, .null)) rfl (fun _ => rfl) (by decide) ?_
      have l0_1 : zld (zs1 lv 2 (.int (v2 + (q16.1 - q22.1)))) 0 = some (.ref 9) := x_o1 l0 rfl rfl
      have l1_1 : zld (zs1 lv 2 (.int (v2 + (q16.1 - q22.1)))) 1 = some (.int v1) := x_o1 l1 rfl rfl
      have l2_1 : zld (zs1 lv 2 (.int (v2 + (q16.1 - q22.1)))) 2 = some (.int (v2 + (q16.1 - q22.1))) := zs1_ld _ _ _
      have l3_1 : zld (zs1 lv 2 (.int (v2 + (q16.1 - q22.1)))) 3 = some (.int v3) := x_o1 l3 rfl rfl
      generalize (zs1 lv 2 (.int (v2 + (q16.1 - q22.1)))) = lv1 at *
      refine q_inc (i := 3) (n := 1) (q := (.iinc 3 1, 3, 0, 0, .null)) rfl (fun _ => rfl) l3_1 (by decide) ?_
      have l0_2 : zld (zs1 lv1 3 (.int (v3 + Int32.ofInt 1))) 0 = some (.ref 9) := x_o1 l0_1 rfl rfl
      have l1_2 : zld (zs1 lv1 3 (.int (v3 + Int32.ofInt 1))) 1 = some (.int v1) := x_o1 l1_1 rfl rfl
      have l2_2 : zld (zs1 lv1 3 (.int (v3 + Int32.ofInt 1))) 2 = some (.int (v2 + (q16.1 - q22.1))) := x_o1 l2_1 rfl rfl
      have l3_2 : zld (zs1 lv1 3 (.int (v3 + Int32.ofInt 1))) 3 = some (.int (v3 + Int32.ofInt 1)) := zs1_ld _ _ _
      generalize (zs1 lv1 3 (.int (v3 + Int32.ofInt 1))) = lv2 at *
      refine r_s (fr' := (4, lv2, [])) (hp' := xW B q22.2) (q := (.goto (-27), 3, 4, 0, .null)) rfl (fun _ => rfl) (Nat.le_refl _) ?_
      exact ih l0_2 l1_2 l2_2 l3_2 h
def D95_9 (F : Nat) (v1 : Int32) (m : xS) : Option (Int32 × xS) :=
  D95_9_4 F F v1 0 0 m
set_option maxRecDepth 20000 in
theorem T95_9 {B : zHp} (H : yH0 B) {e : Nat} (he : 2 ≤ e + 1) (F : Nat) {v1 : Int32} {lv : List (Nat × Value)} {m : xS} {x : Int32 × xS} (l0 : zld lv 0 = some (.ref 9)) (l1 : zld lv 1 = some (.int v1)) (h : D95_9 F v1 m = some x) : zR none e 4 (some .int) zc95 (0, lv, []) (xW B m) (some (.int x.1), xW B x.2) := by
  unfold D95_9 at h
  refine r_s (fr' := (1, lv, [.int 0])) (hp' := xW B m) (q := (.iconst 0, 1, 0, 0, .null)) rfl (fun _ => rfl) (Nat.le_refl _) ?_
  refine q_si (k := 1) (i := 2) (q := (.istore_n 2, 1, 0, 0, .null)) rfl (fun _ => rfl) (by decide) ?_
  have l0_1 : zld (zs1 lv 2 (.int 0)) 0 = some (.ref 9) := x_o1 l0 rfl rfl
  have l1_1 : zld (zs1 lv 2 (.int 0)) 1 = some (.int v1) := x_o1 l1 rfl rfl
  have l2_1 : zld (zs1 lv 2 (.int 0)) 2 = some (.int 0) := zs1_ld _ _ _
  generalize (zs1 lv 2 (.int 0)) = lv1 at *
  refine r_s (fr' := (3, lv1, [.int 0])) (hp' := xW B m) (q := (.iconst 0, 1, 0, 0, .null)) rfl (fun _ => rfl) (Nat.le_refl _) ?_
  refine q_si (k := 1) (i := 3) (q := (.istore_n 3, 1, 0, 0, .null)) rfl (fun _ => rfl) (by decide) ?_
  have l0_2 : zld (zs1 lv1 3 (.int 0)) 0 = some (.ref 9) := x_o1 l0_1 rfl rfl
  have l1_2 : zld (zs1 lv1 3 (.int 0)) 1 = some (.int v1) := x_o1 l1_1 rfl rfl
  have l2_2 : zld (zs1 lv1 3 (.int 0)) 2 = some (.int 0) := x_o1 l2_1 rfl rfl
  have l3_2 : zld (zs1 lv1 3 (.int 0)) 3 = some (.int 0) := zs1_ld _ _ _
  generalize (zs1 lv1 3 (.int 0)) = lv2 at *
  exact T95_9_4 H he F F l0_2 l1_2 l2_2 l3_2 h
set_option maxRecDepth 20000 in
theorem Z95_9 {B : zHp} (H : yH0 B) {F : Nat} {a1 : Int32} {m : xS} {x : Int32 × xS} (h : D95_9 F a1 m = some x) {d : Nat} (hd : 2 ≤ d) : zCan d 95 [.ref 9, .int a1] (xW B m) (some (.int x.1), xW B x.2) := by
  obtain ⟨e, rfl⟩ : ∃ e, d = e + 1 := ⟨d - 1, by omega⟩
  refine zCan_body (nL := 4) (rt := (some .int)) (cd := zc95) (xg95) ⟨Nat.le_of_ble_eq_true rfl, by decide⟩ (Nat.le_refl _) ?_
  exact T95_9 H hd F rfl rfl h
/-- LentTools.debt -/
def D147_0 (F : Nat) (v1 : Int32) (m : xS) : Option (Int32 × xS) :=
  (D85_9 F v1 m).bind fun q5 =>
    if zcmp .eq q5.1 0 = true then
      some ((-1000), q5.2)
    else
      (D95_9 F v1 q5.2).bind fun q16 =>
        some (q16.1, q16.2)
set_option maxRecDepth 20000 in
theorem T147_0 {B : zHp} (H : yH0 B) {e : Nat} (he : 3 ≤ e + 1) (F : Nat) {v1 : Int32} {lv : List (Nat × Value)} {m : xS} {x : Int32 × xS} (l0 : zld lv 0 = some (.ref 0)) (l1 : zld lv 1 = some (.int v1)) (h : D147_0 F v1 m = some x) : zR none e 2 (some .int) zc147 (0, lv, []) (xW B m) (some (.int x.1), xW B x.2) := by
  unfold D147_0 at h
  refine q_lr (k := 1) (i := 0) (q := (.aload_n 0, 1, 0, 0, .null)) rfl (fun _ => rfl) l0 ?_
  refine r_gr (c := 9) H (pc := 1) rfl (by decide) (by decide) ?_
  refine q_li (k := 1) (i := 1) (q := (.iload_n 1, 1, 0, 0, .null)) rfl (fun _ => rfl) l1 ?_
  obtain ⟨q5, h5, h⟩ := xbind h
  refine r_call (ix := 9) (as := [.int v1]) (rest := []) (rv := some (.int q5.1)) (hp' := xW B q5.2) (pc := 5) rfl xr85 rfl rfl rfl (xkd H (by decide)) (Nat.le_of_ble_eq_true rfl) (Z85_9 H h5 (by omega)) (Nat.le_refl _) ?_
  refine r_if (len := 3) (a := 22) (b := 0) (v0 := .null) (cn := .eq) (off := 14) rfl (fun c => ?_) (fun c => ?_)
  · rw [if_pos c] at h
    refine r_s (fr' := (25, lv, [.int (-1000)])) (hp' := xW B q5.2) (q := (.sipush (-1000), 3, 0, 0, .null)) rfl (fun _ => rfl) (Nat.le_refl _) ?_
    obtain rfl := Option.some.inj h
    exact q_ri (q := (.ireturn, 1, 0, 0, .null)) rfl (fun _ => rfl) rfl rfl
  · rw [if_neg (by rw [c]; decide)] at h
    refine q_lr (k := 1) (i := 0) (q := (.aload_n 0, 1, 0, 0, .null)) rfl (fun _ => rfl) l0 ?_
    refine r_gr (c := 9) H (pc := 12) rfl (by decide) (by decide) ?_
    refine q_li (k := 1) (i := 1) (q := (.iload_n 1, 1, 0, 0, .null)) rfl (fun _ => rfl) l1 ?_
    obtain ⟨q16, h16, h⟩ := xbind h
    refine r_call (ix := 9) (as := [.int v1]) (rest := []) (rv := some (.int q16.1)) (hp' := xW B q16.2) (pc := 16) rfl xr95 rfl rfl rfl (xkd H (by decide)) (Nat.le_of_ble_eq_true rfl) (Z95_9 H h16 (by omega)) (Nat.le_refl _) ?_
    refine r_s (fr' := (25, lv, [.int q16.1])) (hp' := xW B q16.2) (q := (.goto 6, 3, 25, 0, .null)) rfl (fun _ => rfl) (Nat.le_refl _) ?_
    obtain rfl := Option.some.inj h
    exact q_ri (q := (.ireturn, 1, 0, 0, .null)) rfl (fun _ => rfl) rfl rfl
set_option maxRecDepth 20000 in
theorem Z147_0 {B : zHp} (H : yH0 B) {F : Nat} {a1 : Int32} {m : xS} {x : Int32 × xS} (h : D147_0 F a1 m = some x) {d : Nat} (hd : 3 ≤ d) : zCan d 147 [.ref 0, .int a1] (xW B m) (some (.int x.1), xW B x.2) := by
  obtain ⟨e, rfl⟩ : ∃ e, d = e + 1 := ⟨d - 1, by omega⟩
  refine zCan_body (nL := 2) (rt := (some .int)) (cd := zc147) (xg147) ⟨Nat.le_of_ble_eq_true rfl, by decide⟩ (Nat.le_refl _) ?_
  exact T147_0 H hd F rfl rfl h
/-- LentTools.seed -/
def D152_0 (F : Nat) (v1 : Int32) (m : xS) : Option (Int32 × xS) :=
  if zcmp .ge v1 0 = true then
    some ((m.1 43 0), (xu m 43 0 v1))
  else
    some ((-1), m)
set_option maxRecDepth 20000 in
theorem T152_0 {B : zHp} (H : yH0 B) {e : Nat} (he : 1 ≤ e + 1) (F : Nat) {v1 : Int32} {lv : List (Nat × Value)} {m : xS} {x : Int32 × xS} (l0 : zld lv 0 = some (.ref 0)) (l1 : zld lv 1 = some (.int v1)) (h : D152_0 F v1 m = some x) : zR none e 3 (some .int) zc152 (0, lv, []) (xW B m) (some (.int x.1), xW B x.2) := by
  unfold D152_0 at h
  refine q_li (k := 1) (i := 1) (q := (.iload_n 1, 1, 0, 0, .null)) rfl (fun _ => rfl) l1 ?_
  refine r_if (len := 3) (a := 6) (b := 0) (v0 := .null) (cn := .ge) (off := 5) rfl (fun c => ?_) (fun c => ?_)
  · rw [if_pos c] at h
    refine q_lr (k := 1) (i := 0) (q := (.aload_n 0, 1, 0, 0, .null)) rfl (fun _ => rfl) l0 ?_
    refine r_gr (c := 43) H (pc := 7) rfl (by decide) (by decide) ?_
    refine r_gi (v := (m.1 43 0)) H (pc := 10) (i := _) rfl (by decide) (by decide) rfl ?_
    refine q_si (k := 1) (i := 2) (q := (.istore_n 2, 1, 0, 0, .null)) rfl (fun _ => rfl) (by decide) ?_
    have l0_1 : zld (zs1 lv 2 (.int (m.1 43 0))) 0 = some (.ref 0) := x_o1 l0 rfl rfl
    have l1_1 : zld (zs1 lv 2 (.int (m.1 43 0))) 1 = some (.int v1) := x_o1 l1 rfl rfl
    have l2_1 : zld (zs1 lv 2 (.int (m.1 43 0))) 2 = some (.int (m.1 43 0)) := zs1_ld _ _ _
    generalize (zs1 lv 2 (.int (m.1 43 0))) = lv1 at *
    refine q_lr (k := 1) (i := 0) (q := (.aload_n 0, 1, 0, 0, .null)) rfl (fun _ => rfl) l0_1 ?_
    refine r_gr (c := 43) H (pc := 15) rfl (by decide) (by decide) ?_
    refine q_li (k := 1) (i := 1) (q := (.iload_n 1, 1, 0, 0, .null)) rfl (fun _ => rfl) l1_1 ?_
    refine r_pi (s2 := (xu m 43 0 v1)) H (pc := 19) rfl (by decide) rfl rfl ?_
    refine q_li (k := 1) (i := 2) (q := (.iload_n 2, 1, 0, 0, .null)) rfl (fun _ => rfl) l2_1 ?_
    obtain rfl := Option.some.inj h
    exact q_ri (q := (.ireturn, 1, 0, 0, .null)) rfl (fun _ => rfl) rfl rfl
  · rw [if_neg (by rw [c]; decide)] at h
    refine r_s (fr' := (5, lv, [.int (-1)])) (hp' := xW B m) (q := (.iconst (-1), 1, 0, 0, .null)) rfl (fun _ => rfl) (Nat.le_refl _) ?_
    obtain rfl := Option.some.inj h
    exact q_ri (q := (.ireturn, 1, 0, 0, .null)) rfl (fun _ => rfl) rfl rfl
set_option maxRecDepth 20000 in
theorem Z152_0 {B : zHp} (H : yH0 B) {F : Nat} {a1 : Int32} {m : xS} {x : Int32 × xS} (h : D152_0 F a1 m = some x) {d : Nat} (hd : 1 ≤ d) : zCan d 152 [.ref 0, .int a1] (xW B m) (some (.int x.1), xW B x.2) := by
  obtain ⟨e, rfl⟩ : ∃ e, d = e + 1 := ⟨d - 1, by omega⟩
  refine zCan_body (nL := 3) (rt := (some .int)) (cd := zc152) (xg152) ⟨Nat.le_of_ble_eq_true rfl, by decide⟩ (Nat.le_refl _) ?_
  exact T152_0 H hd F rfl rfl h
/-- LentTools$Village.copyFrom -/
def D70_11t_9 (F : Nat) (m : xS) : Option (Unit × xS) :=
  some ((), (xcp m 12 10 114))
set_option maxRecDepth 20000 in
theorem T70_11t_9 {B : zHp} (H : yH0 B) {e : Nat} (he : 1 ≤ e + 1) (F : Nat) {lv : List (Nat × Value)} {m : xS} {x : Unit × xS} (l0 : zld lv 0 = some (.ref 11)) (l1 : zld lv 1 = some (.ref 9)) (h : D70_11t_9 F m = some x) : zR none e 2 none zc70 (0, lv, []) (xW B m) (none, xW B x.2) := by
  unfold D70_11t_9 at h
  refine q_lr (k := 1) (i := 1) (q := (.aload_n 1, 1, 0, 0, .null)) rfl (fun _ => rfl) l1 ?_
  refine r_gr (c := 10) H (pc := 1) rfl (by decide) (by decide) ?_
  refine r_s (fr' := (5, lv, [.int 0, .ref 10])) (hp' := xW B m) (q := (.iconst 0, 1, 0, 0, .null)) rfl (fun _ => rfl) (Nat.le_refl _) ?_
  refine q_lr (k := 1) (i := 0) (q := (.aload_n 0, 1, 0, 0, .null)) rfl (fun _ => rfl) l0 ?_
  refine r_gr (c := 12) H (pc := 6) rfl (by decide) (by decide) ?_
  refine r_s (fr' := (10, lv, [.int 0, .ref 12, .int 0, .ref 10])) (hp' := xW B m) (q := (.iconst 0, 1, 0, 0, .null)) rfl (fun _ => rfl) (Nat.le_refl _) ?_
  refine r_s (fr' := (12, lv, [.int 114, .int 0, .ref 12, .int 0, .ref 10])) (hp' := xW B m) (q := (.bipush 114, 2, 0, 0, .null)) rfl (fun _ => rfl) (Nat.le_refl _) ?_
  refine q_cpy (n := 114) (n0 := 114) (n1 := 114) H (pc := 12) rfl (by decide) (by decide) (by decide) (by decide) (by decide) (Nat.le_of_ble_eq_true rfl) ?_
  obtain rfl := Option.some.inj h
  exact r_ret (q := (.return_, 1, 0, 0, .null)) rfl rfl (fun _ => rfl)
set_option maxRecDepth 20000 in
theorem Z70_11t_9 {B : zHp} (H : yH0 B) {F : Nat} {m : xS} {x : Unit × xS} (h : D70_11t_9 F m = some x) {d : Nat} (hd : 1 ≤ d) : zCan d 70 [.ref 11, .ref 9] (xW B m) (none, xW B x.2) := by
  obtain ⟨e, rfl⟩ : ∃ e, d = e + 1 := ⟨d - 1, by omega⟩
  refine zCan_body (nL := 2) (rt := none) (cd := zc70) (xg70) ⟨Nat.le_of_ble_eq_true rfl, by decide⟩ (Nat.le_refl _) ?_
  exact T70_11t_9 H hd F rfl rfl h
/-- LentTools$Village.tools -/
def D79_11t (F : Nat) (m : xS) : Option (Int32 × xS) :=
  some ((m.1 12 2), m)
set_option maxRecDepth 20000 in
theorem T79_11t {B : zHp} (H : yH0 B) {e : Nat} (he : 1 ≤ e + 1) (F : Nat) {lv : List (Nat × Value)} {m : xS} {x : Int32 × xS} (l0 : zld lv 0 = some (.ref 11)) (h : D79_11t F m = some x) : zR none e 1 (some .int) zc79 (0, lv, []) (xW B m) (some (.int x.1), xW B x.2) := by
  unfold D79_11t at h
  refine q_lr (k := 1) (i := 0) (q := (.aload_n 0, 1, 0, 0, .null)) rfl (fun _ => rfl) l0 ?_
  refine r_gr (c := 12) H (pc := 1) rfl (by decide) (by decide) ?_
  refine r_s (fr' := (5, lv, [.int 2, .ref 12])) (hp' := xW B m) (q := (.iconst 2, 1, 0, 0, .null)) rfl (fun _ => rfl) (Nat.le_refl _) ?_
  refine q_al (n := 114) (v := (m.1 12 2)) H (pc := 5) rfl (by decide) (by decide) rfl ?_
  obtain rfl := Option.some.inj h
  exact q_ri (q := (.ireturn, 1, 0, 0, .null)) rfl (fun _ => rfl) rfl rfl
set_option maxRecDepth 20000 in
theorem Z79_11t {B : zHp} (H : yH0 B) {F : Nat} {m : xS} {x : Int32 × xS} (h : D79_11t F m = some x) {d : Nat} (hd : 1 ≤ d) : zCan d 79 [.ref 11] (xW B m) (some (.int x.1), xW B x.2) := by
  obtain ⟨e, rfl⟩ : ∃ e, d = e + 1 := ⟨d - 1, by omega⟩
  refine zCan_body (nL := 1) (rt := (some .int)) (cd := zc79) (xg79) ⟨Nat.le_of_ble_eq_true rfl, by decide⟩ (Nat.le_refl _) ?_
  exact T79_11t H hd F rfl h
/-- LentTools$Draws.drawn -/
def D11_43 (F : Nat) (m : xS) : Option (Int32 × xS) :=
  some ((((((((m.1 43 0) : Int32).toInt64 * 1103515245) + 12345) - ((((m.1 43 0) : Int32).toInt64 * 1103515245) + 12345) / 2147483648 * 2147483648) : Int64).toInt32 / 65536), (xu m 43 0 ((((((m.1 43 0) : Int32).toInt64 * 1103515245) + 12345) - ((((m.1 43 0) : Int32).toInt64 * 1103515245) + 12345) / 2147483648 * 2147483648) : Int64).toInt32))
set_option maxRecDepth 20000 in
theorem T11_43 {B : zHp} (H : yH0 B) {e : Nat} (he : 1 ≤ e + 1) (F : Nat) {lv : List (Nat × Value)} {m : xS} {x : Int32 × xS} (l0 : zld lv 0 = some (.ref 43)) (h : D11_43 F m = some x) : zR none e 1 (some .int) zc11 (0, lv, []) (xW B m) (some (.int x.1), xW B x.2) := by
  unfold D11_43 at h
  refine q_lr (k := 1) (i := 0) (q := (.aload_n 0, 1, 0, 0, .null)) rfl (fun _ => rfl) l0 ?_
  refine q_lr (k := 1) (i := 0) (q := (.aload_n 0, 1, 0, 0, .null)) rfl (fun _ => rfl) l0 ?_
  refine r_gi (v := (m.1 43 0)) H (pc := 2) (i := _) rfl (by decide) (by decide) rfl ?_
  refine r_s (fr' := (6, lv, [.long ((m.1 43 0) : Int32).toInt64, .ref 43])) (hp' := xW B m) (q := (.i2l, 1, 0, 0, .null)) rfl (fun _ => rfl) (Nat.le_refl _) ?_
  refine r_s (fr' := (9, lv, [.long 1103515245, .long ((m.1 43 0) : Int32).toInt64, .ref 43])) (hp' := xW B m) (q := (.ldc2_w 13, 3, 0, 0, .long 1103515245)) rfl (fun _ => rfl) (Nat.le_refl _) ?_
  refine r_s (fr' := (10, lv, [.long (((m.1 43 0) : Int32).toInt64 * 1103515245), .ref 43])) (hp' := xW B m) (q := (.lmul, 1, 0, 0, .null)) rfl (fun _ => rfl) (Nat.le_refl _) ?_
  refine r_s (fr' := (13, lv, [.long 12345, .long (((m.1 43 0) : Int32).toInt64 * 1103515245), .ref 43])) (hp' := xW B m) (q := (.ldc2_w 15, 3, 0, 0, .long 12345)) rfl (fun _ => rfl) (Nat.le_refl _) ?_
  refine r_s (fr' := (14, lv, [.long ((((m.1 43 0) : Int32).toInt64 * 1103515245) + 12345), .ref 43])) (hp' := xW B m) (q := (.ladd, 1, 0, 0, .null)) rfl (fun _ => rfl) (Nat.le_refl _) ?_
  refine r_s (fr' := (17, lv, [.long 2147483648, .long ((((m.1 43 0) : Int32).toInt64 * 1103515245) + 12345), .ref 43])) (hp' := xW B m) (q := (.ldc2_w 17, 3, 0, 0, .long 2147483648)) rfl (fun _ => rfl) (Nat.le_refl _) ?_
  refine q_ldiv (f := fun x y => x - x / y * y) (q := (.lrem, 1, 0, 0, .null)) rfl (fun _ => rfl) (by decide) ?_
  refine r_s (fr' := (19, lv, [.int ((((((m.1 43 0) : Int32).toInt64 * 1103515245) + 12345) - ((((m.1 43 0) : Int32).toInt64 * 1103515245) + 12345) / 2147483648 * 2147483648) : Int64).toInt32, .ref 43])) (hp' := xW B m) (q := (.l2i, 1, 0, 0, .null)) rfl (fun _ => rfl) (Nat.le_refl _) ?_
  refine r_pi (s2 := (xu m 43 0 ((((((m.1 43 0) : Int32).toInt64 * 1103515245) + 12345) - ((((m.1 43 0) : Int32).toInt64 * 1103515245) + 12345) / 2147483648 * 2147483648) : Int64).toInt32)) H (pc := 19) rfl (by decide) rfl rfl ?_
  refine q_lr (k := 1) (i := 0) (q := (.aload_n 0, 1, 0, 0, .null)) rfl (fun _ => rfl) l0 ?_
  refine r_gi (v := ((((((m.1 43 0) : Int32).toInt64 * 1103515245) + 12345) - ((((m.1 43 0) : Int32).toInt64 * 1103515245) + 12345) / 2147483648 * 2147483648) : Int64).toInt32) H (pc := 23) (i := _) rfl (by decide) (by decide) rfl ?_
  refine r_s (fr' := (28, lv, [.int 65536, .int ((((((m.1 43 0) : Int32).toInt64 * 1103515245) + 12345) - ((((m.1 43 0) : Int32).toInt64 * 1103515245) + 12345) / 2147483648 * 2147483648) : Int64).toInt32])) (hp' := xW B (xu m 43 0 ((((((m.1 43 0) : Int32).toInt64 * 1103515245) + 12345) - ((((m.1 43 0) : Int32).toInt64 * 1103515245) + 12345) / 2147483648 * 2147483648) : Int64).toInt32)) (q := (.ldc 19, 2, 0, 0, .int 65536)) rfl (fun _ => rfl) (Nat.le_refl _) ?_
  refine q_div (f := fun x y => x / y) (q := (.idiv, 1, 0, 0, .null)) rfl (fun _ => rfl) (by decide) ?_
  obtain rfl := Option.some.inj h
  exact q_ri (q := (.ireturn, 1, 0, 0, .null)) rfl (fun _ => rfl) rfl rfl
set_option maxRecDepth 20000 in
theorem Z11_43 {B : zHp} (H : yH0 B) {F : Nat} {m : xS} {x : Int32 × xS} (h : D11_43 F m = some x) {d : Nat} (hd : 1 ≤ d) : zCan d 11 [.ref 43] (xW B m) (some (.int x.1), xW B x.2) := by
  obtain ⟨e, rfl⟩ : ∃ e, d = e + 1 := ⟨d - 1, by omega⟩
  refine zCan_body (nL := 1) (rt := (some .int)) (cd := zc11) (xg11) ⟨Nat.le_of_ble_eq_true rfl, by decide⟩ (Nat.le_refl _) ?_
  exact T11_43 H hd F rfl h
/-- LentTools$Village.houses -/
def D77_11t (F : Nat) (m : xS) : Option (Int32 × xS) :=
  some ((m.1 12 0), m)
set_option maxRecDepth 20000 in
theorem T77_11t {B : zHp} (H : yH0 B) {e : Nat} (he : 1 ≤ e + 1) (F : Nat) {lv : List (Nat × Value)} {m : xS} {x : Int32 × xS} (l0 : zld lv 0 = some (.ref 11)) (h : D77_11t F m = some x) : zR none e 1 (some .int) zc77 (0, lv, []) (xW B m) (some (.int x.1), xW B x.2) := by
  unfold D77_11t at h
  refine q_lr (k := 1) (i := 0) (q := (.aload_n 0, 1, 0, 0, .null)) rfl (fun _ => rfl) l0 ?_
  refine r_gr (c := 12) H (pc := 1) rfl (by decide) (by decide) ?_
  refine r_s (fr' := (5, lv, [.int 0, .ref 12])) (hp' := xW B m) (q := (.iconst 0, 1, 0, 0, .null)) rfl (fun _ => rfl) (Nat.le_refl _) ?_
  refine q_al (n := 114) (v := (m.1 12 0)) H (pc := 5) rfl (by decide) (by decide) rfl ?_
  obtain rfl := Option.some.inj h
  exact q_ri (q := (.ireturn, 1, 0, 0, .null)) rfl (fun _ => rfl) rfl rfl
set_option maxRecDepth 20000 in
theorem Z77_11t {B : zHp} (H : yH0 B) {F : Nat} {m : xS} {x : Int32 × xS} (h : D77_11t F m = some x) {d : Nat} (hd : 1 ≤ d) : zCan d 77 [.ref 11] (xW B m) (some (.int x.1), xW B x.2) := by
  obtain ⟨e, rfl⟩ : ∃ e, d = e + 1 := ⟨d - 1, by omega⟩
  refine zCan_body (nL := 1) (rt := (some .int)) (cd := zc77) (xg77) ⟨Nat.le_of_ble_eq_true rfl, by decide⟩ (Nat.le_refl _) ?_
  exact T77_11t H hd F rfl h
/-- LentTools$Village.ofTool -/
def D87_11t (F : Nat) (v1 : Int32) (v2 : Int32) (m : xS) : Option (Int32 × xS) :=
  if xib ((6 + (6 * v2)) + v1) 114 = true then
    some ((m.1 12 (((6 + (6 * v2)) + v1) : Int32).toNatClampNeg), m)
  else none
set_option maxRecDepth 20000 in
theorem T87_11t {B : zHp} (H : yH0 B) {e : Nat} (he : 1 ≤ e + 1) (F : Nat) {v1 : Int32} {v2 : Int32} {lv : List (Nat × Value)} {m : xS} {x : Int32 × xS} (l0 : zld lv 0 = some (.ref 11)) (l1 : zld lv 1 = some (.int v1)) (l2 : zld lv 2 = some (.int v2)) (h : D87_11t F v1 v2 m = some x) : zR none e 3 (some .int) zc87 (0, lv, []) (xW B m) (some (.int x.1), xW B x.2) := by
  unfold D87_11t at h
  refine q_lr (k := 1) (i := 0) (q := (.aload_n 0, 1, 0, 0, .null)) rfl (fun _ => rfl) l0 ?_
  refine r_gr (c := 12) H (pc := 1) rfl (by decide) (by decide) ?_
  refine r_s (fr' := (6, lv, [.int 6, .ref 12])) (hp' := xW B m) (q := (.bipush 6, 2, 0, 0, .null)) rfl (fun _ => rfl) (Nat.le_refl _) ?_
  refine r_s (fr' := (8, lv, [.int 6, .int 6, .ref 12])) (hp' := xW B m) (q := (.bipush 6, 2, 0, 0, .null)) rfl (fun _ => rfl) (Nat.le_refl _) ?_
  refine q_li (k := 1) (i := 2) (q := (.iload_n 2, 1, 0, 0, .null)) rfl (fun _ => rfl) l2 ?_
  refine r_s (fr' := (10, lv, [.int (6 * v2), .int 6, .ref 12])) (hp' := xW B m) (q := (.imul, 1, 0, 0, .null)) rfl (fun _ => rfl) (Nat.le_refl _) ?_
  refine r_s (fr' := (11, lv, [.int (6 + (6 * v2)), .ref 12])) (hp' := xW B m) (q := (.iadd, 1, 0, 0, .null)) rfl (fun _ => rfl) (Nat.le_refl _) ?_
  refine q_li (k := 1) (i := 1) (q := (.iload_n 1, 1, 0, 0, .null)) rfl (fun _ => rfl) l1 ?_
  refine r_s (fr' := (13, lv, [.int ((6 + (6 * v2)) + v1), .ref 12])) (hp' := xW B m) (q := (.iadd, 1, 0, 0, .null)) rfl (fun _ => rfl) (Nat.le_refl _) ?_
  obtain ⟨c1, h⟩ := xif h
  refine q_al (n := 114) (v := (m.1 12 (((6 + (6 * v2)) + v1) : Int32).toNatClampNeg)) H (pc := 13) rfl (by decide) c1 rfl ?_
  obtain rfl := Option.some.inj h
  exact q_ri (q := (.ireturn, 1, 0, 0, .null)) rfl (fun _ => rfl) rfl rfl
set_option maxRecDepth 20000 in
theorem Z87_11t {B : zHp} (H : yH0 B) {F : Nat} {a1 : Int32} {a2 : Int32} {m : xS} {x : Int32 × xS} (h : D87_11t F a1 a2 m = some x) {d : Nat} (hd : 1 ≤ d) : zCan d 87 [.ref 11, .int a1, .int a2] (xW B m) (some (.int x.1), xW B x.2) := by
  obtain ⟨e, rfl⟩ : ∃ e, d = e + 1 := ⟨d - 1, by omega⟩
  refine zCan_body (nL := 3) (rt := (some .int)) (cd := zc87) (xg87) ⟨Nat.le_of_ble_eq_true rfl, by decide⟩ (Nat.le_refl _) ?_
  exact T87_11t H hd F rfl rfl rfl h
/-- LentTools$Village.setOfTool -/
def D88_11t (F : Nat) (v1 : Int32) (v2 : Int32) (v3 : Int32) (m : xS) : Option (Unit × xS) :=
  if xib ((6 + (6 * v2)) + v1) 114 = true then
    some ((), (xu m 12 (((6 + (6 * v2)) + v1) : Int32).toNatClampNeg v3))
  else none
set_option maxRecDepth 20000 in
theorem T88_11t {B : zHp} (H : yH0 B) {e : Nat} (he : 1 ≤ e + 1) (F : Nat) {v1 : Int32} {v2 : Int32} {v3 : Int32} {lv : List (Nat × Value)} {m : xS} {x : Unit × xS} (l0 : zld lv 0 = some (.ref 11)) (l1 : zld lv 1 = some (.int v1)) (l2 : zld lv 2 = some (.int v2)) (l3 : zld lv 3 = some (.int v3)) (h : D88_11t F v1 v2 v3 m = some x) : zR none e 4 none zc88 (0, lv, []) (xW B m) (none, xW B x.2) := by
  unfold D88_11t at h
  refine q_lr (k := 1) (i := 0) (q := (.aload_n 0, 1, 0, 0, .null)) rfl (fun _ => rfl) l0 ?_
  refine r_gr (c := 12) H (pc := 1) rfl (by decide) (by decide) ?_
  refine r_s (fr' := (6, lv, [.int 6, .ref 12])) (hp' := xW B m) (q := (.bipush 6, 2, 0, 0, .null)) rfl (fun _ => rfl) (Nat.le_refl _) ?_
  refine r_s (fr' := (8, lv, [.int 6, .int 6, .ref 12])) (hp' := xW B m) (q := (.bipush 6, 2, 0, 0, .null)) rfl (fun _ => rfl) (Nat.le_refl _) ?_
  refine q_li (k := 1) (i := 2) (q := (.iload_n 2, 1, 0, 0, .null)) rfl (fun _ => rfl) l2 ?_
  refine r_s (fr' := (10, lv, [.int (6 * v2), .int 6, .ref 12])) (hp' := xW B m) (q := (.imul, 1, 0, 0, .null)) rfl (fun _ => rfl) (Nat.le_refl _) ?_
  refine r_s (fr' := (11, lv, [.int (6 + (6 * v2)), .ref 12])) (hp' := xW B m) (q := (.iadd, 1, 0, 0, .null)) rfl (fun _ => rfl) (Nat.le_refl _) ?_
  refine q_li (k := 1) (i := 1) (q := (.iload_n 1, 1, 0, 0, .null)) rfl (fun _ => rfl) l1 ?_
  refine r_s (fr' := (13, lv, [.int ((6 + (6 * v2)) + v1), .ref 12])) (hp' := xW B m) (q := (.iadd, 1, 0, 0, .null)) rfl (fun _ => rfl) (Nat.le_refl _) ?_
  refine q_li (k := 1) (i := 3) (q := (.iload_n 3, 1, 0, 0, .null)) rfl (fun _ => rfl) l3 ?_
  obtain ⟨c1, h⟩ := xif h
  refine q_as (n := 114) (s2 := (xu m 12 (((6 + (6 * v2)) + v1) : Int32).toNatClampNeg v3)) H (pc := 14) rfl (by decide) c1 rfl ?_
  obtain rfl := Option.some.inj h
  exact r_ret (q := (.return_, 1, 0, 0, .null)) rfl rfl (fun _ => rfl)
set_option maxRecDepth 20000 in
theorem Z88_11t {B : zHp} (H : yH0 B) {F : Nat} {a1 : Int32} {a2 : Int32} {a3 : Int32} {m : xS} {x : Unit × xS} (h : D88_11t F a1 a2 a3 m = some x) {d : Nat} (hd : 1 ≤ d) : zCan d 88 [.ref 11, .int a1, .int a2, .int a3] (xW B m) (none, xW B x.2) := by
  obtain ⟨e, rfl⟩ : ∃ e, d = e + 1 := ⟨d - 1, by omega⟩
  refine zCan_body (nL := 4) (rt := none) (cd := zc88) (xg88) ⟨Nat.le_of_ble_eq_true rfl, by decide⟩ (Nat.le_refl _) ?_
  exact T88_11t H hd F rfl rfl rfl rfl h
/-- LentTools$Village.giveAway -/
def D104_11t (F : Nat) (v1 : Int32) (v2 : Int32) (m : xS) : Option (Unit × xS) :=
  (D88_11t F v1 0 v2 m).bind fun q4 =>
    (D88_11t F v1 3 v2 q4.2).bind fun q11 =>
      (D88_11t F v1 4 0 q11.2).bind fun q18 =>
        (D88_11t F v1 5 0 q18.2).bind fun q25 =>
          some ((), q25.2)
set_option maxRecDepth 20000 in
theorem T104_11t {B : zHp} (H : yH0 B) {e : Nat} (he : 2 ≤ e + 1) (F : Nat) {v1 : Int32} {v2 : Int32} {lv : List (Nat × Value)} {m : xS} {x : Unit × xS} (l0 : zld lv 0 = some (.ref 11)) (l1 : zld lv 1 = some (.int v1)) (l2 : zld lv 2 = some (.int v2)) (h : D104_11t F v1 v2 m = some x) : zR none e 3 none zc104 (0, lv, []) (xW B m) (none, xW B x.2) := by
  unfold D104_11t at h
  refine q_lr (k := 1) (i := 0) (q := (.aload_n 0, 1, 0, 0, .null)) rfl (fun _ => rfl) l0 ?_
  refine q_li (k := 1) (i := 1) (q := (.iload_n 1, 1, 0, 0, .null)) rfl (fun _ => rfl) l1 ?_
  refine r_s (fr' := (3, lv, [.int 0, .int v1, .ref 11])) (hp' := xW B m) (q := (.iconst 0, 1, 0, 0, .null)) rfl (fun _ => rfl) (Nat.le_refl _) ?_
  refine q_li (k := 1) (i := 2) (q := (.iload_n 2, 1, 0, 0, .null)) rfl (fun _ => rfl) l2 ?_
  obtain ⟨q4, h4, h⟩ := xbind h
  refine r_call (ix := 11) (as := [.int v1, .int 0, .int v2]) (rest := []) (rv := none) (hp' := xW B q4.2) (pc := 4) rfl xr88 rfl rfl rfl (xkd H (by decide)) (Nat.le_of_ble_eq_true rfl) (Z88_11t H h4 (by omega)) (Nat.le_refl _) ?_
  refine q_lr (k := 1) (i := 0) (q := (.aload_n 0, 1, 0, 0, .null)) rfl (fun _ => rfl) l0 ?_
  refine q_li (k := 1) (i := 1) (q := (.iload_n 1, 1, 0, 0, .null)) rfl (fun _ => rfl) l1 ?_
  refine r_s (fr' := (10, lv, [.int 3, .int v1, .ref 11])) (hp' := xW B q4.2) (q := (.iconst 3, 1, 0, 0, .null)) rfl (fun _ => rfl) (Nat.le_refl _) ?_
  refine q_li (k := 1) (i := 2) (q := (.iload_n 2, 1, 0, 0, .null)) rfl (fun _ => rfl) l2 ?_
  obtain ⟨q11, h11, h⟩ := xbind h
  refine r_call (ix := 11) (as := [.int v1, .int 3, .int v2]) (rest := []) (rv := none) (hp' := xW B q11.2) (pc := 11) rfl xr88 rfl rfl rfl (xkd H (by decide)) (Nat.le_of_ble_eq_true rfl) (Z88_11t H h11 (by omega)) (Nat.le_refl _) ?_
  refine q_lr (k := 1) (i := 0) (q := (.aload_n 0, 1, 0, 0, .null)) rfl (fun _ => rfl) l0 ?_
  refine q_li (k := 1) (i := 1) (q := (.iload_n 1, 1, 0, 0, .null)) rfl (fun _ => rfl) l1 ?_
  refine r_s (fr' := (17, lv, [.int 4, .int v1, .ref 11])) (hp' := xW B q11.2) (q := (.iconst 4, 1, 0, 0, .null)) rfl (fun _ => rfl) (Nat.le_refl _) ?_
  refine r_s (fr' := (18, lv, [.int 0, .int 4, .int v1, .ref 11])) (hp' := xW B q11.2) (q := (.iconst 0, 1, 0, 0, .null)) rfl (fun _ => rfl) (Nat.le_refl _) ?_
  obtain ⟨q18, h18, h⟩ := xbind h
  refine r_call (ix := 11) (as := [.int v1, .int 4, .int 0]) (rest := []) (rv := none) (hp' := xW B q18.2) (pc := 18) rfl xr88 rfl rfl rfl (xkd H (by decide)) (Nat.le_of_ble_eq_true rfl) (Z88_11t H h18 (by omega)) (Nat.le_refl _) ?_
  refine q_lr (k := 1) (i := 0) (q := (.aload_n 0, 1, 0, 0, .null)) rfl (fun _ => rfl) l0 ?_
  refine q_li (k := 1) (i := 1) (q := (.iload_n 1, 1, 0, 0, .null)) rfl (fun _ => rfl) l1 ?_
  refine r_s (fr' := (24, lv, [.int 5, .int v1, .ref 11])) (hp' := xW B q18.2) (q := (.iconst 5, 1, 0, 0, .null)) rfl (fun _ => rfl) (Nat.le_refl _) ?_
  refine r_s (fr' := (25, lv, [.int 0, .int 5, .int v1, .ref 11])) (hp' := xW B q18.2) (q := (.iconst 0, 1, 0, 0, .null)) rfl (fun _ => rfl) (Nat.le_refl _) ?_
  obtain ⟨q25, h25, h⟩ := xbind h
  refine r_call (ix := 11) (as := [.int v1, .int 5, .int 0]) (rest := []) (rv := none) (hp' := xW B q25.2) (pc := 25) rfl xr88 rfl rfl rfl (xkd H (by decide)) (Nat.le_of_ble_eq_true rfl) (Z88_11t H h25 (by omega)) (Nat.le_refl _) ?_
  obtain rfl := Option.some.inj h
  exact r_ret (q := (.return_, 1, 0, 0, .null)) rfl rfl (fun _ => rfl)
set_option maxRecDepth 20000 in
theorem Z104_11t {B : zHp} (H : yH0 B) {F : Nat} {a1 : Int32} {a2 : Int32} {m : xS} {x : Unit × xS} (h : D104_11t F a1 a2 m = some x) {d : Nat} (hd : 2 ≤ d) : zCan d 104 [.ref 11, .int a1, .int a2] (xW B m) (none, xW B x.2) := by
  obtain ⟨e, rfl⟩ : ∃ e, d = e + 1 := ⟨d - 1, by omega⟩
  refine zCan_body (nL := 3) (rt := none) (cd := zc104) (xg104) ⟨Nat.le_of_ble_eq_true rfl, by decide⟩ (Nat.le_refl _) ?_
  exact T104_11t H hd F rfl rfl rfl h
/-- LentTools$Village.bringHome -/
def D103_11t (F : Nat) (v1 : Int32) (m : xS) : Option (Unit × xS) :=
  (D87_11t F v1 0 m).bind fun q5 =>
    (D104_11t F v1 q5.1 q5.2).bind fun q8 =>
      some ((), q8.2)
set_option maxRecDepth 20000 in
theorem T103_11t {B : zHp} (H : yH0 B) {e : Nat} (he : 3 ≤ e + 1) (F : Nat) {v1 : Int32} {lv : List (Nat × Value)} {m : xS} {x : Unit × xS} (l0 : zld lv 0 = some (.ref 11)) (l1 : zld lv 1 = some (.int v1)) (h : D103_11t F v1 m = some x) : zR none e 2 none zc103 (0, lv, []) (xW B m) (none, xW B x.2) := by
  unfold D103_11t at h
  refine q_lr (k := 1) (i := 0) (q := (.aload_n 0, 1, 0, 0, .null)) rfl (fun _ => rfl) l0 ?_
  refine q_li (k := 1) (i := 1) (q := (.iload_n 1, 1, 0, 0, .null)) rfl (fun _ => rfl) l1 ?_
  refine q_lr (k := 1) (i := 0) (q := (.aload_n 0, 1, 0, 0, .null)) rfl (fun _ => rfl) l0 ?_
  refine q_li (k := 1) (i := 1) (q := (.iload_n 1, 1, 0, 0, .null)) rfl (fun _ => rfl) l1 ?_
  refine r_s (fr' := (5, lv, [.int 0, .int v1, .ref 11, .int v1, .ref 11])) (hp' := xW B m) (q := (.iconst 0, 1, 0, 0, .null)) rfl (fun _ => rfl) (Nat.le_refl _) ?_
  obtain ⟨q5, h5, h⟩ := xbind h
  refine r_call (ix := 11) (as := [.int v1, .int 0]) (rest := [.int v1, .ref 11]) (rv := some (.int q5.1)) (hp' := xW B q5.2) (pc := 5) rfl xr87 rfl rfl rfl (xkd H (by decide)) (Nat.le_of_ble_eq_true rfl) (Z87_11t H h5 (by omega)) (Nat.le_refl _) ?_
  obtain ⟨q8, h8, h⟩ := xbind h
  refine r_call (ix := 11) (as := [.int v1, .int q5.1]) (rest := []) (rv := none) (hp' := xW B q8.2) (pc := 8) rfl xr104 rfl rfl rfl (xkd H (by decide)) (Nat.le_of_ble_eq_true rfl) (Z104_11t H h8 (by omega)) (Nat.le_refl _) ?_
  obtain rfl := Option.some.inj h
  exact r_ret (q := (.return_, 1, 0, 0, .null)) rfl rfl (fun _ => rfl)
set_option maxRecDepth 20000 in
theorem Z103_11t {B : zHp} (H : yH0 B) {F : Nat} {a1 : Int32} {m : xS} {x : Unit × xS} (h : D103_11t F a1 m = some x) {d : Nat} (hd : 3 ≤ d) : zCan d 103 [.ref 11, .int a1] (xW B m) (none, xW B x.2) := by
  obtain ⟨e, rfl⟩ : ∃ e, d = e + 1 := ⟨d - 1, by omega⟩
  refine zCan_body (nL := 2) (rt := none) (cd := zc103) (xg103) ⟨Nat.le_of_ble_eq_true rfl, by decide⟩ (Nat.le_refl _) ?_
  exact T103_11t H hd F rfl rfl h
/-- LentTools$Village.trustedBy -/
def D91_11t (F : Nat) (v1 : Int32) (m : xS) : Option (Int32 × xS) :=
  if xib (72 + v1) 114 = true then
    some ((m.1 12 ((72 + v1) : Int32).toNatClampNeg), m)
  else none
set_option maxRecDepth 20000 in
theorem T91_11t {B : zHp} (H : yH0 B) {e : Nat} (he : 1 ≤ e + 1) (F : Nat) {v1 : Int32} {lv : List (Nat × Value)} {m : xS} {x : Int32 × xS} (l0 : zld lv 0 = some (.ref 11)) (l1 : zld lv 1 = some (.int v1)) (h : D91_11t F v1 m = some x) : zR none e 2 (some .int) zc91 (0, lv, []) (xW B m) (some (.int x.1), xW B x.2) := by
  unfold D91_11t at h
  refine q_lr (k := 1) (i := 0) (q := (.aload_n 0, 1, 0, 0, .null)) rfl (fun _ => rfl) l0 ?_
  refine r_gr (c := 12) H (pc := 1) rfl (by decide) (by decide) ?_
  refine r_s (fr' := (6, lv, [.int 72, .ref 12])) (hp' := xW B m) (q := (.bipush 72, 2, 0, 0, .null)) rfl (fun _ => rfl) (Nat.le_refl _) ?_
  refine q_li (k := 1) (i := 1) (q := (.iload_n 1, 1, 0, 0, .null)) rfl (fun _ => rfl) l1 ?_
  refine r_s (fr' := (8, lv, [.int (72 + v1), .ref 12])) (hp' := xW B m) (q := (.iadd, 1, 0, 0, .null)) rfl (fun _ => rfl) (Nat.le_refl _) ?_
  obtain ⟨c1, h⟩ := xif h
  refine q_al (n := 114) (v := (m.1 12 ((72 + v1) : Int32).toNatClampNeg)) H (pc := 8) rfl (by decide) c1 rfl ?_
  obtain rfl := Option.some.inj h
  exact q_ri (q := (.ireturn, 1, 0, 0, .null)) rfl (fun _ => rfl) rfl rfl
set_option maxRecDepth 20000 in
theorem Z91_11t {B : zHp} (H : yH0 B) {F : Nat} {a1 : Int32} {m : xS} {x : Int32 × xS} (h : D91_11t F a1 m = some x) {d : Nat} (hd : 1 ≤ d) : zCan d 91 [.ref 11, .int a1] (xW B m) (some (.int x.1), xW B x.2) := by
  obtain ⟨e, rfl⟩ : ∃ e, d = e + 1 := ⟨d - 1, by omega⟩
  refine zCan_body (nL := 2) (rt := (some .int)) (cd := zc91) (xg91) ⟨Nat.le_of_ble_eq_true rfl, by decide⟩ (Nat.le_refl _) ?_
  exact T91_11t H hd F rfl rfl h
/-- LentTools$Village.trusts -/
def D92_11t (F : Nat) (v1 : Int32) (v2 : Int32) (m : xS) : Option (Int32 × xS) :=
  (D91_11t F v1 m).bind fun q2 =>
    if zcmp .eq ((q2.1 >>> (v2 &&& 31)) &&& 1) 0 = true then
      some (0, q2.2)
    else
      some (1, q2.2)
set_option maxRecDepth 20000 in
theorem T92_11t {B : zHp} (H : yH0 B) {e : Nat} (he : 2 ≤ e + 1) (F : Nat) {v1 : Int32} {v2 : Int32} {lv : List (Nat × Value)} {m : xS} {x : Int32 × xS} (l0 : zld lv 0 = some (.ref 11)) (l1 : zld lv 1 = some (.int v1)) (l2 : zld lv 2 = some (.int v2)) (h : D92_11t F v1 v2 m = some x) : zR none e 3 (some .boolean) zc92 (0, lv, []) (xW B m) (some (.int x.1), xW B x.2) := by
  unfold D92_11t at h
  refine q_lr (k := 1) (i := 0) (q := (.aload_n 0, 1, 0, 0, .null)) rfl (fun _ => rfl) l0 ?_
  refine q_li (k := 1) (i := 1) (q := (.iload_n 1, 1, 0, 0, .null)) rfl (fun _ => rfl) l1 ?_
  obtain ⟨q2, h2, h⟩ := xbind h
  refine r_call (ix := 11) (as := [.int v1]) (rest := []) (rv := some (.int q2.1)) (hp' := xW B q2.2) (pc := 2) rfl xr91 rfl rfl rfl (xkd H (by decide)) (Nat.le_of_ble_eq_true rfl) (Z91_11t H h2 (by omega)) (Nat.le_refl _) ?_
  refine q_li (k := 1) (i := 2) (q := (.iload_n 2, 1, 0, 0, .null)) rfl (fun _ => rfl) l2 ?_
  refine r_s (fr' := (7, lv, [.int (q2.1 >>> (v2 &&& 31))])) (hp' := xW B q2.2) (q := (.ishr, 1, 0, 0, .null)) rfl (fun _ => rfl) (Nat.le_refl _) ?_
  refine r_s (fr' := (8, lv, [.int 1, .int (q2.1 >>> (v2 &&& 31))])) (hp' := xW B q2.2) (q := (.iconst 1, 1, 0, 0, .null)) rfl (fun _ => rfl) (Nat.le_refl _) ?_
  refine r_s (fr' := (9, lv, [.int ((q2.1 >>> (v2 &&& 31)) &&& 1)])) (hp' := xW B q2.2) (q := (.iand, 1, 0, 0, .null)) rfl (fun _ => rfl) (Nat.le_refl _) ?_
  refine r_if (len := 3) (a := 16) (b := 0) (v0 := .null) (cn := .eq) (off := 7) rfl (fun c => ?_) (fun c => ?_)
  · rw [if_pos c] at h
    refine r_s (fr' := (17, lv, [.int 0])) (hp' := xW B q2.2) (q := (.iconst 0, 1, 0, 0, .null)) rfl (fun _ => rfl) (Nat.le_refl _) ?_
    obtain rfl := Option.some.inj h
    exact q_ri (q := (.ireturn, 1, 0, 0, .null)) rfl (fun _ => rfl) rfl rfl
  · rw [if_neg (by rw [c]; decide)] at h
    refine r_s (fr' := (13, lv, [.int 1])) (hp' := xW B q2.2) (q := (.iconst 1, 1, 0, 0, .null)) rfl (fun _ => rfl) (Nat.le_refl _) ?_
    refine r_s (fr' := (17, lv, [.int 1])) (hp' := xW B q2.2) (q := (.goto 4, 3, 17, 0, .null)) rfl (fun _ => rfl) (Nat.le_refl _) ?_
    obtain rfl := Option.some.inj h
    exact q_ri (q := (.ireturn, 1, 0, 0, .null)) rfl (fun _ => rfl) rfl rfl
set_option maxRecDepth 20000 in
theorem Z92_11t {B : zHp} (H : yH0 B) {F : Nat} {a1 : Int32} {a2 : Int32} {m : xS} {x : Int32 × xS} (h : D92_11t F a1 a2 m = some x) {d : Nat} (hd : 2 ≤ d) : zCan d 92 [.ref 11, .int a1, .int a2] (xW B m) (some (.int x.1), xW B x.2) := by
  obtain ⟨e, rfl⟩ : ∃ e, d = e + 1 := ⟨d - 1, by omega⟩
  refine zCan_body (nL := 3) (rt := (some .boolean)) (cd := zc92) (xg92) ⟨Nat.le_of_ble_eq_true rfl, by decide⟩ (Nat.le_refl _) ?_
  exact T92_11t H hd F rfl rfl rfl h
/-- LentTools$Village.canLend -/
def D101_11t_28 (F : Nat) (v1 : Int32) (v2 : Int32) (m : xS) : Option (Int32 × xS) :=
  some (0, m)
set_option maxRecDepth 20000 in
theorem T101_11t_28 {B : zHp} (H : yH0 B) {e : Nat} (he : 3 ≤ e + 1) (F : Nat) {v1 : Int32} {v2 : Int32} {lv : List (Nat × Value)} {m : xS} {x : Int32 × xS} (l0 : zld lv 0 = some (.ref 11)) (l1 : zld lv 1 = some (.int v1)) (l2 : zld lv 2 = some (.int v2)) (h : D101_11t_28 F v1 v2 m = some x) : zR none e 3 (some .boolean) zc101 (28, lv, []) (xW B m) (some (.int x.1), xW B x.2) := by
  unfold D101_11t_28 at h
  refine r_s (fr' := (29, lv, [.int 0])) (hp' := xW B m) (q := (.iconst 0, 1, 0, 0, .null)) rfl (fun _ => rfl) (Nat.le_refl _) ?_
  obtain rfl := Option.some.inj h
  exact q_ri (q := (.ireturn, 1, 0, 0, .null)) rfl (fun _ => rfl) rfl rfl
def D101_11t (F : Nat) (v1 : Int32) (v2 : Int32) (m : xS) : Option (Int32 × xS) :=
  (D87_11t F v1 0 m).bind fun q4 =>
    if zcmp .eq v2 q4.1 = true then
      D101_11t_28 F v1 v2 q4.2
    else
      (D87_11t F v1 3 q4.2).bind fun q14 =>
        (D92_11t F q14.1 v2 q14.2).bind fun q18 =>
          if zcmp .eq q18.1 0 = true then
            D101_11t_28 F v1 v2 q18.2
          else
            some (1, q18.2)
set_option maxRecDepth 20000 in
theorem T101_11t {B : zHp} (H : yH0 B) {e : Nat} (he : 3 ≤ e + 1) (F : Nat) {v1 : Int32} {v2 : Int32} {lv : List (Nat × Value)} {m : xS} {x : Int32 × xS} (l0 : zld lv 0 = some (.ref 11)) (l1 : zld lv 1 = some (.int v1)) (l2 : zld lv 2 = some (.int v2)) (h : D101_11t F v1 v2 m = some x) : zR none e 3 (some .boolean) zc101 (0, lv, []) (xW B m) (some (.int x.1), xW B x.2) := by
  unfold D101_11t at h
  refine q_li (k := 1) (i := 2) (q := (.iload_n 2, 1, 0, 0, .null)) rfl (fun _ => rfl) l2 ?_
  refine q_lr (k := 1) (i := 0) (q := (.aload_n 0, 1, 0, 0, .null)) rfl (fun _ => rfl) l0 ?_
  refine q_li (k := 1) (i := 1) (q := (.iload_n 1, 1, 0, 0, .null)) rfl (fun _ => rfl) l1 ?_
  refine r_s (fr' := (4, lv, [.int 0, .int v1, .ref 11, .int v2])) (hp' := xW B m) (q := (.iconst 0, 1, 0, 0, .null)) rfl (fun _ => rfl) (Nat.le_refl _) ?_
  obtain ⟨q4, h4, h⟩ := xbind h
  refine r_call (ix := 11) (as := [.int v1, .int 0]) (rest := [.int v2]) (rv := some (.int q4.1)) (hp' := xW B q4.2) (pc := 4) rfl xr87 rfl rfl rfl (xkd H (by decide)) (Nat.le_of_ble_eq_true rfl) (Z87_11t H h4 (by omega)) (Nat.le_refl _) ?_
  refine r_ifc (len := 3) (a := 28) (b := 0) (v0 := .null) (cn := .eq) (off := 21) rfl (fun c => ?_) (fun c => ?_)
  · rw [if_pos c] at h
    exact T101_11t_28 H he F l0 l1 l2 h
  · rw [if_neg (by rw [c]; decide)] at h
    refine q_lr (k := 1) (i := 0) (q := (.aload_n 0, 1, 0, 0, .null)) rfl (fun _ => rfl) l0 ?_
    refine q_lr (k := 1) (i := 0) (q := (.aload_n 0, 1, 0, 0, .null)) rfl (fun _ => rfl) l0 ?_
    refine q_li (k := 1) (i := 1) (q := (.iload_n 1, 1, 0, 0, .null)) rfl (fun _ => rfl) l1 ?_
    refine r_s (fr' := (14, lv, [.int 3, .int v1, .ref 11, .ref 11])) (hp' := xW B q4.2) (q := (.iconst 3, 1, 0, 0, .null)) rfl (fun _ => rfl) (Nat.le_refl _) ?_
    obtain ⟨q14, h14, h⟩ := xbind h
    refine r_call (ix := 11) (as := [.int v1, .int 3]) (rest := [.ref 11]) (rv := some (.int q14.1)) (hp' := xW B q14.2) (pc := 14) rfl xr87 rfl rfl rfl (xkd H (by decide)) (Nat.le_of_ble_eq_true rfl) (Z87_11t H h14 (by omega)) (Nat.le_refl _) ?_
    refine q_li (k := 1) (i := 2) (q := (.iload_n 2, 1, 0, 0, .null)) rfl (fun _ => rfl) l2 ?_
    obtain ⟨q18, h18, h⟩ := xbind h
    refine r_call (ix := 11) (as := [.int q14.1, .int v2]) (rest := []) (rv := some (.int q18.1)) (hp' := xW B q18.2) (pc := 18) rfl xr92 rfl rfl rfl (xkd H (by decide)) (Nat.le_of_ble_eq_true rfl) (Z92_11t H h18 (by omega)) (Nat.le_refl _) ?_
    refine r_if (len := 3) (a := 28) (b := 0) (v0 := .null) (cn := .eq) (off := 7) rfl (fun c => ?_) (fun c => ?_)
    · rw [if_pos c] at h
      exact T101_11t_28 H he F l0 l1 l2 h
    · rw [if_neg (by rw [c]; decide)] at h
      refine r_s (fr' := (25, lv, [.int 1])) (hp' := xW B q18.2) (q := (.iconst 1, 1, 0, 0, .null)) rfl (fun _ => rfl) (Nat.le_refl _) ?_
      refine r_s (fr' := (29, lv, [.int 1])) (hp' := xW B q18.2) (q := (.goto 4, 3, 29, 0, .null)) rfl (fun _ => rfl) (Nat.le_refl _) ?_
      obtain rfl := Option.some.inj h
      exact q_ri (q := (.ireturn, 1, 0, 0, .null)) rfl (fun _ => rfl) rfl rfl
set_option maxRecDepth 20000 in
theorem Z101_11t {B : zHp} (H : yH0 B) {F : Nat} {a1 : Int32} {a2 : Int32} {m : xS} {x : Int32 × xS} (h : D101_11t F a1 a2 m = some x) {d : Nat} (hd : 3 ≤ d) : zCan d 101 [.ref 11, .int a1, .int a2] (xW B m) (some (.int x.1), xW B x.2) := by
  obtain ⟨e, rfl⟩ : ∃ e, d = e + 1 := ⟨d - 1, by omega⟩
  refine zCan_body (nL := 3) (rt := (some .boolean)) (cd := zc101) (xg101) ⟨Nat.le_of_ble_eq_true rfl, by decide⟩ (Nat.le_refl _) ?_
  exact T101_11t H hd F rfl rfl rfl h
/-- LentTools$Village.owes -/
def D94_11t (F : Nat) (v1 : Int32) (v2 : Int32) (m : xS) : Option (Int32 × xS) :=
  if xib ((78 + (6 * v1)) + v2) 114 = true then
    some ((m.1 12 (((78 + (6 * v1)) + v2) : Int32).toNatClampNeg), m)
  else none
set_option maxRecDepth 20000 in
theorem T94_11t {B : zHp} (H : yH0 B) {e : Nat} (he : 1 ≤ e + 1) (F : Nat) {v1 : Int32} {v2 : Int32} {lv : List (Nat × Value)} {m : xS} {x : Int32 × xS} (l0 : zld lv 0 = some (.ref 11)) (l1 : zld lv 1 = some (.int v1)) (l2 : zld lv 2 = some (.int v2)) (h : D94_11t F v1 v2 m = some x) : zR none e 3 (some .int) zc94 (0, lv, []) (xW B m) (some (.int x.1), xW B x.2) := by
  unfold D94_11t at h
  refine q_lr (k := 1) (i := 0) (q := (.aload_n 0, 1, 0, 0, .null)) rfl (fun _ => rfl) l0 ?_
  refine r_gr (c := 12) H (pc := 1) rfl (by decide) (by decide) ?_
  refine r_s (fr' := (6, lv, [.int 78, .ref 12])) (hp' := xW B m) (q := (.bipush 78, 2, 0, 0, .null)) rfl (fun _ => rfl) (Nat.le_refl _) ?_
  refine r_s (fr' := (8, lv, [.int 6, .int 78, .ref 12])) (hp' := xW B m) (q := (.bipush 6, 2, 0, 0, .null)) rfl (fun _ => rfl) (Nat.le_refl _) ?_
  refine q_li (k := 1) (i := 1) (q := (.iload_n 1, 1, 0, 0, .null)) rfl (fun _ => rfl) l1 ?_
  refine r_s (fr' := (10, lv, [.int (6 * v1), .int 78, .ref 12])) (hp' := xW B m) (q := (.imul, 1, 0, 0, .null)) rfl (fun _ => rfl) (Nat.le_refl _) ?_
  refine r_s (fr' := (11, lv, [.int (78 + (6 * v1)), .ref 12])) (hp' := xW B m) (q := (.iadd, 1, 0, 0, .null)) rfl (fun _ => rfl) (Nat.le_refl _) ?_
  refine q_li (k := 1) (i := 2) (q := (.iload_n 2, 1, 0, 0, .null)) rfl (fun _ => rfl) l2 ?_
  refine r_s (fr' := (13, lv, [.int ((78 + (6 * v1)) + v2), .ref 12])) (hp' := xW B m) (q := (.iadd, 1, 0, 0, .null)) rfl (fun _ => rfl) (Nat.le_refl _) ?_
  obtain ⟨c1, h⟩ := xif h
  refine q_al (n := 114) (v := (m.1 12 (((78 + (6 * v1)) + v2) : Int32).toNatClampNeg)) H (pc := 13) rfl (by decide) c1 rfl ?_
  obtain rfl := Option.some.inj h
  exact q_ri (q := (.ireturn, 1, 0, 0, .null)) rfl (fun _ => rfl) rfl rfl
set_option maxRecDepth 20000 in
theorem Z94_11t {B : zHp} (H : yH0 B) {F : Nat} {a1 : Int32} {a2 : Int32} {m : xS} {x : Int32 × xS} (h : D94_11t F a1 a2 m = some x) {d : Nat} (hd : 1 ≤ d) : zCan d 94 [.ref 11, .int a1, .int a2] (xW B m) (some (.int x.1), xW B x.2) := by
  obtain ⟨e, rfl⟩ : ∃ e, d = e + 1 := ⟨d - 1, by omega⟩
  refine zCan_body (nL := 3) (rt := (some .int)) (cd := zc94) (xg94) ⟨Nat.le_of_ble_eq_true rfl, by decide⟩ (Nat.le_refl _) ?_
  exact T94_11t H hd F rfl rfl rfl h
/-- LentTools$Village.tellThanks -/
def D75_11t (F : Nat) (v1 : Int32) (v2 : Int32) (v3 : Int32) (m : xS) : Option (Unit × xS) :=
  if xib ((78 + (6 * v1)) + v2) 114 = true then
    some ((), (xu m 12 (((78 + (6 * v1)) + v2) : Int32).toNatClampNeg v3))
  else none
set_option maxRecDepth 20000 in
theorem T75_11t {B : zHp} (H : yH0 B) {e : Nat} (he : 1 ≤ e + 1) (F : Nat) {v1 : Int32} {v2 : Int32} {v3 : Int32} {lv : List (Nat × Value)} {m : xS} {x : Unit × xS} (l0 : zld lv 0 = some (.ref 11)) (l1 : zld lv 1 = some (.int v1)) (l2 : zld lv 2 = some (.int v2)) (l3 : zld lv 3 = some (.int v3)) (h : D75_11t F v1 v2 v3 m = some x) : zR none e 4 none zc75 (0, lv, []) (xW B m) (none, xW B x.2) := by
  unfold D75_11t at h
  refine q_lr (k := 1) (i := 0) (q := (.aload_n 0, 1, 0, 0, .null)) rfl (fun _ => rfl) l0 ?_
  refine r_gr (c := 12) H (pc := 1) rfl (by decide) (by decide) ?_
  refine r_s (fr' := (6, lv, [.int 78, .ref 12])) (hp' := xW B m) (q := (.bipush 78, 2, 0, 0, .null)) rfl (fun _ => rfl) (Nat.le_refl _) ?_
  refine r_s (fr' := (8, lv, [.int 6, .int 78, .ref 12])) (hp' := xW B m) (q := (.bipush 6, 2, 0, 0, .null)) rfl (fun _ => rfl) (Nat.le_refl _) ?_
  refine q_li (k := 1) (i := 1) (q := (.iload_n 1, 1, 0, 0, .null)) rfl (fun _ => rfl) l1 ?_
  refine r_s (fr' := (10, lv, [.int (6 * v1), .int 78, .ref 12])) (hp' := xW B m) (q := (.imul, 1, 0, 0, .null)) rfl (fun _ => rfl) (Nat.le_refl _) ?_
  refine r_s (fr' := (11, lv, [.int (78 + (6 * v1)), .ref 12])) (hp' := xW B m) (q := (.iadd, 1, 0, 0, .null)) rfl (fun _ => rfl) (Nat.le_refl _) ?_
  refine q_li (k := 1) (i := 2) (q := (.iload_n 2, 1, 0, 0, .null)) rfl (fun _ => rfl) l2 ?_
  refine r_s (fr' := (13, lv, [.int ((78 + (6 * v1)) + v2), .ref 12])) (hp' := xW B m) (q := (.iadd, 1, 0, 0, .null)) rfl (fun _ => rfl) (Nat.le_refl _) ?_
  refine q_li (k := 1) (i := 3) (q := (.iload_n 3, 1, 0, 0, .null)) rfl (fun _ => rfl) l3 ?_
  obtain ⟨c1, h⟩ := xif h
  refine q_as (n := 114) (s2 := (xu m 12 (((78 + (6 * v1)) + v2) : Int32).toNatClampNeg v3)) H (pc := 14) rfl (by decide) c1 rfl ?_
  obtain rfl := Option.some.inj h
  exact r_ret (q := (.return_, 1, 0, 0, .null)) rfl rfl (fun _ => rfl)
set_option maxRecDepth 20000 in
theorem Z75_11t {B : zHp} (H : yH0 B) {F : Nat} {a1 : Int32} {a2 : Int32} {a3 : Int32} {m : xS} {x : Unit × xS} (h : D75_11t F a1 a2 a3 m = some x) {d : Nat} (hd : 1 ≤ d) : zCan d 75 [.ref 11, .int a1, .int a2, .int a3] (xW B m) (none, xW B x.2) := by
  obtain ⟨e, rfl⟩ : ∃ e, d = e + 1 := ⟨d - 1, by omega⟩
  refine zCan_body (nL := 4) (rt := none) (cd := zc75) (xg75) ⟨Nat.le_of_ble_eq_true rfl, by decide⟩ (Nat.le_refl _) ?_
  exact T75_11t H hd F rfl rfl rfl rfl h
/-- LentTools$Village.lendTo -/
def D102_11t (F : Nat) (v1 : Int32) (v2 : Int32) (m : xS) : Option (Unit × xS) :=
  (D87_11t F v1 3 m).bind fun q3 =>
    (D94_11t F v2 q3.1 q3.2).bind fun q15 =>
      (D75_11t F v2 q3.1 (if (q15.1 + 1) < 99 then (q15.1 + 1) else 99) q15.2).bind fun q23 =>
        (D87_11t F v1 4 q23.2).bind fun q32 =>
          (D88_11t F v1 4 (q32.1 + 1) q32.2).bind fun q37 =>
            (D88_11t F v1 3 v2 q37.2).bind fun q44 =>
              some ((), q44.2)
set_option maxRecDepth 20000 in
theorem T102_11t {B : zHp} (H : yH0 B) {e : Nat} (he : 2 ≤ e + 1) (F : Nat) {v1 : Int32} {v2 : Int32} {lv : List (Nat × Value)} {m : xS} {x : Unit × xS} (l0 : zld lv 0 = some (.ref 11)) (l1 : zld lv 1 = some (.int v1)) (l2 : zld lv 2 = some (.int v2)) (h : D102_11t F v1 v2 m = some x) : zR none e 4 none zc102 (0, lv, []) (xW B m) (none, xW B x.2) := by
  unfold D102_11t at h
  refine q_lr (k := 1) (i := 0) (q := (.aload_n 0, 1, 0, 0, .null)) rfl (fun _ => rfl) l0 ?_
  refine q_li (k := 1) (i := 1) (q := (.iload_n 1, 1, 0, 0, .null)) rfl (fun _ => rfl) l1 ?_
  refine r_s (fr' := (3, lv, [.int 3, .int v1, .ref 11])) (hp' := xW B m) (q := (.iconst 3, 1, 0, 0, .null)) rfl (fun _ => rfl) (Nat.le_refl _) ?_
  obtain ⟨q3, h3, h⟩ := xbind h
  refine r_call (ix := 11) (as := [.int v1, .int 3]) (rest := []) (rv := some (.int q3.1)) (hp' := xW B q3.2) (pc := 3) rfl xr87 rfl rfl rfl (xkd H (by decide)) (Nat.le_of_ble_eq_true rfl) (Z87_11t H h3 (by omega)) (Nat.le_refl _) ?_
  refine q_si (k := 1) (i := 3) (q := (.istore_n 3, 1, 0, 0, .null)) rfl (fun _ => rfl) (by decide) ?_
  have l0_1 : zld (zs1 lv 3 (.int q3.1)) 0 = some (.ref 11) := x_o1 l0 rfl rfl
  have l1_1 : zld (zs1 lv 3 (.int q3.1)) 1 = some (.int v1) := x_o1 l1 rfl rfl
  have l2_1 : zld (zs1 lv 3 (.int q3.1)) 2 = some (.int v2) := x_o1 l2 rfl rfl
  have l3_1 : zld (zs1 lv 3 (.int q3.1)) 3 = some (.int q3.1) := zs1_ld _ _ _
  generalize (zs1 lv 3 (.int q3.1)) = lv1 at *
  refine q_lr (k := 1) (i := 0) (q := (.aload_n 0, 1, 0, 0, .null)) rfl (fun _ => rfl) l0_1 ?_
  refine q_li (k := 1) (i := 2) (q := (.iload_n 2, 1, 0, 0, .null)) rfl (fun _ => rfl) l2_1 ?_
  refine q_li (k := 1) (i := 3) (q := (.iload_n 3, 1, 0, 0, .null)) rfl (fun _ => rfl) l3_1 ?_
  refine r_s (fr' := (12, lv1, [.int 99, .int q3.1, .int v2, .ref 11])) (hp' := xW B q3.2) (q := (.bipush 99, 2, 0, 0, .null)) rfl (fun _ => rfl) (Nat.le_refl _) ?_
  refine q_lr (k := 1) (i := 0) (q := (.aload_n 0, 1, 0, 0, .null)) rfl (fun _ => rfl) l0_1 ?_
  refine q_li (k := 1) (i := 2) (q := (.iload_n 2, 1, 0, 0, .null)) rfl (fun _ => rfl) l2_1 ?_
  refine q_li (k := 1) (i := 3) (q := (.iload_n 3, 1, 0, 0, .null)) rfl (fun _ => rfl) l3_1 ?_
  obtain ⟨q15, h15, h⟩ := xbind h
  refine r_call (ix := 11) (as := [.int v2, .int q3.1]) (rest := [.int 99, .int q3.1, .int v2, .ref 11]) (rv := some (.int q15.1)) (hp' := xW B q15.2) (pc := 15) rfl xr94 rfl rfl rfl (xkd H (by decide)) (Nat.le_of_ble_eq_true rfl) (Z94_11t H h15 (by omega)) (Nat.le_refl _) ?_
  refine r_s (fr' := (19, lv1, [.int 1, .int q15.1, .int 99, .int q3.1, .int v2, .ref 11])) (hp' := xW B q15.2) (q := (.iconst 1, 1, 0, 0, .null)) rfl (fun _ => rfl) (Nat.le_refl _) ?_
  refine r_s (fr' := (20, lv1, [.int (q15.1 + 1), .int 99, .int q3.1, .int v2, .ref 11])) (hp' := xW B q15.2) (q := (.iadd, 1, 0, 0, .null)) rfl (fun _ => rfl) (Nat.le_refl _) ?_
  refine r_s (fr' := (23, lv1, [.int (if (q15.1 + 1) < 99 then (q15.1 + 1) else 99), .int q3.1, .int v2, .ref 11])) (hp' := xW B q15.2) (q := (.invokestatic 80, 3, 0, 3, .null)) rfl (fun _ => rfl) (Nat.le_refl _) ?_
  obtain ⟨q23, h23, h⟩ := xbind h
  refine r_call (ix := 11) (as := [.int v2, .int q3.1, .int (if (q15.1 + 1) < 99 then (q15.1 + 1) else 99)]) (rest := []) (rv := none) (hp' := xW B q23.2) (pc := 23) rfl xr75 rfl rfl rfl (xkd H (by decide)) (Nat.le_of_ble_eq_true rfl) (Z75_11t H h23 (by omega)) (Nat.le_refl _) ?_
  refine q_lr (k := 1) (i := 0) (q := (.aload_n 0, 1, 0, 0, .null)) rfl (fun _ => rfl) l0_1 ?_
  refine q_li (k := 1) (i := 1) (q := (.iload_n 1, 1, 0, 0, .null)) rfl (fun _ => rfl) l1_1 ?_
  refine r_s (fr' := (29, lv1, [.int 4, .int v1, .ref 11])) (hp' := xW B q23.2) (q := (.iconst 4, 1, 0, 0, .null)) rfl (fun _ => rfl) (Nat.le_refl _) ?_
  refine q_lr (k := 1) (i := 0) (q := (.aload_n 0, 1, 0, 0, .null)) rfl (fun _ => rfl) l0_1 ?_
  refine q_li (k := 1) (i := 1) (q := (.iload_n 1, 1, 0, 0, .null)) rfl (fun _ => rfl) l1_1 ?_
  refine r_s (fr' := (32, lv1, [.int 4, .int v1, .ref 11, .int 4, .int v1, .ref 11])) (hp' := xW B q23.2) (q := (.iconst 4, 1, 0, 0, .null)) rfl (fun _ => rfl) (Nat.le_refl _) ?_
  obtain ⟨q32, h32, h⟩ := xbind h
  refine r_call (ix := 11) (as := [.int v1, .int 4]) (rest := [.int 4, .int v1, .ref 11]) (rv := some (.int q32.1)) (hp' := xW B q32.2) (pc := 32) rfl xr87 rfl rfl rfl (xkd H (by decide)) (Nat.le_of_ble_eq_true rfl) (Z87_11t H h32 (by omega)) (Nat.le_refl _) ?_
  refine r_s (fr' := (36, lv1, [.int 1, .int q32.1, .int 4, .int v1, .ref 11])) (hp' := xW B q32.2) (q := (.iconst 1, 1, 0, 0, .null)) rfl (fun _ => rfl) (Nat.le_refl _) ?_
  refine r_s (fr' := (37, lv1, [.int (q32.1 + 1), .int 4, .int v1, .ref 11])) (hp' := xW B q32.2) (q := (.iadd, 1, 0, 0, .null)) rfl (fun _ => rfl) (Nat.le_refl _) ?_
  obtain ⟨q37, h37, h⟩ := xbind h
  refine r_call (ix := 11) (as := [.int v1, .int 4, .int (q32.1 + 1)]) (rest := []) (rv := none) (hp' := xW B q37.2) (pc := 37) rfl xr88 rfl rfl rfl (xkd H (by decide)) (Nat.le_of_ble_eq_true rfl) (Z88_11t H h37 (by omega)) (Nat.le_refl _) ?_
  refine q_lr (k := 1) (i := 0) (q := (.aload_n 0, 1, 0, 0, .null)) rfl (fun _ => rfl) l0_1 ?_
  refine q_li (k := 1) (i := 1) (q := (.iload_n 1, 1, 0, 0, .null)) rfl (fun _ => rfl) l1_1 ?_
  refine r_s (fr' := (43, lv1, [.int 3, .int v1, .ref 11])) (hp' := xW B q37.2) (q := (.iconst 3, 1, 0, 0, .null)) rfl (fun _ => rfl) (Nat.le_refl _) ?_
  refine q_li (k := 1) (i := 2) (q := (.iload_n 2, 1, 0, 0, .null)) rfl (fun _ => rfl) l2_1 ?_
  obtain ⟨q44, h44, h⟩ := xbind h
  refine r_call (ix := 11) (as := [.int v1, .int 3, .int v2]) (rest := []) (rv := none) (hp' := xW B q44.2) (pc := 44) rfl xr88 rfl rfl rfl (xkd H (by decide)) (Nat.le_of_ble_eq_true rfl) (Z88_11t H h44 (by omega)) (Nat.le_refl _) ?_
  obtain rfl := Option.some.inj h
  exact r_ret (q := (.return_, 1, 0, 0, .null)) rfl rfl (fun _ => rfl)
set_option maxRecDepth 20000 in
theorem Z102_11t {B : zHp} (H : yH0 B) {F : Nat} {a1 : Int32} {a2 : Int32} {m : xS} {x : Unit × xS} (h : D102_11t F a1 a2 m = some x) {d : Nat} (hd : 2 ≤ d) : zCan d 102 [.ref 11, .int a1, .int a2] (xW B m) (none, xW B x.2) := by
  obtain ⟨e, rfl⟩ : ∃ e, d = e + 1 := ⟨d - 1, by omega⟩
  refine zCan_body (nL := 4) (rt := none) (cd := zc102) (xg102) ⟨Nat.le_of_ble_eq_true rfl, by decide⟩ (Nat.le_refl _) ?_
  exact T102_11t H hd F rfl rfl rfl h
/-- LentTools$Draws.lendAll -/
def D12_43_11t_62 (F : Nat) (g4 : Int32 → Int32 → xS → Option (Int32 × xS)) (v2 : Int32) (v3 : Int32) (v4 : Int32) (m : xS) : Option (Int32 × xS) :=
  g4 v2 (v3 + Int32.ofInt 1) m
set_option maxRecDepth 20000 in
theorem T12_43_11t_62 {B : zHp} (H : yH0 B) {e : Nat} (he : 4 ≤ e + 1) (F : Nat) (g4 : Int32 → Int32 → xS → Option (Int32 × xS)) (k4 : ∀ {v2 : Int32} {v3 : Int32} {lv : List (Nat × Value)} {m : xS} {x : Int32 × xS}, zld lv 0 = some (.ref 43) → zld lv 1 = some (.ref 11) → zld lv 2 = some (.int v2) → zld lv 3 = some (.int v3) → g4 v2 v3 m = some x → zR none e 5 (some .int) zc12 (4, lv, []) (xW B m) (some (.int x.1), xW B x.2)) {v2 : Int32} {v3 : Int32} {v4 : Int32} {lv : List (Nat × Value)} {m : xS} {x : Int32 × xS} (l0 : zld lv 0 = some (.ref 43)) (l1 : zld lv 1 = some (.ref 11)) (l2 : zld lv 2 = some (.int v2)) (l3 : zld lv 3 = some (.int v3)) (l4 : zld lv 4 = some (.int v4)) (h : D12_43_11t_62 F g4 v2 v3 v4 m = some x) : zR none e 5 (some .int) zc12 (62, lv, []) (xW B m) (some (.int x.1), xW B x.2) := by
  unfold D12_43_11t_62 at h
  refine q_inc (i := 3) (n := 1) (q := (.iinc 3 1, 3, 0, 0, .null)) rfl (fun _ => rfl) l3 (by decide) ?_
  have l0_1 : zld (zs1 lv 3 (.int (v3 + Int32.ofInt 1))) 0 = some (.ref 43) := x_o1 l0 rfl rfl
  have l1_1 : zld (zs1 lv 3 (.int (v3 + Int32.ofInt 1))) 1 = some (.ref 11) := x_o1 l1 rfl rfl
  have l2_1 : zld (zs1 lv 3 (.int (v3 + Int32.ofInt 1))) 2 = some (.int v2) := x_o1 l2 rfl rfl
  have l3_1 : zld (zs1 lv 3 (.int (v3 + Int32.ofInt 1))) 3 = some (.int (v3 + Int32.ofInt 1)) := zs1_ld _ _ _
  have l4_1 : zld (zs1 lv 3 (.int (v3 + Int32.ofInt 1))) 4 = some (.int v4) := x_o1 l4 rfl rfl
  generalize (zs1 lv 3 (.int (v3 + Int32.ofInt 1))) = lv1 at *
  refine r_s (fr' := (4, lv1, [])) (hp' := xW B m) (q := (.goto (-61), 3, 4, 0, .null)) rfl (fun _ => rfl) (Nat.le_refl _) ?_
  exact k4 l0_1 l1_1 l2_1 l3_1 h
def D12_43_11t_4 (F : Nat) : Nat → Int32 → Int32 → xS → Option (Int32 × xS)
  | 0, _, _, _ => none
  | f + 1, v2, v3, m =>
    (D79_11t F m).bind fun q6 =>
      if zcmp .ge v3 q6.1 = true then
        some (v2, q6.2)
      else
        (D11_43 F q6.2).bind fun q13 =>
          (D77_11t F q13.2).bind fun q17 =>
            if (!((q17.1 + 1) == 0)) = true then
              (D77_11t F q17.2).bind fun q28 =>
                if zcmp .ne (q13.1 - q13.1 / (q17.1 + 1) * (q17.1 + 1)) q28.1 = true then
                  (D101_11t F v3 (q13.1 - q13.1 / (q17.1 + 1) * (q17.1 + 1)) q28.2).bind fun q46 =>
                    if zcmp .eq q46.1 0 = true then
                      D12_43_11t_62 F (D12_43_11t_4 F f) v2 v3 (q13.1 - q13.1 / (q17.1 + 1) * (q17.1 + 1)) q46.2
                    else
                      (D102_11t F v3 (q13.1 - q13.1 / (q17.1 + 1) * (q17.1 + 1)) q46.2).bind fun q56 =>
                        D12_43_11t_62 F (D12_43_11t_4 F f) (v2 + Int32.ofInt 1) v3 (q13.1 - q13.1 / (q17.1 + 1) * (q17.1 + 1)) q56.2
                else
                  (D103_11t F v3 q28.2).bind fun q36 =>
                    D12_43_11t_62 F (D12_43_11t_4 F f) v2 v3 (q13.1 - q13.1 / (q17.1 + 1) * (q17.1 + 1)) q36.2
            else none
set_option maxRecDepth 20000 in
theorem T12_43_11t_4 {B : zHp} (H : yH0 B) {e : Nat} (he : 4 ≤ e + 1) (F : Nat) : ∀ (f : Nat) {v2 : Int32} {v3 : Int32} {lv : List (Nat × Value)} {m : xS} {x : Int32 × xS}, zld lv 0 = some (.ref 43) → zld lv 1 = some (.ref 11) → zld lv 2 = some (.int v2) → zld lv 3 = some (.int v3) → D12_43_11t_4 F f v2 v3 m = some x → zR none e 5 (some .int) zc12 (4, lv, []) (xW B m) (some (.int x.1), xW B x.2) := by
  intro f
  induction f with
  | zero => intro v2 v3 lv m x l0 l1 l2 l3 h; cases h
  | succ f ih =>
    intro v2 v3 lv m x l0 l1 l2 l3 h
    unfold D12_43_11t_4 at h
    refine q_li (k := 1) (i := 3) (q := (.iload_n 3, 1, 0, 0, .null)) rfl (fun _ => rfl) l3 ?_
    refine q_lr (k := 1) (i := 1) (q := (.aload_n 1, 1, 0, 0, .null)) rfl (fun _ => rfl) l1 ?_
    obtain ⟨q6, h6, h⟩ := xbind h
    refine r_call (ix := 11) (as := []) (rest := [.int v3]) (rv := some (.int q6.1)) (hp' := xW B q6.2) (pc := 6) rfl xr79 rfl rfl rfl (xkd H (by decide)) (Nat.le_of_ble_eq_true rfl) (Z79_11t H h6 (by omega)) (Nat.le_refl _) ?_
    refine r_ifc (len := 3) (a := 68) (b := 0) (v0 := .null) (cn := .ge) (off := 59) rfl (fun c => ?_) (fun c => ?_)
    · rw [if_pos c] at h
      refine q_li (k := 1) (i := 2) (q := (.iload_n 2, 1, 0, 0, .null)) rfl (fun _ => rfl) l2 ?_
      obtain rfl := Option.some.inj h
      exact q_ri (q := (.ireturn, 1, 0, 0, .null)) rfl (fun _ => rfl) rfl rfl
    · rw [if_neg (by rw [c]; decide)] at h
      refine q_lr (k := 1) (i := 0) (q := (.aload_n 0, 1, 0, 0, .null)) rfl (fun _ => rfl) l0 ?_
      obtain ⟨q13, h13, h⟩ := xbind h
      refine r_call (ix := 43) (as := []) (rest := []) (rv := some (.int q13.1)) (hp' := xW B q13.2) (pc := 13) rfl xr11 rfl rfl rfl (xkd H (by decide)) (Nat.le_of_ble_eq_true rfl) (Z11_43 H h13 (by omega)) (Nat.le_refl _) ?_
      refine q_lr (k := 1) (i := 1) (q := (.aload_n 1, 1, 0, 0, .null)) rfl (fun _ => rfl) l1 ?_
      obtain ⟨q17, h17, h⟩ := xbind h
      refine r_call (ix := 11) (as := []) (rest := [.int q13.1]) (rv := some (.int q17.1)) (hp' := xW B q17.2) (pc := 17) rfl xr77 rfl rfl rfl (xkd H (by decide)) (Nat.le_of_ble_eq_true rfl) (Z77_11t H h17 (by omega)) (Nat.le_refl _) ?_
      refine r_s (fr' := (21, lv, [.int 1, .int q17.1, .int q13.1])) (hp' := xW B q17.2) (q := (.iconst 1, 1, 0, 0, .null)) rfl (fun _ => rfl) (Nat.le_refl _) ?_
      refine r_s (fr' := (22, lv, [.int (q17.1 + 1), .int q13.1])) (hp' := xW B q17.2) (q := (.iadd, 1, 0, 0, .null)) rfl (fun _ => rfl) (Nat.le_refl _) ?_
      obtain ⟨c1, h⟩ := xif h
      refine q_div (f := fun x y => x - x / y * y) (q := (.irem, 1, 0, 0, .null)) rfl (fun _ => rfl) c1 ?_
      refine q_si (k := 2) (i := 4) (q := (.istore 4, 2, 0, 0, .null)) rfl (fun _ => rfl) (by decide) ?_
      have l0_2 : zld (zs1 lv 4 (.int (q13.1 - q13.1 / (q17.1 + 1) * (q17.1 + 1)))) 0 = some (.ref 43) := x_o1 l0 rfl rfl
      have l1_2 : zld (zs1 lv 4 (.int (q13.1 - q13.1 / (q17.1 + 1) * (q17.1 + 1)))) 1 = some (.ref 11) := x_o1 l1 rfl rfl
      have l2_2 : zld (zs1 lv 4 (.int (q13.1 - q13.1 / (q17.1 + 1) * (q17.1 + 1)))) 2 = some (.int v2) := x_o1 l2 rfl rfl
      have l3_2 : zld (zs1 lv 4 (.int (q13.1 - q13.1 / (q17.1 + 1) * (q17.1 + 1)))) 3 = some (.int v3) := x_o1 l3 rfl rfl
      have l4_2 : zld (zs1 lv 4 (.int (q13.1 - q13.1 / (q17.1 + 1) * (q17.1 + 1)))) 4 = some (.int (q13.1 - q13.1 / (q17.1 + 1) * (q17.1 + 1))) := zs1_ld _ _ _
      generalize (zs1 lv 4 (.int (q13.1 - q13.1 / (q17.1 + 1) * (q17.1 + 1)))) = lv2 at *
      refine q_li (k := 2) (i := 4) (q := (.iload 4, 2, 0, 0, .null)) rfl (fun _ => rfl) l4_2 ?_
      refine q_lr (k := 1) (i := 1) (q := (.aload_n 1, 1, 0, 0, .null)) rfl (fun _ => rfl) l1_2 ?_
      obtain ⟨q28, h28, h⟩ := xbind h
      refine r_call (ix := 11) (as := []) (rest := [.int (q13.1 - q13.1 / (q17.1 + 1) * (q17.1 + 1))]) (rv := some (.int q28.1)) (hp' := xW B q28.2) (pc := 28) rfl xr77 rfl rfl rfl (xkd H (by decide)) (Nat.le_of_ble_eq_true rfl) (Z77_11t H h28 (by omega)) (Nat.le_refl _) ?_
      refine r_ifc (len := 3) (a := 42) (b := 0) (v0 := .null) (cn := .ne) (off := 11) rfl (fun c => ?_) (fun c => ?_)
      · rw [if_pos c] at h
        refine q_lr (k := 1) (i := 1) (q := (.aload_n 1, 1, 0, 0, .null)) rfl (fun _ => rfl) l1_2 ?_
        refine q_li (k := 1) (i := 3) (q := (.iload_n 3, 1, 0, 0, .null)) rfl (fun _ => rfl) l3_2 ?_
        refine q_li (k := 2) (i := 4) (q := (.iload 4, 2, 0, 0, .null)) rfl (fun _ => rfl) l4_2 ?_
        obtain ⟨q46, h46, h⟩ := xbind h
        refine r_call (ix := 11) (as := [.int v3, .int (q13.1 - q13.1 / (q17.1 + 1) * (q17.1 + 1))]) (rest := []) (rv := some (.int q46.1)) (hp' := xW B q46.2) (pc := 46) rfl xr101 rfl rfl rfl (xkd H (by decide)) (Nat.le_of_ble_eq_true rfl) (Z101_11t H h46 (by omega)) (Nat.le_refl _) ?_
        refine r_if (len := 3) (a := 62) (b := 0) (v0 := .null) (cn := .eq) (off := 13) rfl (fun c => ?_) (fun c => ?_)
        · rw [if_pos c] at h
          exact T12_43_11t_62 H he F _ ih l0_2 l1_2 l2_2 l3_2 l4_2 h
        · rw [if_neg (by rw [c]; decide)] at h
          refine q_lr (k := 1) (i := 1) (q := (.aload_n 1, 1, 0, 0, .null)) rfl (fun _ => rfl) l1_2 ?_
          refine q_li (k := 1) (i := 3) (q := (.iload_n 3, 1, 0, 0, .null)) rfl (fun _ => rfl) l3_2 ?_
          refine q_li (k := 2) (i := 4) (q := (.iload 4, 2, 0, 0, .null)) rfl (fun _ => rfl) l4_2 ?_
          obtain ⟨q56, h56, h⟩ := xbind h
          refine r_call (ix := 11) (as := [.int v3, .int (q13.1 - q13.1 / (q17.1 + 1) * (q17.1 + 1))]) (rest := []) (rv := none) (hp' := xW B q56.2) (pc := 56) rfl xr102 rfl rfl rfl (xkd H (by decide)) (Nat.le_of_ble_eq_true rfl) (Z102_11t H h56 (by omega)) (Nat.le_refl _) ?_
          refine q_inc (i := 2) (n := 1) (q := (.iinc 2 1, 3, 0, 0, .null)) rfl (fun _ => rfl) l2_2 (by decide) ?_
          have l0_3 : zld (zs1 lv2 2 (.int (v2 + Int32.ofInt 1))) 0 = some (.ref 43) := x_o1 l0_2 rfl rfl
          have l1_3 : zld (zs1 lv2 2 (.int (v2 + Int32.ofInt 1))) 1 = some (.ref 11) := x_o1 l1_2 rfl rfl
          have l2_3 : zld (zs1 lv2 2 (.int (v2 + Int32.ofInt 1))) 2 = some (.int (v2 + Int32.ofInt 1)) := zs1_ld _ _ _
          have l3_3 : zld (zs1 lv2 2 (.int (v2 + Int32.ofInt 1))) 3 = some (.int v3) := x_o1 l3_2 rfl rfl
          have l4_3 : zld (zs1 lv2 2 (.int (v2 + Int32.ofInt 1))) 4 = some (.int (q13.1 - q13.1 / (q17.1 + 1) * (q17.1 + 1))) := x_o1 l4_2 rfl rfl
          generalize (zs1 lv2 2 (.int (v2 + Int32.ofInt 1))) = lv3 at *
          exact T12_43_11t_62 H he F _ ih l0_3 l1_3 l2_3 l3_3 l4_3 h
      · rw [if_neg (by rw [c]; decide)] at h
        refine q_lr (k := 1) (i := 1) (q := (.aload_n 1, 1, 0, 0, .null)) rfl (fun _ => rfl) l1_2 ?_
        refine q_li (k := 1) (i := 3) (q := (.iload_n 3, 1, 0, 0, .null)) rfl (fun _ => rfl) l3_2 ?_
        obtain ⟨q36, h36, h⟩ := xbind h
        refine r_call (ix := 11) (as := [.int v3]) (rest := []) (rv := none) (hp' := xW B q36.2) (pc := 36) rfl xr103 rfl rfl rfl (xkd H (by decide)) (Nat.le_of_ble_eq_true rfl) (Z103_11t H h36 (by omega)) (Nat.le_refl _) ?_
        refine r_s (fr' := (62, lv2, [])) (hp' := xW B q36.2) (q := (.goto 23, 3, 62, 0, .null)) rfl (fun _ => rfl) (Nat.le_refl _) ?_
        exact T12_43_11t_62 H he F _ ih l0_2 l1_2 l2_2 l3_2 l4_2 h
def D12_43_11t (F : Nat) (m : xS) : Option (Int32 × xS) :=
  D12_43_11t_4 F F 0 0 m
set_option maxRecDepth 20000 in
theorem T12_43_11t {B : zHp} (H : yH0 B) {e : Nat} (he : 4 ≤ e + 1) (F : Nat) {lv : List (Nat × Value)} {m : xS} {x : Int32 × xS} (l0 : zld lv 0 = some (.ref 43)) (l1 : zld lv 1 = some (.ref 11)) (h : D12_43_11t F m = some x) : zR none e 5 (some .int) zc12 (0, lv, []) (xW B m) (some (.int x.1), xW B x.2) := by
  unfold D12_43_11t at h
  refine r_s (fr' := (1, lv, [.int 0])) (hp' := xW B m) (q := (.iconst 0, 1, 0, 0, .null)) rfl (fun _ => rfl) (Nat.le_refl _) ?_
  refine q_si (k := 1) (i := 2) (q := (.istore_n 2, 1, 0, 0, .null)) rfl (fun _ => rfl) (by decide) ?_
  have l0_1 : zld (zs1 lv 2 (.int 0)) 0 = some (.ref 43) := x_o1 l0 rfl rfl
  have l1_1 : zld (zs1 lv 2 (.int 0)) 1 = some (.ref 11) := x_o1 l1 rfl rfl
  have l2_1 : zld (zs1 lv 2 (.int 0)) 2 = some (.int 0) := zs1_ld _ _ _
  generalize (zs1 lv 2 (.int 0)) = lv1 at *
  refine r_s (fr' := (3, lv1, [.int 0])) (hp' := xW B m) (q := (.iconst 0, 1, 0, 0, .null)) rfl (fun _ => rfl) (Nat.le_refl _) ?_
  refine q_si (k := 1) (i := 3) (q := (.istore_n 3, 1, 0, 0, .null)) rfl (fun _ => rfl) (by decide) ?_
  have l0_2 : zld (zs1 lv1 3 (.int 0)) 0 = some (.ref 43) := x_o1 l0_1 rfl rfl
  have l1_2 : zld (zs1 lv1 3 (.int 0)) 1 = some (.ref 11) := x_o1 l1_1 rfl rfl
  have l2_2 : zld (zs1 lv1 3 (.int 0)) 2 = some (.int 0) := x_o1 l2_1 rfl rfl
  have l3_2 : zld (zs1 lv1 3 (.int 0)) 3 = some (.int 0) := zs1_ld _ _ _
  generalize (zs1 lv1 3 (.int 0)) = lv2 at *
  exact T12_43_11t_4 H he F F l0_2 l1_2 l2_2 l3_2 h
set_option maxRecDepth 20000 in
theorem Z12_43_11t {B : zHp} (H : yH0 B) {F : Nat} {m : xS} {x : Int32 × xS} (h : D12_43_11t F m = some x) {d : Nat} (hd : 4 ≤ d) : zCan d 12 [.ref 43, .ref 11] (xW B m) (some (.int x.1), xW B x.2) := by
  obtain ⟨e, rfl⟩ : ∃ e, d = e + 1 := ⟨d - 1, by omega⟩
  refine zCan_body (nL := 5) (rt := (some .int)) (cd := zc12) (xg12) ⟨Nat.le_of_ble_eq_true rfl, by decide⟩ (Nat.le_refl _) ?_
  exact T12_43_11t H hd F rfl rfl h
/-- LentTools$Village.works -/
def D80_11t (F : Nat) (m : xS) : Option (Int32 × xS) :=
  some ((m.1 12 3), m)
set_option maxRecDepth 20000 in
theorem T80_11t {B : zHp} (H : yH0 B) {e : Nat} (he : 1 ≤ e + 1) (F : Nat) {lv : List (Nat × Value)} {m : xS} {x : Int32 × xS} (l0 : zld lv 0 = some (.ref 11)) (h : D80_11t F m = some x) : zR none e 1 (some .int) zc80 (0, lv, []) (xW B m) (some (.int x.1), xW B x.2) := by
  unfold D80_11t at h
  refine q_lr (k := 1) (i := 0) (q := (.aload_n 0, 1, 0, 0, .null)) rfl (fun _ => rfl) l0 ?_
  refine r_gr (c := 12) H (pc := 1) rfl (by decide) (by decide) ?_
  refine r_s (fr' := (5, lv, [.int 3, .ref 12])) (hp' := xW B m) (q := (.iconst 3, 1, 0, 0, .null)) rfl (fun _ => rfl) (Nat.le_refl _) ?_
  refine q_al (n := 114) (v := (m.1 12 3)) H (pc := 5) rfl (by decide) (by decide) rfl ?_
  obtain rfl := Option.some.inj h
  exact q_ri (q := (.ireturn, 1, 0, 0, .null)) rfl (fun _ => rfl) rfl rfl
set_option maxRecDepth 20000 in
theorem Z80_11t {B : zHp} (H : yH0 B) {F : Nat} {m : xS} {x : Int32 × xS} (h : D80_11t F m = some x) {d : Nat} (hd : 1 ≤ d) : zCan d 80 [.ref 11] (xW B m) (some (.int x.1), xW B x.2) := by
  obtain ⟨e, rfl⟩ : ∃ e, d = e + 1 := ⟨d - 1, by omega⟩
  refine zCan_body (nL := 1) (rt := (some .int)) (cd := zc80) (xg80) ⟨Nat.le_of_ble_eq_true rfl, by decide⟩ (Nat.le_refl _) ?_
  exact T80_11t H hd F rfl h
/-- LentTools$Village.ofWork -/
def D89_11t (F : Nat) (v1 : Int32) (v2 : Int32) (m : xS) : Option (Int32 × xS) :=
  if xib ((42 + (6 * v2)) + v1) 114 = true then
    some ((m.1 12 (((42 + (6 * v2)) + v1) : Int32).toNatClampNeg), m)
  else none
set_option maxRecDepth 20000 in
theorem T89_11t {B : zHp} (H : yH0 B) {e : Nat} (he : 1 ≤ e + 1) (F : Nat) {v1 : Int32} {v2 : Int32} {lv : List (Nat × Value)} {m : xS} {x : Int32 × xS} (l0 : zld lv 0 = some (.ref 11)) (l1 : zld lv 1 = some (.int v1)) (l2 : zld lv 2 = some (.int v2)) (h : D89_11t F v1 v2 m = some x) : zR none e 3 (some .int) zc89 (0, lv, []) (xW B m) (some (.int x.1), xW B x.2) := by
  unfold D89_11t at h
  refine q_lr (k := 1) (i := 0) (q := (.aload_n 0, 1, 0, 0, .null)) rfl (fun _ => rfl) l0 ?_
  refine r_gr (c := 12) H (pc := 1) rfl (by decide) (by decide) ?_
  refine r_s (fr' := (6, lv, [.int 42, .ref 12])) (hp' := xW B m) (q := (.bipush 42, 2, 0, 0, .null)) rfl (fun _ => rfl) (Nat.le_refl _) ?_
  refine r_s (fr' := (8, lv, [.int 6, .int 42, .ref 12])) (hp' := xW B m) (q := (.bipush 6, 2, 0, 0, .null)) rfl (fun _ => rfl) (Nat.le_refl _) ?_
  refine q_li (k := 1) (i := 2) (q := (.iload_n 2, 1, 0, 0, .null)) rfl (fun _ => rfl) l2 ?_
  refine r_s (fr' := (10, lv, [.int (6 * v2), .int 42, .ref 12])) (hp' := xW B m) (q := (.imul, 1, 0, 0, .null)) rfl (fun _ => rfl) (Nat.le_refl _) ?_
  refine r_s (fr' := (11, lv, [.int (42 + (6 * v2)), .ref 12])) (hp' := xW B m) (q := (.iadd, 1, 0, 0, .null)) rfl (fun _ => rfl) (Nat.le_refl _) ?_
  refine q_li (k := 1) (i := 1) (q := (.iload_n 1, 1, 0, 0, .null)) rfl (fun _ => rfl) l1 ?_
  refine r_s (fr' := (13, lv, [.int ((42 + (6 * v2)) + v1), .ref 12])) (hp' := xW B m) (q := (.iadd, 1, 0, 0, .null)) rfl (fun _ => rfl) (Nat.le_refl _) ?_
  obtain ⟨c1, h⟩ := xif h
  refine q_al (n := 114) (v := (m.1 12 (((42 + (6 * v2)) + v1) : Int32).toNatClampNeg)) H (pc := 13) rfl (by decide) c1 rfl ?_
  obtain rfl := Option.some.inj h
  exact q_ri (q := (.ireturn, 1, 0, 0, .null)) rfl (fun _ => rfl) rfl rfl
set_option maxRecDepth 20000 in
theorem Z89_11t {B : zHp} (H : yH0 B) {F : Nat} {a1 : Int32} {a2 : Int32} {m : xS} {x : Int32 × xS} (h : D89_11t F a1 a2 m = some x) {d : Nat} (hd : 1 ≤ d) : zCan d 89 [.ref 11, .int a1, .int a2] (xW B m) (some (.int x.1), xW B x.2) := by
  obtain ⟨e, rfl⟩ : ∃ e, d = e + 1 := ⟨d - 1, by omega⟩
  refine zCan_body (nL := 3) (rt := (some .int)) (cd := zc89) (xg89) ⟨Nat.le_of_ble_eq_true rfl, by decide⟩ (Nat.le_refl _) ?_
  exact T89_11t H hd F rfl rfl rfl h
/-- LentTools$Village.isDone -/
def D106_11t (F : Nat) (v1 : Int32) (m : xS) : Option (Int32 × xS) :=
  (D89_11t F v1 4 m).bind fun q3 =>
    if zcmp .eq q3.1 (-1) = true then
      some (0, q3.2)
    else
      some (1, q3.2)
set_option maxRecDepth 20000 in
theorem T106_11t {B : zHp} (H : yH0 B) {e : Nat} (he : 2 ≤ e + 1) (F : Nat) {v1 : Int32} {lv : List (Nat × Value)} {m : xS} {x : Int32 × xS} (l0 : zld lv 0 = some (.ref 11)) (l1 : zld lv 1 = some (.int v1)) (h : D106_11t F v1 m = some x) : zR none e 2 (some .boolean) zc106 (0, lv, []) (xW B m) (some (.int x.1), xW B x.2) := by
  unfold D106_11t at h
  refine q_lr (k := 1) (i := 0) (q := (.aload_n 0, 1, 0, 0, .null)) rfl (fun _ => rfl) l0 ?_
  refine q_li (k := 1) (i := 1) (q := (.iload_n 1, 1, 0, 0, .null)) rfl (fun _ => rfl) l1 ?_
  refine r_s (fr' := (3, lv, [.int 4, .int v1, .ref 11])) (hp' := xW B m) (q := (.iconst 4, 1, 0, 0, .null)) rfl (fun _ => rfl) (Nat.le_refl _) ?_
  obtain ⟨q3, h3, h⟩ := xbind h
  refine r_call (ix := 11) (as := [.int v1, .int 4]) (rest := []) (rv := some (.int q3.1)) (hp' := xW B q3.2) (pc := 3) rfl xr89 rfl rfl rfl (xkd H (by decide)) (Nat.le_of_ble_eq_true rfl) (Z89_11t H h3 (by omega)) (Nat.le_refl _) ?_
  refine r_s (fr' := (7, lv, [.int (-1), .int q3.1])) (hp' := xW B q3.2) (q := (.iconst (-1), 1, 0, 0, .null)) rfl (fun _ => rfl) (Nat.le_refl _) ?_
  refine r_ifc (len := 3) (a := 14) (b := 0) (v0 := .null) (cn := .eq) (off := 7) rfl (fun c => ?_) (fun c => ?_)
  · rw [if_pos c] at h
    refine r_s (fr' := (15, lv, [.int 0])) (hp' := xW B q3.2) (q := (.iconst 0, 1, 0, 0, .null)) rfl (fun _ => rfl) (Nat.le_refl _) ?_
    obtain rfl := Option.some.inj h
    exact q_ri (q := (.ireturn, 1, 0, 0, .null)) rfl (fun _ => rfl) rfl rfl
  · rw [if_neg (by rw [c]; decide)] at h
    refine r_s (fr' := (11, lv, [.int 1])) (hp' := xW B q3.2) (q := (.iconst 1, 1, 0, 0, .null)) rfl (fun _ => rfl) (Nat.le_refl _) ?_
    refine r_s (fr' := (15, lv, [.int 1])) (hp' := xW B q3.2) (q := (.goto 4, 3, 15, 0, .null)) rfl (fun _ => rfl) (Nat.le_refl _) ?_
    obtain rfl := Option.some.inj h
    exact q_ri (q := (.ireturn, 1, 0, 0, .null)) rfl (fun _ => rfl) rfl rfl
set_option maxRecDepth 20000 in
theorem Z106_11t {B : zHp} (H : yH0 B) {F : Nat} {a1 : Int32} {m : xS} {x : Int32 × xS} (h : D106_11t F a1 m = some x) {d : Nat} (hd : 2 ≤ d) : zCan d 106 [.ref 11, .int a1] (xW B m) (some (.int x.1), xW B x.2) := by
  obtain ⟨e, rfl⟩ : ∃ e, d = e + 1 := ⟨d - 1, by omega⟩
  refine zCan_body (nL := 2) (rt := (some .boolean)) (cd := zc106) (xg106) ⟨Nat.le_of_ble_eq_true rfl, by decide⟩ (Nat.le_refl _) ?_
  exact T106_11t H hd F rfl rfl h
/-- LentTools$Village.isHome -/
def D97_11t (F : Nat) (v1 : Int32) (m : xS) : Option (Int32 × xS) :=
  (D87_11t F v1 3 m).bind fun q3 =>
    (D87_11t F v1 0 q3.2).bind fun q9 =>
      if zcmp .ne q3.1 q9.1 = true then
        some (0, q9.2)
      else
        some (1, q9.2)
set_option maxRecDepth 20000 in
theorem T97_11t {B : zHp} (H : yH0 B) {e : Nat} (he : 2 ≤ e + 1) (F : Nat) {v1 : Int32} {lv : List (Nat × Value)} {m : xS} {x : Int32 × xS} (l0 : zld lv 0 = some (.ref 11)) (l1 : zld lv 1 = some (.int v1)) (h : D97_11t F v1 m = some x) : zR none e 2 (some .boolean) zc97 (0, lv, []) (xW B m) (some (.int x.1), xW B x.2) := by
  unfold D97_11t at h
  refine q_lr (k := 1) (i := 0) (q := (.aload_n 0, 1, 0, 0, .null)) rfl (fun _ => rfl) l0 ?_
  refine q_li (k := 1) (i := 1) (q := (.iload_n 1, 1, 0, 0, .null)) rfl (fun _ => rfl) l1 ?_
  refine r_s (fr' := (3, lv, [.int 3, .int v1, .ref 11])) (hp' := xW B m) (q := (.iconst 3, 1, 0, 0, .null)) rfl (fun _ => rfl) (Nat.le_refl _) ?_
  obtain ⟨q3, h3, h⟩ := xbind h
  refine r_call (ix := 11) (as := [.int v1, .int 3]) (rest := []) (rv := some (.int q3.1)) (hp' := xW B q3.2) (pc := 3) rfl xr87 rfl rfl rfl (xkd H (by decide)) (Nat.le_of_ble_eq_true rfl) (Z87_11t H h3 (by omega)) (Nat.le_refl _) ?_
  refine q_lr (k := 1) (i := 0) (q := (.aload_n 0, 1, 0, 0, .null)) rfl (fun _ => rfl) l0 ?_
  refine q_li (k := 1) (i := 1) (q := (.iload_n 1, 1, 0, 0, .null)) rfl (fun _ => rfl) l1 ?_
  refine r_s (fr' := (9, lv, [.int 0, .int v1, .ref 11, .int q3.1])) (hp' := xW B q3.2) (q := (.iconst 0, 1, 0, 0, .null)) rfl (fun _ => rfl) (Nat.le_refl _) ?_
  obtain ⟨q9, h9, h⟩ := xbind h
  refine r_call (ix := 11) (as := [.int v1, .int 0]) (rest := [.int q3.1]) (rv := some (.int q9.1)) (hp' := xW B q9.2) (pc := 9) rfl xr87 rfl rfl rfl (xkd H (by decide)) (Nat.le_of_ble_eq_true rfl) (Z87_11t H h9 (by omega)) (Nat.le_refl _) ?_
  refine r_ifc (len := 3) (a := 19) (b := 0) (v0 := .null) (cn := .ne) (off := 7) rfl (fun c => ?_) (fun c => ?_)
  · rw [if_pos c] at h
    refine r_s (fr' := (20, lv, [.int 0])) (hp' := xW B q9.2) (q := (.iconst 0, 1, 0, 0, .null)) rfl (fun _ => rfl) (Nat.le_refl _) ?_
    obtain rfl := Option.some.inj h
    exact q_ri (q := (.ireturn, 1, 0, 0, .null)) rfl (fun _ => rfl) rfl rfl
  · rw [if_neg (by rw [c]; decide)] at h
    refine r_s (fr' := (16, lv, [.int 1])) (hp' := xW B q9.2) (q := (.iconst 1, 1, 0, 0, .null)) rfl (fun _ => rfl) (Nat.le_refl _) ?_
    refine r_s (fr' := (20, lv, [.int 1])) (hp' := xW B q9.2) (q := (.goto 4, 3, 20, 0, .null)) rfl (fun _ => rfl) (Nat.le_refl _) ?_
    obtain rfl := Option.some.inj h
    exact q_ri (q := (.ireturn, 1, 0, 0, .null)) rfl (fun _ => rfl) rfl rfl
set_option maxRecDepth 20000 in
theorem Z97_11t {B : zHp} (H : yH0 B) {F : Nat} {a1 : Int32} {m : xS} {x : Int32 × xS} (h : D97_11t F a1 m = some x) {d : Nat} (hd : 2 ≤ d) : zCan d 97 [.ref 11, .int a1] (xW B m) (some (.int x.1), xW B x.2) := by
  obtain ⟨e, rfl⟩ : ∃ e, d = e + 1 := ⟨d - 1, by omega⟩
  refine zCan_body (nL := 2) (rt := (some .boolean)) (cd := zc97) (xg97) ⟨Nat.le_of_ble_eq_true rfl, by decide⟩ (Nat.le_refl _) ?_
  exact T97_11t H hd F rfl rfl h
/-- LentTools$Village.late -/
def D78_11t (F : Nat) (m : xS) : Option (Int32 × xS) :=
  some ((m.1 12 1), m)
set_option maxRecDepth 20000 in
theorem T78_11t {B : zHp} (H : yH0 B) {e : Nat} (he : 1 ≤ e + 1) (F : Nat) {lv : List (Nat × Value)} {m : xS} {x : Int32 × xS} (l0 : zld lv 0 = some (.ref 11)) (h : D78_11t F m = some x) : zR none e 1 (some .int) zc78 (0, lv, []) (xW B m) (some (.int x.1), xW B x.2) := by
  unfold D78_11t at h
  refine q_lr (k := 1) (i := 0) (q := (.aload_n 0, 1, 0, 0, .null)) rfl (fun _ => rfl) l0 ?_
  refine r_gr (c := 12) H (pc := 1) rfl (by decide) (by decide) ?_
  refine r_s (fr' := (5, lv, [.int 1, .ref 12])) (hp' := xW B m) (q := (.iconst 1, 1, 0, 0, .null)) rfl (fun _ => rfl) (Nat.le_refl _) ?_
  refine q_al (n := 114) (v := (m.1 12 1)) H (pc := 5) rfl (by decide) (by decide) rfl ?_
  obtain rfl := Option.some.inj h
  exact q_ri (q := (.ireturn, 1, 0, 0, .null)) rfl (fun _ => rfl) rfl rfl
set_option maxRecDepth 20000 in
theorem Z78_11t {B : zHp} (H : yH0 B) {F : Nat} {m : xS} {x : Int32 × xS} (h : D78_11t F m = some x) {d : Nat} (hd : 1 ≤ d) : zCan d 78 [.ref 11] (xW B m) (some (.int x.1), xW B x.2) := by
  obtain ⟨e, rfl⟩ : ∃ e, d = e + 1 := ⟨d - 1, by omega⟩
  refine zCan_body (nL := 1) (rt := (some .int)) (cd := zc78) (xg78) ⟨Nat.le_of_ble_eq_true rfl, by decide⟩ (Nat.le_refl _) ?_
  exact T78_11t H hd F rfl h
/-- LentTools$Village.rustOf -/
def D98_11t (F : Nat) (v1 : Int32) (m : xS) : Option (Int32 × xS) :=
  (D87_11t F v1 5 m).bind fun q4 =>
    (D78_11t F q4.2).bind fun q8 =>
      some ((if 0 < (q4.1 - q8.1) then (q4.1 - q8.1) else 0), q8.2)
set_option maxRecDepth 20000 in
theorem T98_11t {B : zHp} (H : yH0 B) {e : Nat} (he : 2 ≤ e + 1) (F : Nat) {v1 : Int32} {lv : List (Nat × Value)} {m : xS} {x : Int32 × xS} (l0 : zld lv 0 = some (.ref 11)) (l1 : zld lv 1 = some (.int v1)) (h : D98_11t F v1 m = some x) : zR none e 2 (some .int) zc98 (0, lv, []) (xW B m) (some (.int x.1), xW B x.2) := by
  unfold D98_11t at h
  refine r_s (fr' := (1, lv, [.int 0])) (hp' := xW B m) (q := (.iconst 0, 1, 0, 0, .null)) rfl (fun _ => rfl) (Nat.le_refl _) ?_
  refine q_lr (k := 1) (i := 0) (q := (.aload_n 0, 1, 0, 0, .null)) rfl (fun _ => rfl) l0 ?_
  refine q_li (k := 1) (i := 1) (q := (.iload_n 1, 1, 0, 0, .null)) rfl (fun _ => rfl) l1 ?_
  refine r_s (fr' := (4, lv, [.int 5, .int v1, .ref 11, .int 0])) (hp' := xW B m) (q := (.iconst 5, 1, 0, 0, .null)) rfl (fun _ => rfl) (Nat.le_refl _) ?_
  obtain ⟨q4, h4, h⟩ := xbind h
  refine r_call (ix := 11) (as := [.int v1, .int 5]) (rest := [.int 0]) (rv := some (.int q4.1)) (hp' := xW B q4.2) (pc := 4) rfl xr87 rfl rfl rfl (xkd H (by decide)) (Nat.le_of_ble_eq_true rfl) (Z87_11t H h4 (by omega)) (Nat.le_refl _) ?_
  refine q_lr (k := 1) (i := 0) (q := (.aload_n 0, 1, 0, 0, .null)) rfl (fun _ => rfl) l0 ?_
  obtain ⟨q8, h8, h⟩ := xbind h
  refine r_call (ix := 11) (as := []) (rest := [.int q4.1, .int 0]) (rv := some (.int q8.1)) (hp' := xW B q8.2) (pc := 8) rfl xr78 rfl rfl rfl (xkd H (by decide)) (Nat.le_of_ble_eq_true rfl) (Z78_11t H h8 (by omega)) (Nat.le_refl _) ?_
  refine r_s (fr' := (12, lv, [.int (q4.1 - q8.1), .int 0])) (hp' := xW B q8.2) (q := (.isub, 1, 0, 0, .null)) rfl (fun _ => rfl) (Nat.le_refl _) ?_
  refine r_s (fr' := (15, lv, [.int (if 0 < (q4.1 - q8.1) then (q4.1 - q8.1) else 0)])) (hp' := xW B q8.2) (q := (.invokestatic 66, 3, 0, 2, .null)) rfl (fun _ => rfl) (Nat.le_refl _) ?_
  obtain rfl := Option.some.inj h
  exact q_ri (q := (.ireturn, 1, 0, 0, .null)) rfl (fun _ => rfl) rfl rfl
set_option maxRecDepth 20000 in
theorem Z98_11t {B : zHp} (H : yH0 B) {F : Nat} {a1 : Int32} {m : xS} {x : Int32 × xS} (h : D98_11t F a1 m = some x) {d : Nat} (hd : 2 ≤ d) : zCan d 98 [.ref 11, .int a1] (xW B m) (some (.int x.1), xW B x.2) := by
  obtain ⟨e, rfl⟩ : ∃ e, d = e + 1 := ⟨d - 1, by omega⟩
  refine zCan_body (nL := 2) (rt := (some .int)) (cd := zc98) (xg98) ⟨Nat.le_of_ble_eq_true rfl, by decide⟩ (Nat.le_refl _) ?_
  exact T98_11t H hd F rfl rfl h
/-- LentTools$Village.sharpAfter -/
def D100_11t_14 (F : Nat) (v1 : Int32) (v2 : Int32) (m : xS) : Option (Int32 × xS) :=
  (D87_11t F v1 2 m).bind fun q18 =>
    (D87_11t F v1 4 q18.2).bind fun q24 =>
      (D98_11t F v1 q24.2).bind fun q32 =>
        some ((if 0 < (((q18.1 + q24.1) + v2) - q32.1) then (((q18.1 + q24.1) + v2) - q32.1) else 0), q32.2)
set_option maxRecDepth 20000 in
theorem T100_11t_14 {B : zHp} (H : yH0 B) {e : Nat} (he : 3 ≤ e + 1) (F : Nat) {v1 : Int32} {v2 : Int32} {lv : List (Nat × Value)} {m : xS} {x : Int32 × xS} (l0 : zld lv 0 = some (.ref 11)) (l1 : zld lv 1 = some (.int v1)) (l2 : zld lv 2 = some (.int v2)) (h : D100_11t_14 F v1 v2 m = some x) : zR none e 3 (some .int) zc100 (14, lv, []) (xW B m) (some (.int x.1), xW B x.2) := by
  unfold D100_11t_14 at h
  refine r_s (fr' := (15, lv, [.int 0])) (hp' := xW B m) (q := (.iconst 0, 1, 0, 0, .null)) rfl (fun _ => rfl) (Nat.le_refl _) ?_
  refine q_lr (k := 1) (i := 0) (q := (.aload_n 0, 1, 0, 0, .null)) rfl (fun _ => rfl) l0 ?_
  refine q_li (k := 1) (i := 1) (q := (.iload_n 1, 1, 0, 0, .null)) rfl (fun _ => rfl) l1 ?_
  refine r_s (fr' := (18, lv, [.int 2, .int v1, .ref 11, .int 0])) (hp' := xW B m) (q := (.iconst 2, 1, 0, 0, .null)) rfl (fun _ => rfl) (Nat.le_refl _) ?_
  obtain ⟨q18, h18, h⟩ := xbind h
  refine r_call (ix := 11) (as := [.int v1, .int 2]) (rest := [.int 0]) (rv := some (.int q18.1)) (hp' := xW B q18.2) (pc := 18) rfl xr87 rfl rfl rfl (xkd H (by decide)) (Nat.le_of_ble_eq_true rfl) (Z87_11t H h18 (by omega)) (Nat.le_refl _) ?_
  refine q_lr (k := 1) (i := 0) (q := (.aload_n 0, 1, 0, 0, .null)) rfl (fun _ => rfl) l0 ?_
  refine q_li (k := 1) (i := 1) (q := (.iload_n 1, 1, 0, 0, .null)) rfl (fun _ => rfl) l1 ?_
  refine r_s (fr' := (24, lv, [.int 4, .int v1, .ref 11, .int q18.1, .int 0])) (hp' := xW B q18.2) (q := (.iconst 4, 1, 0, 0, .null)) rfl (fun _ => rfl) (Nat.le_refl _) ?_
  obtain ⟨q24, h24, h⟩ := xbind h
  refine r_call (ix := 11) (as := [.int v1, .int 4]) (rest := [.int q18.1, .int 0]) (rv := some (.int q24.1)) (hp' := xW B q24.2) (pc := 24) rfl xr87 rfl rfl rfl (xkd H (by decide)) (Nat.le_of_ble_eq_true rfl) (Z87_11t H h24 (by omega)) (Nat.le_refl _) ?_
  refine r_s (fr' := (28, lv, [.int (q18.1 + q24.1), .int 0])) (hp' := xW B q24.2) (q := (.iadd, 1, 0, 0, .null)) rfl (fun _ => rfl) (Nat.le_refl _) ?_
  refine q_li (k := 1) (i := 2) (q := (.iload_n 2, 1, 0, 0, .null)) rfl (fun _ => rfl) l2 ?_
  refine r_s (fr' := (30, lv, [.int ((q18.1 + q24.1) + v2), .int 0])) (hp' := xW B q24.2) (q := (.iadd, 1, 0, 0, .null)) rfl (fun _ => rfl) (Nat.le_refl _) ?_
  refine q_lr (k := 1) (i := 0) (q := (.aload_n 0, 1, 0, 0, .null)) rfl (fun _ => rfl) l0 ?_
  refine q_li (k := 1) (i := 1) (q := (.iload_n 1, 1, 0, 0, .null)) rfl (fun _ => rfl) l1 ?_
  obtain ⟨q32, h32, h⟩ := xbind h
  refine r_call (ix := 11) (as := [.int v1]) (rest := [.int ((q18.1 + q24.1) + v2), .int 0]) (rv := some (.int q32.1)) (hp' := xW B q32.2) (pc := 32) rfl xr98 rfl rfl rfl (xkd H (by decide)) (Nat.le_of_ble_eq_true rfl) (Z98_11t H h32 (by omega)) (Nat.le_refl _) ?_
  refine r_s (fr' := (36, lv, [.int (((q18.1 + q24.1) + v2) - q32.1), .int 0])) (hp' := xW B q32.2) (q := (.isub, 1, 0, 0, .null)) rfl (fun _ => rfl) (Nat.le_refl _) ?_
  refine r_s (fr' := (39, lv, [.int (if 0 < (((q18.1 + q24.1) + v2) - q32.1) then (((q18.1 + q24.1) + v2) - q32.1) else 0)])) (hp' := xW B q32.2) (q := (.invokestatic 66, 3, 0, 2, .null)) rfl (fun _ => rfl) (Nat.le_refl _) ?_
  obtain rfl := Option.some.inj h
  exact q_ri (q := (.ireturn, 1, 0, 0, .null)) rfl (fun _ => rfl) rfl rfl
def D100_11t (F : Nat) (v1 : Int32) (v2 : Int32) (m : xS) : Option (Int32 × xS) :=
  if zcmp .ne v2 0 = true then
    D100_11t_14 F v1 v2 m
  else
    (D97_11t F v1 m).bind fun q6 =>
      if zcmp .eq q6.1 0 = true then
        D100_11t_14 F v1 v2 q6.2
      else
        some (0, q6.2)
set_option maxRecDepth 20000 in
theorem T100_11t {B : zHp} (H : yH0 B) {e : Nat} (he : 3 ≤ e + 1) (F : Nat) {v1 : Int32} {v2 : Int32} {lv : List (Nat × Value)} {m : xS} {x : Int32 × xS} (l0 : zld lv 0 = some (.ref 11)) (l1 : zld lv 1 = some (.int v1)) (l2 : zld lv 2 = some (.int v2)) (h : D100_11t F v1 v2 m = some x) : zR none e 3 (some .int) zc100 (0, lv, []) (xW B m) (some (.int x.1), xW B x.2) := by
  unfold D100_11t at h
  refine q_li (k := 1) (i := 2) (q := (.iload_n 2, 1, 0, 0, .null)) rfl (fun _ => rfl) l2 ?_
  refine r_if (len := 3) (a := 14) (b := 0) (v0 := .null) (cn := .ne) (off := 13) rfl (fun c => ?_) (fun c => ?_)
  · rw [if_pos c] at h
    exact T100_11t_14 H he F l0 l1 l2 h
  · rw [if_neg (by rw [c]; decide)] at h
    refine q_lr (k := 1) (i := 0) (q := (.aload_n 0, 1, 0, 0, .null)) rfl (fun _ => rfl) l0 ?_
    refine q_li (k := 1) (i := 1) (q := (.iload_n 1, 1, 0, 0, .null)) rfl (fun _ => rfl) l1 ?_
    obtain ⟨q6, h6, h⟩ := xbind h
    refine r_call (ix := 11) (as := [.int v1]) (rest := []) (rv := some (.int q6.1)) (hp' := xW B q6.2) (pc := 6) rfl xr97 rfl rfl rfl (xkd H (by decide)) (Nat.le_of_ble_eq_true rfl) (Z97_11t H h6 (by omega)) (Nat.le_refl _) ?_
    refine r_if (len := 3) (a := 14) (b := 0) (v0 := .null) (cn := .eq) (off := 5) rfl (fun c => ?_) (fun c => ?_)
    · rw [if_pos c] at h
      exact T100_11t_14 H he F l0 l1 l2 h
    · rw [if_neg (by rw [c]; decide)] at h
      refine r_s (fr' := (13, lv, [.int 0])) (hp' := xW B q6.2) (q := (.iconst 0, 1, 0, 0, .null)) rfl (fun _ => rfl) (Nat.le_refl _) ?_
      obtain rfl := Option.some.inj h
      exact q_ri (q := (.ireturn, 1, 0, 0, .null)) rfl (fun _ => rfl) rfl rfl
set_option maxRecDepth 20000 in
theorem Z100_11t {B : zHp} (H : yH0 B) {F : Nat} {a1 : Int32} {a2 : Int32} {m : xS} {x : Int32 × xS} (h : D100_11t F a1 a2 m = some x) {d : Nat} (hd : 3 ≤ d) : zCan d 100 [.ref 11, .int a1, .int a2] (xW B m) (some (.int x.1), xW B x.2) := by
  obtain ⟨e, rfl⟩ : ∃ e, d = e + 1 := ⟨d - 1, by omega⟩
  refine zCan_body (nL := 3) (rt := (some .int)) (cd := zc100) (xg100) ⟨Nat.le_of_ble_eq_true rfl, by decide⟩ (Nat.le_refl _) ?_
  exact T100_11t H hd F rfl rfl rfl h
/-- LentTools$Village.sharpOf -/
def D99_11t (F : Nat) (v1 : Int32) (m : xS) : Option (Int32 × xS) :=
  (D100_11t F v1 0 m).bind fun q3 =>
    some (q3.1, q3.2)
set_option maxRecDepth 20000 in
theorem T99_11t {B : zHp} (H : yH0 B) {e : Nat} (he : 4 ≤ e + 1) (F : Nat) {v1 : Int32} {lv : List (Nat × Value)} {m : xS} {x : Int32 × xS} (l0 : zld lv 0 = some (.ref 11)) (l1 : zld lv 1 = some (.int v1)) (h : D99_11t F v1 m = some x) : zR none e 2 (some .int) zc99 (0, lv, []) (xW B m) (some (.int x.1), xW B x.2) := by
  unfold D99_11t at h
  refine q_lr (k := 1) (i := 0) (q := (.aload_n 0, 1, 0, 0, .null)) rfl (fun _ => rfl) l0 ?_
  refine q_li (k := 1) (i := 1) (q := (.iload_n 1, 1, 0, 0, .null)) rfl (fun _ => rfl) l1 ?_
  refine r_s (fr' := (3, lv, [.int 0, .int v1, .ref 11])) (hp' := xW B m) (q := (.iconst 0, 1, 0, 0, .null)) rfl (fun _ => rfl) (Nat.le_refl _) ?_
  obtain ⟨q3, h3, h⟩ := xbind h
  refine r_call (ix := 11) (as := [.int v1, .int 0]) (rest := []) (rv := some (.int q3.1)) (hp' := xW B q3.2) (pc := 3) rfl xr100 rfl rfl rfl (xkd H (by decide)) (Nat.le_of_ble_eq_true rfl) (Z100_11t H h3 (by omega)) (Nat.le_refl _) ?_
  obtain rfl := Option.some.inj h
  exact q_ri (q := (.ireturn, 1, 0, 0, .null)) rfl (fun _ => rfl) rfl rfl
set_option maxRecDepth 20000 in
theorem Z99_11t {B : zHp} (H : yH0 B) {F : Nat} {a1 : Int32} {m : xS} {x : Int32 × xS} (h : D99_11t F a1 m = some x) {d : Nat} (hd : 4 ≤ d) : zCan d 99 [.ref 11, .int a1] (xW B m) (some (.int x.1), xW B x.2) := by
  obtain ⟨e, rfl⟩ : ∃ e, d = e + 1 := ⟨d - 1, by omega⟩
  refine zCan_body (nL := 2) (rt := (some .int)) (cd := zc99) (xg99) ⟨Nat.le_of_ble_eq_true rfl, by decide⟩ (Nat.le_refl _) ?_
  exact T99_11t H hd F rfl rfl h
/-- LentTools$Village.canWork -/
def D107_11t_66 (F : Nat) (g12 : Int32 → Int32 → xS → Option (Int32 × xS)) (v1 : Int32) (v2 : Int32) (m : xS) : Option (Int32 × xS) :=
  g12 v1 (v2 + Int32.ofInt 1) m
set_option maxRecDepth 20000 in
theorem T107_11t_66 {B : zHp} (H : yH0 B) {e : Nat} (he : 5 ≤ e + 1) (F : Nat) (g12 : Int32 → Int32 → xS → Option (Int32 × xS)) (k12 : ∀ {v1 : Int32} {v2 : Int32} {lv : List (Nat × Value)} {m : xS} {x : Int32 × xS}, zld lv 0 = some (.ref 11) → zld lv 1 = some (.int v1) → zld lv 2 = some (.int v2) → g12 v1 v2 m = some x → zR none e 3 (some .boolean) zc107 (12, lv, []) (xW B m) (some (.int x.1), xW B x.2)) {v1 : Int32} {v2 : Int32} {lv : List (Nat × Value)} {m : xS} {x : Int32 × xS} (l0 : zld lv 0 = some (.ref 11)) (l1 : zld lv 1 = some (.int v1)) (l2 : zld lv 2 = some (.int v2)) (h : D107_11t_66 F g12 v1 v2 m = some x) : zR none e 3 (some .boolean) zc107 (66, lv, []) (xW B m) (some (.int x.1), xW B x.2) := by
  unfold D107_11t_66 at h
  refine q_inc (i := 2) (n := 1) (q := (.iinc 2 1, 3, 0, 0, .null)) rfl (fun _ => rfl) l2 (by decide) ?_
  have l0_1 : zld (zs1 lv 2 (.int (v2 + Int32.ofInt 1))) 0 = some (.ref 11) := x_o1 l0 rfl rfl
  have l1_1 : zld (zs1 lv 2 (.int (v2 + Int32.ofInt 1))) 1 = some (.int v1) := x_o1 l1 rfl rfl
  have l2_1 : zld (zs1 lv 2 (.int (v2 + Int32.ofInt 1))) 2 = some (.int (v2 + Int32.ofInt 1)) := zs1_ld _ _ _
  generalize (zs1 lv 2 (.int (v2 + Int32.ofInt 1))) = lv1 at *
  refine r_s (fr' := (12, lv1, [])) (hp' := xW B m) (q := (.goto (-57), 3, 12, 0, .null)) rfl (fun _ => rfl) (Nat.le_refl _) ?_
  exact k12 l0_1 l1_1 l2_1 h
def D107_11t_12 (F : Nat) : Nat → Int32 → Int32 → xS → Option (Int32 × xS)
  | 0, _, _, _ => none
  | f + 1, v1, v2, m =>
    (D79_11t F m).bind fun q14 =>
      if zcmp .ge v2 q14.1 = true then
        some (0, q14.2)
      else
        (D87_11t F v2 1 q14.2).bind fun q23 =>
          (D89_11t F v1 1 q23.2).bind fun q29 =>
            if zcmp .ne q23.1 q29.1 = true then
              D107_11t_66 F (D107_11t_12 F f) v1 v2 q29.2
            else
              (D87_11t F v2 3 q29.2).bind fun q38 =>
                (D89_11t F v1 0 q38.2).bind fun q44 =>
                  if zcmp .ne q38.1 q44.1 = true then
                    D107_11t_66 F (D107_11t_12 F f) v1 v2 q44.2
                  else
                    (D99_11t F v2 q44.2).bind fun q52 =>
                      (D89_11t F v1 2 q52.2).bind fun q58 =>
                        if zcmp .lt q52.1 q58.1 = true then
                          D107_11t_66 F (D107_11t_12 F f) v1 v2 q58.2
                        else
                          some (1, q58.2)
set_option maxRecDepth 20000 in
theorem T107_11t_12 {B : zHp} (H : yH0 B) {e : Nat} (he : 5 ≤ e + 1) (F : Nat) : ∀ (f : Nat) {v1 : Int32} {v2 : Int32} {lv : List (Nat × Value)} {m : xS} {x : Int32 × xS}, zld lv 0 = some (.ref 11) → zld lv 1 = some (.int v1) → zld lv 2 = some (.int v2) → D107_11t_12 F f v1 v2 m = some x → zR none e 3 (some .boolean) zc107 (12, lv, []) (xW B m) (some (.int x.1), xW B x.2) := by
  intro f
  induction f with
  | zero => intro v1 v2 lv m x l0 l1 l2 h; cases h
  | succ f ih =>
    intro v1 v2 lv m x l0 l1 l2 h
    unfold D107_11t_12 at h
    refine q_li (k := 1) (i := 2) (q := (.iload_n 2, 1, 0, 0, .null)) rfl (fun _ => rfl) l2 ?_
    refine q_lr (k := 1) (i := 0) (q := (.aload_n 0, 1, 0, 0, .null)) rfl (fun _ => rfl) l0 ?_
    obtain ⟨q14, h14, h⟩ := xbind h
    refine r_call (ix := 11) (as := []) (rest := [.int v2]) (rv := some (.int q14.1)) (hp' := xW B q14.2) (pc := 14) rfl xr79 rfl rfl rfl (xkd H (by decide)) (Nat.le_of_ble_eq_true rfl) (Z79_11t H h14 (by omega)) (Nat.le_refl _) ?_
    refine r_ifc (len := 3) (a := 72) (b := 0) (v0 := .null) (cn := .ge) (off := 55) rfl (fun c => ?_) (fun c => ?_)
    · rw [if_pos c] at h
      refine r_s (fr' := (73, lv, [.int 0])) (hp' := xW B q14.2) (q := (.iconst 0, 1, 0, 0, .null)) rfl (fun _ => rfl) (Nat.le_refl _) ?_
      obtain rfl := Option.some.inj h
      exact q_ri (q := (.ireturn, 1, 0, 0, .null)) rfl (fun _ => rfl) rfl rfl
    · rw [if_neg (by rw [c]; decide)] at h
      refine q_lr (k := 1) (i := 0) (q := (.aload_n 0, 1, 0, 0, .null)) rfl (fun _ => rfl) l0 ?_
      refine q_li (k := 1) (i := 2) (q := (.iload_n 2, 1, 0, 0, .null)) rfl (fun _ => rfl) l2 ?_
      refine r_s (fr' := (23, lv, [.int 1, .int v2, .ref 11])) (hp' := xW B q14.2) (q := (.iconst 1, 1, 0, 0, .null)) rfl (fun _ => rfl) (Nat.le_refl _) ?_
      obtain ⟨q23, h23, h⟩ := xbind h
      refine r_call (ix := 11) (as := [.int v2, .int 1]) (rest := []) (rv := some (.int q23.1)) (hp' := xW B q23.2) (pc := 23) rfl xr87 rfl rfl rfl (xkd H (by decide)) (Nat.le_of_ble_eq_true rfl) (Z87_11t H h23 (by omega)) (Nat.le_refl _) ?_
      refine q_lr (k := 1) (i := 0) (q := (.aload_n 0, 1, 0, 0, .null)) rfl (fun _ => rfl) l0 ?_
      refine q_li (k := 1) (i := 1) (q := (.iload_n 1, 1, 0, 0, .null)) rfl (fun _ => rfl) l1 ?_
      refine r_s (fr' := (29, lv, [.int 1, .int v1, .ref 11, .int q23.1])) (hp' := xW B q23.2) (q := (.iconst 1, 1, 0, 0, .null)) rfl (fun _ => rfl) (Nat.le_refl _) ?_
      obtain ⟨q29, h29, h⟩ := xbind h
      refine r_call (ix := 11) (as := [.int v1, .int 1]) (rest := [.int q23.1]) (rv := some (.int q29.1)) (hp' := xW B q29.2) (pc := 29) rfl xr89 rfl rfl rfl (xkd H (by decide)) (Nat.le_of_ble_eq_true rfl) (Z89_11t H h29 (by omega)) (Nat.le_refl _) ?_
      refine r_ifc (len := 3) (a := 66) (b := 0) (v0 := .null) (cn := .ne) (off := 34) rfl (fun c => ?_) (fun c => ?_)
      · rw [if_pos c] at h
        exact T107_11t_66 H he F _ ih l0 l1 l2 h
      · rw [if_neg (by rw [c]; decide)] at h
        refine q_lr (k := 1) (i := 0) (q := (.aload_n 0, 1, 0, 0, .null)) rfl (fun _ => rfl) l0 ?_
        refine q_li (k := 1) (i := 2) (q := (.iload_n 2, 1, 0, 0, .null)) rfl (fun _ => rfl) l2 ?_
        refine r_s (fr' := (38, lv, [.int 3, .int v2, .ref 11])) (hp' := xW B q29.2) (q := (.iconst 3, 1, 0, 0, .null)) rfl (fun _ => rfl) (Nat.le_refl _) ?_
        obtain ⟨q38, h38, h⟩ := xbind h
        refine r_call (ix := 11) (as := [.int v2, .int 3]) (rest := []) (rv := some (.int q38.1)) (hp' := xW B q38.2) (pc := 38) rfl xr87 rfl rfl rfl (xkd H (by decide)) (Nat.le_of_ble_eq_true rfl) (Z87_11t H h38 (by omega)) (Nat.le_refl _) ?_
        refine q_lr (k := 1) (i := 0) (q := (.aload_n 0, 1, 0, 0, .null)) rfl (fun _ => rfl) l0 ?_
        refine q_li (k := 1) (i := 1) (q := (.iload_n 1, 1, 0, 0, .null)) rfl (fun _ => rfl) l1 ?_
        refine r_s (fr' := (44, lv, [.int 0, .int v1, .ref 11, .int q38.1])) (hp' := xW B q38.2) (q := (.iconst 0, 1, 0, 0, .null)) rfl (fun _ => rfl) (Nat.le_refl _) ?_
        obtain ⟨q44, h44, h⟩ := xbind h
        refine r_call (ix := 11) (as := [.int v1, .int 0]) (rest := [.int q38.1]) (rv := some (.int q44.1)) (hp' := xW B q44.2) (pc := 44) rfl xr89 rfl rfl rfl (xkd H (by decide)) (Nat.le_of_ble_eq_true rfl) (Z89_11t H h44 (by omega)) (Nat.le_refl _) ?_
        refine r_ifc (len := 3) (a := 66) (b := 0) (v0 := .null) (cn := .ne) (off := 19) rfl (fun c => ?_) (fun c => ?_)
        · rw [if_pos c] at h
          exact T107_11t_66 H he F _ ih l0 l1 l2 h
        · rw [if_neg (by rw [c]; decide)] at h
          refine q_lr (k := 1) (i := 0) (q := (.aload_n 0, 1, 0, 0, .null)) rfl (fun _ => rfl) l0 ?_
          refine q_li (k := 1) (i := 2) (q := (.iload_n 2, 1, 0, 0, .null)) rfl (fun _ => rfl) l2 ?_
          obtain ⟨q52, h52, h⟩ := xbind h
          refine r_call (ix := 11) (as := [.int v2]) (rest := []) (rv := some (.int q52.1)) (hp' := xW B q52.2) (pc := 52) rfl xr99 rfl rfl rfl (xkd H (by decide)) (Nat.le_of_ble_eq_true rfl) (Z99_11t H h52 (by omega)) (Nat.le_refl _) ?_
          refine q_lr (k := 1) (i := 0) (q := (.aload_n 0, 1, 0, 0, .null)) rfl (fun _ => rfl) l0 ?_
          refine q_li (k := 1) (i := 1) (q := (.iload_n 1, 1, 0, 0, .null)) rfl (fun _ => rfl) l1 ?_
          refine r_s (fr' := (58, lv, [.int 2, .int v1, .ref 11, .int q52.1])) (hp' := xW B q52.2) (q := (.iconst 2, 1, 0, 0, .null)) rfl (fun _ => rfl) (Nat.le_refl _) ?_
          obtain ⟨q58, h58, h⟩ := xbind h
          refine r_call (ix := 11) (as := [.int v1, .int 2]) (rest := [.int q52.1]) (rv := some (.int q58.1)) (hp' := xW B q58.2) (pc := 58) rfl xr89 rfl rfl rfl (xkd H (by decide)) (Nat.le_of_ble_eq_true rfl) (Z89_11t H h58 (by omega)) (Nat.le_refl _) ?_
          refine r_ifc (len := 3) (a := 66) (b := 0) (v0 := .null) (cn := .lt) (off := 5) rfl (fun c => ?_) (fun c => ?_)
          · rw [if_pos c] at h
            exact T107_11t_66 H he F _ ih l0 l1 l2 h
          · rw [if_neg (by rw [c]; decide)] at h
            refine r_s (fr' := (65, lv, [.int 1])) (hp' := xW B q58.2) (q := (.iconst 1, 1, 0, 0, .null)) rfl (fun _ => rfl) (Nat.le_refl _) ?_
            obtain rfl := Option.some.inj h
            exact q_ri (q := (.ireturn, 1, 0, 0, .null)) rfl (fun _ => rfl) rfl rfl
def D107_11t (F : Nat) (v1 : Int32) (m : xS) : Option (Int32 × xS) :=
  (D106_11t F v1 m).bind fun q2 =>
    if zcmp .eq q2.1 0 = true then
      D107_11t_12 F F v1 0 q2.2
    else
      some (0, q2.2)
set_option maxRecDepth 20000 in
theorem T107_11t {B : zHp} (H : yH0 B) {e : Nat} (he : 5 ≤ e + 1) (F : Nat) {v1 : Int32} {lv : List (Nat × Value)} {m : xS} {x : Int32 × xS} (l0 : zld lv 0 = some (.ref 11)) (l1 : zld lv 1 = some (.int v1)) (h : D107_11t F v1 m = some x) : zR none e 3 (some .boolean) zc107 (0, lv, []) (xW B m) (some (.int x.1), xW B x.2) := by
  unfold D107_11t at h
  refine q_lr (k := 1) (i := 0) (q := (.aload_n 0, 1, 0, 0, .null)) rfl (fun _ => rfl) l0 ?_
  refine q_li (k := 1) (i := 1) (q := (.iload_n 1, 1, 0, 0, .null)) rfl (fun _ => rfl) l1 ?_
  obtain ⟨q2, h2, h⟩ := xbind h
  refine r_call (ix := 11) (as := [.int v1]) (rest := []) (rv := some (.int q2.1)) (hp' := xW B q2.2) (pc := 2) rfl xr106 rfl rfl rfl (xkd H (by decide)) (Nat.le_of_ble_eq_true rfl) (Z106_11t H h2 (by omega)) (Nat.le_refl _) ?_
  refine r_if (len := 3) (a := 10) (b := 0) (v0 := .null) (cn := .eq) (off := 5) rfl (fun c => ?_) (fun c => ?_)
  · rw [if_pos c] at h
    refine r_s (fr' := (11, lv, [.int 0])) (hp' := xW B q2.2) (q := (.iconst 0, 1, 0, 0, .null)) rfl (fun _ => rfl) (Nat.le_refl _) ?_
    refine q_si (k := 1) (i := 2) (q := (.istore_n 2, 1, 0, 0, .null)) rfl (fun _ => rfl) (by decide) ?_
    have l0_1 : zld (zs1 lv 2 (.int 0)) 0 = some (.ref 11) := x_o1 l0 rfl rfl
    have l1_1 : zld (zs1 lv 2 (.int 0)) 1 = some (.int v1) := x_o1 l1 rfl rfl
    have l2_1 : zld (zs1 lv 2 (.int 0)) 2 = some (.int 0) := zs1_ld _ _ _
    generalize (zs1 lv 2 (.int 0)) = lv1 at *
    exact T107_11t_12 H he F F l0_1 l1_1 l2_1 h
  · rw [if_neg (by rw [c]; decide)] at h
    refine r_s (fr' := (9, lv, [.int 0])) (hp' := xW B q2.2) (q := (.iconst 0, 1, 0, 0, .null)) rfl (fun _ => rfl) (Nat.le_refl _) ?_
    obtain rfl := Option.some.inj h
    exact q_ri (q := (.ireturn, 1, 0, 0, .null)) rfl (fun _ => rfl) rfl rfl
set_option maxRecDepth 20000 in
theorem Z107_11t {B : zHp} (H : yH0 B) {F : Nat} {a1 : Int32} {m : xS} {x : Int32 × xS} (h : D107_11t F a1 m = some x) {d : Nat} (hd : 5 ≤ d) : zCan d 107 [.ref 11, .int a1] (xW B m) (some (.int x.1), xW B x.2) := by
  obtain ⟨e, rfl⟩ : ∃ e, d = e + 1 := ⟨d - 1, by omega⟩
  refine zCan_body (nL := 3) (rt := (some .boolean)) (cd := zc107) (xg107) ⟨Nat.le_of_ble_eq_true rfl, by decide⟩ (Nat.le_refl _) ?_
  exact T107_11t H hd F rfl rfl h
/-- LentTools$Village.today -/
def D81_11t (F : Nat) (m : xS) : Option (Int32 × xS) :=
  some ((m.1 12 4), m)
set_option maxRecDepth 20000 in
theorem T81_11t {B : zHp} (H : yH0 B) {e : Nat} (he : 1 ≤ e + 1) (F : Nat) {lv : List (Nat × Value)} {m : xS} {x : Int32 × xS} (l0 : zld lv 0 = some (.ref 11)) (h : D81_11t F m = some x) : zR none e 1 (some .int) zc81 (0, lv, []) (xW B m) (some (.int x.1), xW B x.2) := by
  unfold D81_11t at h
  refine q_lr (k := 1) (i := 0) (q := (.aload_n 0, 1, 0, 0, .null)) rfl (fun _ => rfl) l0 ?_
  refine r_gr (c := 12) H (pc := 1) rfl (by decide) (by decide) ?_
  refine r_s (fr' := (5, lv, [.int 4, .ref 12])) (hp' := xW B m) (q := (.iconst 4, 1, 0, 0, .null)) rfl (fun _ => rfl) (Nat.le_refl _) ?_
  refine q_al (n := 114) (v := (m.1 12 4)) H (pc := 5) rfl (by decide) (by decide) rfl ?_
  obtain rfl := Option.some.inj h
  exact q_ri (q := (.ireturn, 1, 0, 0, .null)) rfl (fun _ => rfl) rfl rfl
set_option maxRecDepth 20000 in
theorem Z81_11t {B : zHp} (H : yH0 B) {F : Nat} {m : xS} {x : Int32 × xS} (h : D81_11t F m = some x) {d : Nat} (hd : 1 ≤ d) : zCan d 81 [.ref 11] (xW B m) (some (.int x.1), xW B x.2) := by
  obtain ⟨e, rfl⟩ : ∃ e, d = e + 1 := ⟨d - 1, by omega⟩
  refine zCan_body (nL := 1) (rt := (some .int)) (cd := zc81) (xg81) ⟨Nat.le_of_ble_eq_true rfl, by decide⟩ (Nat.le_refl _) ?_
  exact T81_11t H hd F rfl h
/-- LentTools$Village.setOfWork -/
def D90_11t (F : Nat) (v1 : Int32) (v2 : Int32) (v3 : Int32) (m : xS) : Option (Unit × xS) :=
  if xib ((42 + (6 * v2)) + v1) 114 = true then
    some ((), (xu m 12 (((42 + (6 * v2)) + v1) : Int32).toNatClampNeg v3))
  else none
set_option maxRecDepth 20000 in
theorem T90_11t {B : zHp} (H : yH0 B) {e : Nat} (he : 1 ≤ e + 1) (F : Nat) {v1 : Int32} {v2 : Int32} {v3 : Int32} {lv : List (Nat × Value)} {m : xS} {x : Unit × xS} (l0 : zld lv 0 = some (.ref 11)) (l1 : zld lv 1 = some (.int v1)) (l2 : zld lv 2 = some (.int v2)) (l3 : zld lv 3 = some (.int v3)) (h : D90_11t F v1 v2 v3 m = some x) : zR none e 4 none zc90 (0, lv, []) (xW B m) (none, xW B x.2) := by
  unfold D90_11t at h
  refine q_lr (k := 1) (i := 0) (q := (.aload_n 0, 1, 0, 0, .null)) rfl (fun _ => rfl) l0 ?_
  refine r_gr (c := 12) H (pc := 1) rfl (by decide) (by decide) ?_
  refine r_s (fr' := (6, lv, [.int 42, .ref 12])) (hp' := xW B m) (q := (.bipush 42, 2, 0, 0, .null)) rfl (fun _ => rfl) (Nat.le_refl _) ?_
  refine r_s (fr' := (8, lv, [.int 6, .int 42, .ref 12])) (hp' := xW B m) (q := (.bipush 6, 2, 0, 0, .null)) rfl (fun _ => rfl) (Nat.le_refl _) ?_
  refine q_li (k := 1) (i := 2) (q := (.iload_n 2, 1, 0, 0, .null)) rfl (fun _ => rfl) l2 ?_
  refine r_s (fr' := (10, lv, [.int (6 * v2), .int 42, .ref 12])) (hp' := xW B m) (q := (.imul, 1, 0, 0, .null)) rfl (fun _ => rfl) (Nat.le_refl _) ?_
  refine r_s (fr' := (11, lv, [.int (42 + (6 * v2)), .ref 12])) (hp' := xW B m) (q := (.iadd, 1, 0, 0, .null)) rfl (fun _ => rfl) (Nat.le_refl _) ?_
  refine q_li (k := 1) (i := 1) (q := (.iload_n 1, 1, 0, 0, .null)) rfl (fun _ => rfl) l1 ?_
  refine r_s (fr' := (13, lv, [.int ((42 + (6 * v2)) + v1), .ref 12])) (hp' := xW B m) (q := (.iadd, 1, 0, 0, .null)) rfl (fun _ => rfl) (Nat.le_refl _) ?_
  refine q_li (k := 1) (i := 3) (q := (.iload_n 3, 1, 0, 0, .null)) rfl (fun _ => rfl) l3 ?_
  obtain ⟨c1, h⟩ := xif h
  refine q_as (n := 114) (s2 := (xu m 12 (((42 + (6 * v2)) + v1) : Int32).toNatClampNeg v3)) H (pc := 14) rfl (by decide) c1 rfl ?_
  obtain rfl := Option.some.inj h
  exact r_ret (q := (.return_, 1, 0, 0, .null)) rfl rfl (fun _ => rfl)
set_option maxRecDepth 20000 in
theorem Z90_11t {B : zHp} (H : yH0 B) {F : Nat} {a1 : Int32} {a2 : Int32} {a3 : Int32} {m : xS} {x : Unit × xS} (h : D90_11t F a1 a2 a3 m = some x) {d : Nat} (hd : 1 ≤ d) : zCan d 90 [.ref 11, .int a1, .int a2, .int a3] (xW B m) (none, xW B x.2) := by
  obtain ⟨e, rfl⟩ : ∃ e, d = e + 1 := ⟨d - 1, by omega⟩
  refine zCan_body (nL := 4) (rt := none) (cd := zc90) (xg90) ⟨Nat.le_of_ble_eq_true rfl, by decide⟩ (Nat.le_refl _) ?_
  exact T90_11t H hd F rfl rfl rfl rfl h
/-- LentTools$Village.finishWork -/
def D108_11t (F : Nat) (v1 : Int32) (m : xS) : Option (Int32 × xS) :=
  (D89_11t F v1 3 m).bind fun q3 =>
    (D81_11t F q3.2).bind fun q11 =>
      (D90_11t F v1 4 q11.1 q11.2).bind fun q14 =>
        some (q3.1, (xu q14.2 12 5 ((q14.2.1 12 5) + q3.1)))
set_option maxRecDepth 20000 in
theorem T108_11t {B : zHp} (H : yH0 B) {e : Nat} (he : 2 ≤ e + 1) (F : Nat) {v1 : Int32} {lv : List (Nat × Value)} {m : xS} {x : Int32 × xS} (l0 : zld lv 0 = some (.ref 11)) (l1 : zld lv 1 = some (.int v1)) (h : D108_11t F v1 m = some x) : zR none e 3 (some .int) zc108 (0, lv, []) (xW B m) (some (.int x.1), xW B x.2) := by
  unfold D108_11t at h
  refine q_lr (k := 1) (i := 0) (q := (.aload_n 0, 1, 0, 0, .null)) rfl (fun _ => rfl) l0 ?_
  refine q_li (k := 1) (i := 1) (q := (.iload_n 1, 1, 0, 0, .null)) rfl (fun _ => rfl) l1 ?_
  refine r_s (fr' := (3, lv, [.int 3, .int v1, .ref 11])) (hp' := xW B m) (q := (.iconst 3, 1, 0, 0, .null)) rfl (fun _ => rfl) (Nat.le_refl _) ?_
  obtain ⟨q3, h3, h⟩ := xbind h
  refine r_call (ix := 11) (as := [.int v1, .int 3]) (rest := []) (rv := some (.int q3.1)) (hp' := xW B q3.2) (pc := 3) rfl xr89 rfl rfl rfl (xkd H (by decide)) (Nat.le_of_ble_eq_true rfl) (Z89_11t H h3 (by omega)) (Nat.le_refl _) ?_
  refine q_si (k := 1) (i := 2) (q := (.istore_n 2, 1, 0, 0, .null)) rfl (fun _ => rfl) (by decide) ?_
  have l0_1 : zld (zs1 lv 2 (.int q3.1)) 0 = some (.ref 11) := x_o1 l0 rfl rfl
  have l1_1 : zld (zs1 lv 2 (.int q3.1)) 1 = some (.int v1) := x_o1 l1 rfl rfl
  have l2_1 : zld (zs1 lv 2 (.int q3.1)) 2 = some (.int q3.1) := zs1_ld _ _ _
  generalize (zs1 lv 2 (.int q3.1)) = lv1 at *
  refine q_lr (k := 1) (i := 0) (q := (.aload_n 0, 1, 0, 0, .null)) rfl (fun _ => rfl) l0_1 ?_
  refine q_li (k := 1) (i := 1) (q := (.iload_n 1, 1, 0, 0, .null)) rfl (fun _ => rfl) l1_1 ?_
  refine r_s (fr' := (10, lv1, [.int 4, .int v1, .ref 11])) (hp' := xW B q3.2) (q := (.iconst 4, 1, 0, 0, .null)) rfl (fun _ => rfl) (Nat.le_refl _) ?_
  refine q_lr (k := 1) (i := 0) (q := (.aload_n 0, 1, 0, 0, .null)) rfl (fun _ => rfl) l0_1 ?_
  obtain ⟨q11, h11, h⟩ := xbind h
  refine r_call (ix := 11) (as := []) (rest := [.int 4, .int v1, .ref 11]) (rv := some (.int q11.1)) (hp' := xW B q11.2) (pc := 11) rfl xr81 rfl rfl rfl (xkd H (by decide)) (Nat.le_of_ble_eq_true rfl) (Z81_11t H h11 (by omega)) (Nat.le_refl _) ?_
  obtain ⟨q14, h14, h⟩ := xbind h
  refine r_call (ix := 11) (as := [.int v1, .int 4, .int q11.1]) (rest := []) (rv := none) (hp' := xW B q14.2) (pc := 14) rfl xr90 rfl rfl rfl (xkd H (by decide)) (Nat.le_of_ble_eq_true rfl) (Z90_11t H h14 (by omega)) (Nat.le_refl _) ?_
  refine q_lr (k := 1) (i := 0) (q := (.aload_n 0, 1, 0, 0, .null)) rfl (fun _ => rfl) l0_1 ?_
  refine r_gr (c := 12) H (pc := 18) rfl (by decide) (by decide) ?_
  refine r_s (fr' := (22, lv1, [.int 5, .ref 12])) (hp' := xW B q14.2) (q := (.iconst 5, 1, 0, 0, .null)) rfl (fun _ => rfl) (Nat.le_refl _) ?_
  refine r_s (fr' := (23, lv1, [.int 5, .ref 12, .int 5, .ref 12])) (hp' := xW B q14.2) (q := (.dup2, 1, 0, 0, .null)) rfl (fun _ => rfl) (Nat.le_refl _) ?_
  refine q_al (n := 114) (v := (q14.2.1 12 5)) H (pc := 23) rfl (by decide) (by decide) rfl ?_
  refine q_li (k := 1) (i := 2) (q := (.iload_n 2, 1, 0, 0, .null)) rfl (fun _ => rfl) l2_1 ?_
  refine r_s (fr' := (26, lv1, [.int ((q14.2.1 12 5) + q3.1), .int 5, .ref 12])) (hp' := xW B q14.2) (q := (.iadd, 1, 0, 0, .null)) rfl (fun _ => rfl) (Nat.le_refl _) ?_
  refine q_as (n := 114) (s2 := (xu q14.2 12 5 ((q14.2.1 12 5) + q3.1))) H (pc := 26) rfl (by decide) (by decide) rfl ?_
  refine q_li (k := 1) (i := 2) (q := (.iload_n 2, 1, 0, 0, .null)) rfl (fun _ => rfl) l2_1 ?_
  obtain rfl := Option.some.inj h
  exact q_ri (q := (.ireturn, 1, 0, 0, .null)) rfl (fun _ => rfl) rfl rfl
set_option maxRecDepth 20000 in
theorem Z108_11t {B : zHp} (H : yH0 B) {F : Nat} {a1 : Int32} {m : xS} {x : Int32 × xS} (h : D108_11t F a1 m = some x) {d : Nat} (hd : 2 ≤ d) : zCan d 108 [.ref 11, .int a1] (xW B m) (some (.int x.1), xW B x.2) := by
  obtain ⟨e, rfl⟩ : ∃ e, d = e + 1 := ⟨d - 1, by omega⟩
  refine zCan_body (nL := 3) (rt := (some .int)) (cd := zc108) (xg108) ⟨Nat.le_of_ble_eq_true rfl, by decide⟩ (Nat.le_refl _) ?_
  exact T108_11t H hd F rfl rfl h
/-- LentTools$Village.finishWorks -/
def D109_11t_24 (F : Nat) (g2 : Int32 → xS → Option (Unit × xS)) (v1 : Int32) (m : xS) : Option (Unit × xS) :=
  g2 (v1 + Int32.ofInt 1) m
set_option maxRecDepth 20000 in
theorem T109_11t_24 {B : zHp} (H : yH0 B) {e : Nat} (he : 6 ≤ e + 1) (F : Nat) (g2 : Int32 → xS → Option (Unit × xS)) (k2 : ∀ {v1 : Int32} {lv : List (Nat × Value)} {m : xS} {x : Unit × xS}, zld lv 0 = some (.ref 11) → zld lv 1 = some (.int v1) → g2 v1 m = some x → zR none e 2 none zc109 (2, lv, []) (xW B m) (none, xW B x.2)) {v1 : Int32} {lv : List (Nat × Value)} {m : xS} {x : Unit × xS} (l0 : zld lv 0 = some (.ref 11)) (l1 : zld lv 1 = some (.int v1)) (h : D109_11t_24 F g2 v1 m = some x) : zR none e 2 none zc109 (24, lv, []) (xW B m) (none, xW B x.2) := by
  unfold D109_11t_24 at h
  refine q_inc (i := 1) (n := 1) (q := (.iinc 1 1, 3, 0, 0, .null)) rfl (fun _ => rfl) l1 (by decide) ?_
  have l0_1 : zld (zs1 lv 1 (.int (v1 + Int32.ofInt 1))) 0 = some (.ref 11) := x_o1 l0 rfl rfl
  have l1_1 : zld (zs1 lv 1 (.int (v1 + Int32.ofInt 1))) 1 = some (.int (v1 + Int32.ofInt 1)) := zs1_ld _ _ _
  generalize (zs1 lv 1 (.int (v1 + Int32.ofInt 1))) = lv1 at *
  refine r_s (fr' := (2, lv1, [])) (hp' := xW B m) (q := (.goto (-25), 3, 2, 0, .null)) rfl (fun _ => rfl) (Nat.le_refl _) ?_
  exact k2 l0_1 l1_1 h
def D109_11t_2 (F : Nat) : Nat → Int32 → xS → Option (Unit × xS)
  | 0, _, _ => none
  | f + 1, v1, m =>
    (D80_11t F m).bind fun q4 =>
      if zcmp .ge v1 q4.1 = true then
        some ((), q4.2)
      else
        (D107_11t F v1 q4.2).bind fun q12 =>
          if zcmp .eq q12.1 0 = true then
            D109_11t_24 F (D109_11t_2 F f) v1 q12.2
          else
            (D108_11t F v1 q12.2).bind fun q20 =>
              D109_11t_24 F (D109_11t_2 F f) v1 q20.2
set_option maxRecDepth 20000 in
theorem T109_11t_2 {B : zHp} (H : yH0 B) {e : Nat} (he : 6 ≤ e + 1) (F : Nat) : ∀ (f : Nat) {v1 : Int32} {lv : List (Nat × Value)} {m : xS} {x : Unit × xS}, zld lv 0 = some (.ref 11) → zld lv 1 = some (.int v1) → D109_11t_2 F f v1 m = some x → zR none e 2 none zc109 (2, lv, []) (xW B m) (none, xW B x.2) := by
  intro f
  induction f with
  | zero => intro v1 lv m x l0 l1 h; cases h
  | succ f ih =>
    intro v1 lv m x l0 l1 h
    unfold D109_11t_2 at h
    refine q_li (k := 1) (i := 1) (q := (.iload_n 1, 1, 0, 0, .null)) rfl (fun _ => rfl) l1 ?_
    refine q_lr (k := 1) (i := 0) (q := (.aload_n 0, 1, 0, 0, .null)) rfl (fun _ => rfl) l0 ?_
    obtain ⟨q4, h4, h⟩ := xbind h
    refine r_call (ix := 11) (as := []) (rest := [.int v1]) (rv := some (.int q4.1)) (hp' := xW B q4.2) (pc := 4) rfl xr80 rfl rfl rfl (xkd H (by decide)) (Nat.le_of_ble_eq_true rfl) (Z80_11t H h4 (by omega)) (Nat.le_refl _) ?_
    refine r_ifc (len := 3) (a := 30) (b := 0) (v0 := .null) (cn := .ge) (off := 23) rfl (fun c => ?_) (fun c => ?_)
    · rw [if_pos c] at h
      obtain rfl := Option.some.inj h
      exact r_ret (q := (.return_, 1, 0, 0, .null)) rfl rfl (fun _ => rfl)
    · rw [if_neg (by rw [c]; decide)] at h
      refine q_lr (k := 1) (i := 0) (q := (.aload_n 0, 1, 0, 0, .null)) rfl (fun _ => rfl) l0 ?_
      refine q_li (k := 1) (i := 1) (q := (.iload_n 1, 1, 0, 0, .null)) rfl (fun _ => rfl) l1 ?_
      obtain ⟨q12, h12, h⟩ := xbind h
      refine r_call (ix := 11) (as := [.int v1]) (rest := []) (rv := some (.int q12.1)) (hp' := xW B q12.2) (pc := 12) rfl xr107 rfl rfl rfl (xkd H (by decide)) (Nat.le_of_ble_eq_true rfl) (Z107_11t H h12 (by omega)) (Nat.le_refl _) ?_
      refine r_if (len := 3) (a := 24) (b := 0) (v0 := .null) (cn := .eq) (off := 9) rfl (fun c => ?_) (fun c => ?_)
      · rw [if_pos c] at h
        exact T109_11t_24 H he F _ ih l0 l1 h
      · rw [if_neg (by rw [c]; decide)] at h
        refine q_lr (k := 1) (i := 0) (q := (.aload_n 0, 1, 0, 0, .null)) rfl (fun _ => rfl) l0 ?_
        refine q_li (k := 1) (i := 1) (q := (.iload_n 1, 1, 0, 0, .null)) rfl (fun _ => rfl) l1 ?_
        obtain ⟨q20, h20, h⟩ := xbind h
        refine r_call (ix := 11) (as := [.int v1]) (rest := []) (rv := some (.int q20.1)) (hp' := xW B q20.2) (pc := 20) rfl xr108 rfl rfl rfl (xkd H (by decide)) (Nat.le_of_ble_eq_true rfl) (Z108_11t H h20 (by omega)) (Nat.le_refl _) ?_
        refine r_s (fr' := (24, lv, [])) (hp' := xW B q20.2) (q := (.pop, 1, 0, 0, .null)) rfl (fun _ => rfl) (Nat.le_refl _) ?_
        exact T109_11t_24 H he F _ ih l0 l1 h
def D109_11t (F : Nat) (m : xS) : Option (Unit × xS) :=
  D109_11t_2 F F 0 m
set_option maxRecDepth 20000 in
theorem T109_11t {B : zHp} (H : yH0 B) {e : Nat} (he : 6 ≤ e + 1) (F : Nat) {lv : List (Nat × Value)} {m : xS} {x : Unit × xS} (l0 : zld lv 0 = some (.ref 11)) (h : D109_11t F m = some x) : zR none e 2 none zc109 (0, lv, []) (xW B m) (none, xW B x.2) := by
  unfold D109_11t at h
  refine r_s (fr' := (1, lv, [.int 0])) (hp' := xW B m) (q := (.iconst 0, 1, 0, 0, .null)) rfl (fun _ => rfl) (Nat.le_refl _) ?_
  refine q_si (k := 1) (i := 1) (q := (.istore_n 1, 1, 0, 0, .null)) rfl (fun _ => rfl) (by decide) ?_
  have l0_1 : zld (zs1 lv 1 (.int 0)) 0 = some (.ref 11) := x_o1 l0 rfl rfl
  have l1_1 : zld (zs1 lv 1 (.int 0)) 1 = some (.int 0) := zs1_ld _ _ _
  generalize (zs1 lv 1 (.int 0)) = lv1 at *
  exact T109_11t_2 H he F F l0_1 l1_1 h
set_option maxRecDepth 20000 in
theorem Z109_11t {B : zHp} (H : yH0 B) {F : Nat} {m : xS} {x : Unit × xS} (h : D109_11t F m = some x) {d : Nat} (hd : 6 ≤ d) : zCan d 109 [.ref 11] (xW B m) (none, xW B x.2) := by
  obtain ⟨e, rfl⟩ : ∃ e, d = e + 1 := ⟨d - 1, by omega⟩
  refine zCan_body (nL := 2) (rt := none) (cd := zc109) (xg109) ⟨Nat.le_of_ble_eq_true rfl, by decide⟩ (Nat.le_refl _) ?_
  exact T109_11t H hd F rfl h
/-- LentTools$Village.passDay -/
def D112_11t_32 (F : Nat) (g2 : Int32 → xS → Option (Unit × xS)) (v1 : Int32) (m : xS) : Option (Unit × xS) :=
  g2 (v1 + Int32.ofInt 1) m
set_option maxRecDepth 20000 in
theorem T112_11t_32 {B : zHp} (H : yH0 B) {e : Nat} (he : 3 ≤ e + 1) (F : Nat) (g2 : Int32 → xS → Option (Unit × xS)) (k2 : ∀ {v1 : Int32} {lv : List (Nat × Value)} {m : xS} {x : Unit × xS}, zld lv 0 = some (.ref 11) → zld lv 1 = some (.int v1) → g2 v1 m = some x → zR none e 2 none zc112 (2, lv, []) (xW B m) (none, xW B x.2)) {v1 : Int32} {lv : List (Nat × Value)} {m : xS} {x : Unit × xS} (l0 : zld lv 0 = some (.ref 11)) (l1 : zld lv 1 = some (.int v1)) (h : D112_11t_32 F g2 v1 m = some x) : zR none e 2 none zc112 (32, lv, []) (xW B m) (none, xW B x.2) := by
  unfold D112_11t_32 at h
  refine q_inc (i := 1) (n := 1) (q := (.iinc 1 1, 3, 0, 0, .null)) rfl (fun _ => rfl) l1 (by decide) ?_
  have l0_1 : zld (zs1 lv 1 (.int (v1 + Int32.ofInt 1))) 0 = some (.ref 11) := x_o1 l0 rfl rfl
  have l1_1 : zld (zs1 lv 1 (.int (v1 + Int32.ofInt 1))) 1 = some (.int (v1 + Int32.ofInt 1)) := zs1_ld _ _ _
  generalize (zs1 lv 1 (.int (v1 + Int32.ofInt 1))) = lv1 at *
  refine r_s (fr' := (2, lv1, [])) (hp' := xW B m) (q := (.goto (-33), 3, 2, 0, .null)) rfl (fun _ => rfl) (Nat.le_refl _) ?_
  exact k2 l0_1 l1_1 h
def D112_11t_2 (F : Nat) : Nat → Int32 → xS → Option (Unit × xS)
  | 0, _, _ => none
  | f + 1, v1, m =>
    (D79_11t F m).bind fun q4 =>
      if zcmp .ge v1 q4.1 = true then
        (D81_11t F q4.2).bind fun q47 =>
          some ((), (xu q47.2 12 4 (if (q47.1 + 1) < 999 then (q47.1 + 1) else 999)))
      else
        (D97_11t F v1 q4.2).bind fun q12 =>
          if zcmp .ne q12.1 0 = true then
            D112_11t_32 F (D112_11t_2 F f) v1 q12.2
          else
            (D87_11t F v1 5 q12.2).bind fun q24 =>
              (D88_11t F v1 5 (q24.1 + 1) q24.2).bind fun q29 =>
                D112_11t_32 F (D112_11t_2 F f) v1 q29.2
set_option maxRecDepth 20000 in
theorem T112_11t_2 {B : zHp} (H : yH0 B) {e : Nat} (he : 3 ≤ e + 1) (F : Nat) : ∀ (f : Nat) {v1 : Int32} {lv : List (Nat × Value)} {m : xS} {x : Unit × xS}, zld lv 0 = some (.ref 11) → zld lv 1 = some (.int v1) → D112_11t_2 F f v1 m = some x → zR none e 2 none zc112 (2, lv, []) (xW B m) (none, xW B x.2) := by
  intro f
  induction f with
  | zero => intro v1 lv m x l0 l1 h; cases h
  | succ f ih =>
    intro v1 lv m x l0 l1 h
    unfold D112_11t_2 at h
    refine q_li (k := 1) (i := 1) (q := (.iload_n 1, 1, 0, 0, .null)) rfl (fun _ => rfl) l1 ?_
    refine q_lr (k := 1) (i := 0) (q := (.aload_n 0, 1, 0, 0, .null)) rfl (fun _ => rfl) l0 ?_
    obtain ⟨q4, h4, h⟩ := xbind h
    refine r_call (ix := 11) (as := []) (rest := [.int v1]) (rv := some (.int q4.1)) (hp' := xW B q4.2) (pc := 4) rfl xr79 rfl rfl rfl (xkd H (by decide)) (Nat.le_of_ble_eq_true rfl) (Z79_11t H h4 (by omega)) (Nat.le_refl _) ?_
    refine r_ifc (len := 3) (a := 38) (b := 0) (v0 := .null) (cn := .ge) (off := 31) rfl (fun c => ?_) (fun c => ?_)
    · rw [if_pos c] at h
      refine q_lr (k := 1) (i := 0) (q := (.aload_n 0, 1, 0, 0, .null)) rfl (fun _ => rfl) l0 ?_
      refine r_gr (c := 12) H (pc := 39) rfl (by decide) (by decide) ?_
      refine r_s (fr' := (43, lv, [.int 4, .ref 12])) (hp' := xW B q4.2) (q := (.iconst 4, 1, 0, 0, .null)) rfl (fun _ => rfl) (Nat.le_refl _) ?_
      refine r_s (fr' := (46, lv, [.int 999, .int 4, .ref 12])) (hp' := xW B q4.2) (q := (.sipush 999, 3, 0, 0, .null)) rfl (fun _ => rfl) (Nat.le_refl _) ?_
      refine q_lr (k := 1) (i := 0) (q := (.aload_n 0, 1, 0, 0, .null)) rfl (fun _ => rfl) l0 ?_
      obtain ⟨q47, h47, h⟩ := xbind h
      refine r_call (ix := 11) (as := []) (rest := [.int 999, .int 4, .ref 12]) (rv := some (.int q47.1)) (hp' := xW B q47.2) (pc := 47) rfl xr81 rfl rfl rfl (xkd H (by decide)) (Nat.le_of_ble_eq_true rfl) (Z81_11t H h47 (by omega)) (Nat.le_refl _) ?_
      refine r_s (fr' := (51, lv, [.int 1, .int q47.1, .int 999, .int 4, .ref 12])) (hp' := xW B q47.2) (q := (.iconst 1, 1, 0, 0, .null)) rfl (fun _ => rfl) (Nat.le_refl _) ?_
      refine r_s (fr' := (52, lv, [.int (q47.1 + 1), .int 999, .int 4, .ref 12])) (hp' := xW B q47.2) (q := (.iadd, 1, 0, 0, .null)) rfl (fun _ => rfl) (Nat.le_refl _) ?_
      refine r_s (fr' := (55, lv, [.int (if (q47.1 + 1) < 999 then (q47.1 + 1) else 999), .int 4, .ref 12])) (hp' := xW B q47.2) (q := (.invokestatic 80, 3, 0, 3, .null)) rfl (fun _ => rfl) (Nat.le_refl _) ?_
      refine q_as (n := 114) (s2 := (xu q47.2 12 4 (if (q47.1 + 1) < 999 then (q47.1 + 1) else 999))) H (pc := 55) rfl (by decide) (by decide) rfl ?_
      obtain rfl := Option.some.inj h
      exact r_ret (q := (.return_, 1, 0, 0, .null)) rfl rfl (fun _ => rfl)
    · rw [if_neg (by rw [c]; decide)] at h
      refine q_lr (k := 1) (i := 0) (q := (.aload_n 0, 1, 0, 0, .null)) rfl (fun _ => rfl) l0 ?_
      refine q_li (k := 1) (i := 1) (q := (.iload_n 1, 1, 0, 0, .null)) rfl (fun _ => rfl) l1 ?_
      obtain ⟨q12, h12, h⟩ := xbind h
      refine r_call (ix := 11) (as := [.int v1]) (rest := []) (rv := some (.int q12.1)) (hp' := xW B q12.2) (pc := 12) rfl xr97 rfl rfl rfl (xkd H (by decide)) (Nat.le_of_ble_eq_true rfl) (Z97_11t H h12 (by omega)) (Nat.le_refl _) ?_
      refine r_if (len := 3) (a := 32) (b := 0) (v0 := .null) (cn := .ne) (off := 17) rfl (fun c => ?_) (fun c => ?_)
      · rw [if_pos c] at h
        exact T112_11t_32 H he F _ ih l0 l1 h
      · rw [if_neg (by rw [c]; decide)] at h
        refine q_lr (k := 1) (i := 0) (q := (.aload_n 0, 1, 0, 0, .null)) rfl (fun _ => rfl) l0 ?_
        refine q_li (k := 1) (i := 1) (q := (.iload_n 1, 1, 0, 0, .null)) rfl (fun _ => rfl) l1 ?_
        refine r_s (fr' := (21, lv, [.int 5, .int v1, .ref 11])) (hp' := xW B q12.2) (q := (.iconst 5, 1, 0, 0, .null)) rfl (fun _ => rfl) (Nat.le_refl _) ?_
        refine q_lr (k := 1) (i := 0) (q := (.aload_n 0, 1, 0, 0, .null)) rfl (fun _ => rfl) l0 ?_
        refine q_li (k := 1) (i := 1) (q := (.iload_n 1, 1, 0, 0, .null)) rfl (fun _ => rfl) l1 ?_
        refine r_s (fr' := (24, lv, [.int 5, .int v1, .ref 11, .int 5, .int v1, .ref 11])) (hp' := xW B q12.2) (q := (.iconst 5, 1, 0, 0, .null)) rfl (fun _ => rfl) (Nat.le_refl _) ?_
        obtain ⟨q24, h24, h⟩ := xbind h
        refine r_call (ix := 11) (as := [.int v1, .int 5]) (rest := [.int 5, .int v1, .ref 11]) (rv := some (.int q24.1)) (hp' := xW B q24.2) (pc := 24) rfl xr87 rfl rfl rfl (xkd H (by decide)) (Nat.le_of_ble_eq_true rfl) (Z87_11t H h24 (by omega)) (Nat.le_refl _) ?_
        refine r_s (fr' := (28, lv, [.int 1, .int q24.1, .int 5, .int v1, .ref 11])) (hp' := xW B q24.2) (q := (.iconst 1, 1, 0, 0, .null)) rfl (fun _ => rfl) (Nat.le_refl _) ?_
        refine r_s (fr' := (29, lv, [.int (q24.1 + 1), .int 5, .int v1, .ref 11])) (hp' := xW B q24.2) (q := (.iadd, 1, 0, 0, .null)) rfl (fun _ => rfl) (Nat.le_refl _) ?_
        obtain ⟨q29, h29, h⟩ := xbind h
        refine r_call (ix := 11) (as := [.int v1, .int 5, .int (q24.1 + 1)]) (rest := []) (rv := none) (hp' := xW B q29.2) (pc := 29) rfl xr88 rfl rfl rfl (xkd H (by decide)) (Nat.le_of_ble_eq_true rfl) (Z88_11t H h29 (by omega)) (Nat.le_refl _) ?_
        exact T112_11t_32 H he F _ ih l0 l1 h
def D112_11t (F : Nat) (m : xS) : Option (Unit × xS) :=
  D112_11t_2 F F 0 m
set_option maxRecDepth 20000 in
theorem T112_11t {B : zHp} (H : yH0 B) {e : Nat} (he : 3 ≤ e + 1) (F : Nat) {lv : List (Nat × Value)} {m : xS} {x : Unit × xS} (l0 : zld lv 0 = some (.ref 11)) (h : D112_11t F m = some x) : zR none e 2 none zc112 (0, lv, []) (xW B m) (none, xW B x.2) := by
  unfold D112_11t at h
  refine r_s (fr' := (1, lv, [.int 0])) (hp' := xW B m) (q := (.iconst 0, 1, 0, 0, .null)) rfl (fun _ => rfl) (Nat.le_refl _) ?_
  refine q_si (k := 1) (i := 1) (q := (.istore_n 1, 1, 0, 0, .null)) rfl (fun _ => rfl) (by decide) ?_
  have l0_1 : zld (zs1 lv 1 (.int 0)) 0 = some (.ref 11) := x_o1 l0 rfl rfl
  have l1_1 : zld (zs1 lv 1 (.int 0)) 1 = some (.int 0) := zs1_ld _ _ _
  generalize (zs1 lv 1 (.int 0)) = lv1 at *
  exact T112_11t_2 H he F F l0_1 l1_1 h
set_option maxRecDepth 20000 in
theorem Z112_11t {B : zHp} (H : yH0 B) {F : Nat} {m : xS} {x : Unit × xS} (h : D112_11t F m = some x) {d : Nat} (hd : 3 ≤ d) : zCan d 112 [.ref 11] (xW B m) (none, xW B x.2) := by
  obtain ⟨e, rfl⟩ : ∃ e, d = e + 1 := ⟨d - 1, by omega⟩
  refine zCan_body (nL := 2) (rt := none) (cd := zc112) (xg112) ⟨Nat.le_of_ble_eq_true rfl, by decide⟩ (Nat.le_refl _) ?_
  exact T112_11t H hd F rfl h
/-- LentTools$Village.earned -/
def D82_11t (F : Nat) (m : xS) : Option (Int32 × xS) :=
  some ((m.1 12 5), m)
set_option maxRecDepth 20000 in
theorem T82_11t {B : zHp} (H : yH0 B) {e : Nat} (he : 1 ≤ e + 1) (F : Nat) {lv : List (Nat × Value)} {m : xS} {x : Int32 × xS} (l0 : zld lv 0 = some (.ref 11)) (h : D82_11t F m = some x) : zR none e 1 (some .int) zc82 (0, lv, []) (xW B m) (some (.int x.1), xW B x.2) := by
  unfold D82_11t at h
  refine q_lr (k := 1) (i := 0) (q := (.aload_n 0, 1, 0, 0, .null)) rfl (fun _ => rfl) l0 ?_
  refine r_gr (c := 12) H (pc := 1) rfl (by decide) (by decide) ?_
  refine r_s (fr' := (5, lv, [.int 5, .ref 12])) (hp' := xW B m) (q := (.iconst 5, 1, 0, 0, .null)) rfl (fun _ => rfl) (Nat.le_refl _) ?_
  refine q_al (n := 114) (v := (m.1 12 5)) H (pc := 5) rfl (by decide) (by decide) rfl ?_
  obtain rfl := Option.some.inj h
  exact q_ri (q := (.ireturn, 1, 0, 0, .null)) rfl (fun _ => rfl) rfl rfl
set_option maxRecDepth 20000 in
theorem Z82_11t {B : zHp} (H : yH0 B) {F : Nat} {m : xS} {x : Int32 × xS} (h : D82_11t F m = some x) {d : Nat} (hd : 1 ≤ d) : zCan d 82 [.ref 11] (xW B m) (some (.int x.1), xW B x.2) := by
  obtain ⟨e, rfl⟩ : ∃ e, d = e + 1 := ⟨d - 1, by omega⟩
  refine zCan_body (nL := 1) (rt := (some .int)) (cd := zc82) (xg82) ⟨Nat.le_of_ble_eq_true rfl, by decide⟩ (Nat.le_refl _) ?_
  exact T82_11t H hd F rfl h
/-- LentTools$Village.earned -/
def D82_9 (F : Nat) (m : xS) : Option (Int32 × xS) :=
  some ((m.1 10 5), m)
set_option maxRecDepth 20000 in
theorem T82_9 {B : zHp} (H : yH0 B) {e : Nat} (he : 1 ≤ e + 1) (F : Nat) {lv : List (Nat × Value)} {m : xS} {x : Int32 × xS} (l0 : zld lv 0 = some (.ref 9)) (h : D82_9 F m = some x) : zR none e 1 (some .int) zc82 (0, lv, []) (xW B m) (some (.int x.1), xW B x.2) := by
  unfold D82_9 at h
  refine q_lr (k := 1) (i := 0) (q := (.aload_n 0, 1, 0, 0, .null)) rfl (fun _ => rfl) l0 ?_
  refine r_gr (c := 10) H (pc := 1) rfl (by decide) (by decide) ?_
  refine r_s (fr' := (5, lv, [.int 5, .ref 10])) (hp' := xW B m) (q := (.iconst 5, 1, 0, 0, .null)) rfl (fun _ => rfl) (Nat.le_refl _) ?_
  refine q_al (n := 114) (v := (m.1 10 5)) H (pc := 5) rfl (by decide) (by decide) rfl ?_
  obtain rfl := Option.some.inj h
  exact q_ri (q := (.ireturn, 1, 0, 0, .null)) rfl (fun _ => rfl) rfl rfl
set_option maxRecDepth 20000 in
theorem Z82_9 {B : zHp} (H : yH0 B) {F : Nat} {m : xS} {x : Int32 × xS} (h : D82_9 F m = some x) {d : Nat} (hd : 1 ≤ d) : zCan d 82 [.ref 9] (xW B m) (some (.int x.1), xW B x.2) := by
  obtain ⟨e, rfl⟩ : ∃ e, d = e + 1 := ⟨d - 1, by omega⟩
  refine zCan_body (nL := 1) (rt := (some .int)) (cd := zc82) (xg82) ⟨Nat.le_of_ble_eq_true rfl, by decide⟩ (Nat.le_refl _) ?_
  exact T82_9 H hd F rfl h
/-- LentTools.harvests -/
def D153_0_41 (F : Nat) (v1 : Int32) (v2 : Int32) (v3 : Int32) (m : xS) : Option (Int32 × xS) :=
  some ((-1), m)
set_option maxRecDepth 20000 in
theorem T153_0_41 {B : zHp} (H : yH0 B) {e : Nat} (he : 7 ≤ e + 1) (F : Nat) {v1 : Int32} {v2 : Int32} {v3 : Int32} {lv : List (Nat × Value)} {m : xS} {x : Int32 × xS} (l0 : zld lv 0 = some (.ref 0)) (l1 : zld lv 1 = some (.int v1)) (l2 : zld lv 2 = some (.int v2)) (l3 : zld lv 3 = some (.int v3)) (h : D153_0_41 F v1 v2 v3 m = some x) : zR none e 9 (some .int) zc153 (41, lv, []) (xW B m) (some (.int x.1), xW B x.2) := by
  unfold D153_0_41 at h
  refine r_s (fr' := (42, lv, [.int (-1)])) (hp' := xW B m) (q := (.iconst (-1), 1, 0, 0, .null)) rfl (fun _ => rfl) (Nat.le_refl _) ?_
  obtain rfl := Option.some.inj h
  exact q_ri (q := (.ireturn, 1, 0, 0, .null)) rfl (fun _ => rfl) rfl rfl
def D153_0_81 (F : Nat) (g61 : Int32 → Int32 → Int32 → Int32 → Int32 → Int32 → Int32 → xS → Option (Int32 × xS)) : Nat → Int32 → Int32 → Int32 → Int32 → Int32 → Int32 → Int32 → Int32 → xS → Option (Int32 × xS)
  | 0, _, _, _, _, _, _, _, _, _ => none
  | f + 1, v1, v2, v3, v4, v5, v6, v7, v8, m =>
    if zcmp .ge v8 v2 = true then
      (D82_11t F m).bind fun q129 =>
        (D82_9 F q129.2).bind fun q136 =>
          g61 v1 v2 v3 v4 (v5 + (q129.1 - q136.1)) v6 (v7 + Int32.ofInt 1) q136.2
    else
      (D12_43_11t F m).bind fun q97 =>
        (D109_11t F q97.2).bind fun q107 =>
          (D112_11t F q107.2).bind fun q114 =>
            D153_0_81 F g61 f v1 v2 v3 v4 v5 (v6 + q97.1) v7 (v8 + Int32.ofInt 1) q114.2
set_option maxRecDepth 20000 in
theorem T153_0_81 {B : zHp} (H : yH0 B) {e : Nat} (he : 7 ≤ e + 1) (F : Nat) (g61 : Int32 → Int32 → Int32 → Int32 → Int32 → Int32 → Int32 → xS → Option (Int32 × xS)) (k61 : ∀ {v1 : Int32} {v2 : Int32} {v3 : Int32} {v4 : Int32} {v5 : Int32} {v6 : Int32} {v7 : Int32} {lv : List (Nat × Value)} {m : xS} {x : Int32 × xS}, zld lv 0 = some (.ref 0) → zld lv 1 = some (.int v1) → zld lv 2 = some (.int v2) → zld lv 3 = some (.int v3) → zld lv 4 = some (.int v4) → zld lv 5 = some (.int v5) → zld lv 6 = some (.int v6) → zld lv 7 = some (.int v7) → g61 v1 v2 v3 v4 v5 v6 v7 m = some x → zR none e 9 (some .int) zc153 (61, lv, []) (xW B m) (some (.int x.1), xW B x.2)) : ∀ (f : Nat) {v1 : Int32} {v2 : Int32} {v3 : Int32} {v4 : Int32} {v5 : Int32} {v6 : Int32} {v7 : Int32} {v8 : Int32} {lv : List (Nat × Value)} {m : xS} {x : Int32 × xS}, zld lv 0 = some (.ref 0) → zld lv 1 = some (.int v1) → zld lv 2 = some (.int v2) → zld lv 3 = some (.int v3) → zld lv 4 = some (.int v4) → zld lv 5 = some (.int v5) → zld lv 6 = some (.int v6) → zld lv 7 = some (.int v7) → zld lv 8 = some (.int v8) → D153_0_81 F g61 f v1 v2 v3 v4 v5 v6 v7 v8 m = some x → zR none e 9 (some .int) zc153 (81, lv, []) (xW B m) (some (.int x.1), xW B x.2) := by
  intro f
  induction f with
  | zero => intro v1 v2 v3 v4 v5 v6 v7 v8 lv m x l0 l1 l2 l3 l4 l5 l6 l7 l8 h; cases h
  | succ f ih =>
    intro v1 v2 v3 v4 v5 v6 v7 v8 lv m x l0 l1 l2 l3 l4 l5 l6 l7 l8 h
    unfold D153_0_81 at h
    refine q_li (k := 2) (i := 8) (q := (.iload 8, 2, 0, 0, .null)) rfl (fun _ => rfl) l8 ?_
    refine q_li (k := 1) (i := 2) (q := (.iload_n 2, 1, 0, 0, .null)) rfl (fun _ => rfl) l2 ?_
    refine r_ifc (len := 3) (a := 123) (b := 0) (v0 := .null) (cn := .ge) (off := 39) rfl (fun c => ?_) (fun c => ?_)
    · rw [if_pos c] at h
      refine q_li (k := 2) (i := 5) (q := (.iload 5, 2, 0, 0, .null)) rfl (fun _ => rfl) l5 ?_
      refine q_lr (k := 1) (i := 0) (q := (.aload_n 0, 1, 0, 0, .null)) rfl (fun _ => rfl) l0 ?_
      refine r_gr (c := 11) H (pc := 126) rfl (by decide) (by decide) ?_
      obtain ⟨q129, h129, h⟩ := xbind h
      refine r_call (ix := 11) (as := []) (rest := [.int v5]) (rv := some (.int q129.1)) (hp' := xW B q129.2) (pc := 129) rfl xr82 rfl rfl rfl (xkd H (by decide)) (Nat.le_of_ble_eq_true rfl) (Z82_11t H h129 (by omega)) (Nat.le_refl _) ?_
      refine q_lr (k := 1) (i := 0) (q := (.aload_n 0, 1, 0, 0, .null)) rfl (fun _ => rfl) l0 ?_
      refine r_gr (c := 9) H (pc := 133) rfl (by decide) (by decide) ?_
      obtain ⟨q136, h136, h⟩ := xbind h
      refine r_call (ix := 9) (as := []) (rest := [.int q129.1, .int v5]) (rv := some (.int q136.1)) (hp' := xW B q136.2) (pc := 136) rfl xr82 rfl rfl rfl (xkd H (by decide)) (Nat.le_of_ble_eq_true rfl) (Z82_9 H h136 (by omega)) (Nat.le_refl _) ?_
      refine r_s (fr' := (140, lv, [.int (q129.1 - q136.1), .int v5])) (hp' := xW B q136.2) (q := (.isub, 1, 0, 0, .null)) rfl (fun _ => rfl) (Nat.le_refl _) ?_
      refine r_s (fr' := (141, lv, [.int (v5 + (q129.1 - q136.1))])) (hp' := xW B q136.2) (q := (.iadd, 1, 0, 0, .null)) rfl (fun _ => rfl) (Nat.le_refl _) ?_
      refine q_si (k := 2) (i := 5) (q := (.istore 5, 2, 0, 0, .null)) rfl (fun _ => rfl) (by decide) ?_
      have l0_1 : zld (zs1 lv 5 (.int (v5 + (q129.1 - q136.1)))) 0 = some (.ref 0) := x_o1 l0 rfl rfl
      have l1_1 : zld (zs1 lv 5 (.int (v5 + (q129.1 - q136.1)))) 1 = some (.int v1) := x_o1 l1 rfl rfl
      have l2_1 : zld (zs1 lv 5 (.int (v5 + (q129.1 - q136.1)))) 2 = some (.int v2) := x_o1 l2 rfl rfl
      have l3_1 : zld (zs1 lv 5 (.int (v5 + (q129.1 - q136.1)))) 3 = some (.int v3) := x_o1 l3 rfl rfl
      have l4_1 : zld (zs1 lv 5 (.int (v5 + (q129.1 - q136.1)))) 4 = some (.int v4) := x_o1 l4 rfl rfl
      have l5_1 : zld (zs1 lv 5 (.int (v5 + (q129.1 - q136.1)))) 5 = some (.int (v5 + (q129.1 - q136.1))) := zs1_ld _ _ _
      have l6_1 : zld (zs1 lv 5 (.int (v5 + (q129.1 - q136.1)))) 6 = some (.int v6) := x_o1 l6 rfl rfl
      have l7_1 : zld (zs1 lv 5 (.int (v5 + (q129.1 - q136.1)))) 7 = some (.int v7) := x_o1 l7 rfl rfl
      have l8_1 : zld (zs1 lv 5 (.int (v5 + (q129.1 - q136.1)))) 8 = some (.int v8) := x_o1 l8 rfl rfl
      generalize (zs1 lv 5 (.int (v5 + (q129.1 - q136.1)))) = lv1 at *
      refine q_inc (i := 7) (n := 1) (q := (.iinc 7 1, 3, 0, 0, .null)) rfl (fun _ => rfl) l7_1 (by decide) ?_
      have l0_2 : zld (zs1 lv1 7 (.int (v7 + Int32.ofInt 1))) 0 = some (.ref 0) := x_o1 l0_1 rfl rfl
      have l1_2 : zld (zs1 lv1 7 (.int (v7 + Int32.ofInt 1))) 1 = some (.int v1) := x_o1 l1_1 rfl rfl
      have l2_2 : zld (zs1 lv1 7 (.int (v7 + Int32.ofInt 1))) 2 = some (.int v2) := x_o1 l2_1 rfl rfl
      have l3_2 : zld (zs1 lv1 7 (.int (v7 + Int32.ofInt 1))) 3 = some (.int v3) := x_o1 l3_1 rfl rfl
      have l4_2 : zld (zs1 lv1 7 (.int (v7 + Int32.ofInt 1))) 4 = some (.int v4) := x_o1 l4_1 rfl rfl
      have l5_2 : zld (zs1 lv1 7 (.int (v7 + Int32.ofInt 1))) 5 = some (.int (v5 + (q129.1 - q136.1))) := x_o1 l5_1 rfl rfl
      have l6_2 : zld (zs1 lv1 7 (.int (v7 + Int32.ofInt 1))) 6 = some (.int v6) := x_o1 l6_1 rfl rfl
      have l7_2 : zld (zs1 lv1 7 (.int (v7 + Int32.ofInt 1))) 7 = some (.int (v7 + Int32.ofInt 1)) := zs1_ld _ _ _
      have l8_2 : zld (zs1 lv1 7 (.int (v7 + Int32.ofInt 1))) 8 = some (.int v8) := x_o1 l8_1 rfl rfl
      generalize (zs1 lv1 7 (.int (v7 + Int32.ofInt 1))) = lv2 at *
      refine r_s (fr' := (61, lv2, [])) (hp' := xW B q136.2) (q := (.goto (-85), 3, 61, 0, .null)) rfl (fun _ => rfl) (Nat.le_refl _) ?_
      exact k61 l0_2 l1_2 l2_2 l3_2 l4_2 l5_2 l6_2 l7_2 h
    · rw [if_neg (by rw [c]; decide)] at h
      refine q_li (k := 2) (i := 6) (q := (.iload 6, 2, 0, 0, .null)) rfl (fun _ => rfl) l6 ?_
      refine q_lr (k := 1) (i := 0) (q := (.aload_n 0, 1, 0, 0, .null)) rfl (fun _ => rfl) l0 ?_
      refine r_gr (c := 43) H (pc := 90) rfl (by decide) (by decide) ?_
      refine q_lr (k := 1) (i := 0) (q := (.aload_n 0, 1, 0, 0, .null)) rfl (fun _ => rfl) l0 ?_
      refine r_gr (c := 11) H (pc := 94) rfl (by decide) (by decide) ?_
      obtain ⟨q97, h97, h⟩ := xbind h
      refine r_call (ix := 43) (as := [.ref 11]) (rest := [.int v6]) (rv := some (.int q97.1)) (hp' := xW B q97.2) (pc := 97) rfl xr12 rfl rfl rfl (xkd H (by decide)) (Nat.le_of_ble_eq_true rfl) (Z12_43_11t H h97 (by omega)) (Nat.le_refl _) ?_
      refine r_s (fr' := (101, lv, [.int (v6 + q97.1)])) (hp' := xW B q97.2) (q := (.iadd, 1, 0, 0, .null)) rfl (fun _ => rfl) (Nat.le_refl _) ?_
      refine q_si (k := 2) (i := 6) (q := (.istore 6, 2, 0, 0, .null)) rfl (fun _ => rfl) (by decide) ?_
      have l0_3 : zld (zs1 lv 6 (.int (v6 + q97.1))) 0 = some (.ref 0) := x_o1 l0 rfl rfl
      have l1_3 : zld (zs1 lv 6 (.int (v6 + q97.1))) 1 = some (.int v1) := x_o1 l1 rfl rfl
      have l2_3 : zld (zs1 lv 6 (.int (v6 + q97.1))) 2 = some (.int v2) := x_o1 l2 rfl rfl
      have l3_3 : zld (zs1 lv 6 (.int (v6 + q97.1))) 3 = some (.int v3) := x_o1 l3 rfl rfl
      have l4_3 : zld (zs1 lv 6 (.int (v6 + q97.1))) 4 = some (.int v4) := x_o1 l4 rfl rfl
      have l5_3 : zld (zs1 lv 6 (.int (v6 + q97.1))) 5 = some (.int v5) := x_o1 l5 rfl rfl
      have l6_3 : zld (zs1 lv 6 (.int (v6 + q97.1))) 6 = some (.int (v6 + q97.1)) := zs1_ld _ _ _
      have l7_3 : zld (zs1 lv 6 (.int (v6 + q97.1))) 7 = some (.int v7) := x_o1 l7 rfl rfl
      have l8_3 : zld (zs1 lv 6 (.int (v6 + q97.1))) 8 = some (.int v8) := x_o1 l8 rfl rfl
      generalize (zs1 lv 6 (.int (v6 + q97.1))) = lv3 at *
      refine q_lr (k := 1) (i := 0) (q := (.aload_n 0, 1, 0, 0, .null)) rfl (fun _ => rfl) l0_3 ?_
      refine r_gr (c := 11) H (pc := 104) rfl (by decide) (by decide) ?_
      obtain ⟨q107, h107, h⟩ := xbind h
      refine r_call (ix := 11) (as := []) (rest := []) (rv := none) (hp' := xW B q107.2) (pc := 107) rfl xr109 rfl rfl rfl (xkd H (by decide)) (Nat.le_of_ble_eq_true rfl) (Z109_11t H h107 (by omega)) (Nat.le_refl _) ?_
      refine q_lr (k := 1) (i := 0) (q := (.aload_n 0, 1, 0, 0, .null)) rfl (fun _ => rfl) l0_3 ?_
      refine r_gr (c := 11) H (pc := 111) rfl (by decide) (by decide) ?_
      obtain ⟨q114, h114, h⟩ := xbind h
      refine r_call (ix := 11) (as := []) (rest := []) (rv := none) (hp' := xW B q114.2) (pc := 114) rfl xr112 rfl rfl rfl (xkd H (by decide)) (Nat.le_of_ble_eq_true rfl) (Z112_11t H h114 (by omega)) (Nat.le_refl _) ?_
      refine q_inc (i := 8) (n := 1) (q := (.iinc 8 1, 3, 0, 0, .null)) rfl (fun _ => rfl) l8_3 (by decide) ?_
      have l0_4 : zld (zs1 lv3 8 (.int (v8 + Int32.ofInt 1))) 0 = some (.ref 0) := x_o1 l0_3 rfl rfl
      have l1_4 : zld (zs1 lv3 8 (.int (v8 + Int32.ofInt 1))) 1 = some (.int v1) := x_o1 l1_3 rfl rfl
      have l2_4 : zld (zs1 lv3 8 (.int (v8 + Int32.ofInt 1))) 2 = some (.int v2) := x_o1 l2_3 rfl rfl
      have l3_4 : zld (zs1 lv3 8 (.int (v8 + Int32.ofInt 1))) 3 = some (.int v3) := x_o1 l3_3 rfl rfl
      have l4_4 : zld (zs1 lv3 8 (.int (v8 + Int32.ofInt 1))) 4 = some (.int v4) := x_o1 l4_3 rfl rfl
      have l5_4 : zld (zs1 lv3 8 (.int (v8 + Int32.ofInt 1))) 5 = some (.int v5) := x_o1 l5_3 rfl rfl
      have l6_4 : zld (zs1 lv3 8 (.int (v8 + Int32.ofInt 1))) 6 = some (.int (v6 + q97.1)) := x_o1 l6_3 rfl rfl
      have l7_4 : zld (zs1 lv3 8 (.int (v8 + Int32.ofInt 1))) 7 = some (.int v7) := x_o1 l7_3 rfl rfl
      have l8_4 : zld (zs1 lv3 8 (.int (v8 + Int32.ofInt 1))) 8 = some (.int (v8 + Int32.ofInt 1)) := zs1_ld _ _ _
      generalize (zs1 lv3 8 (.int (v8 + Int32.ofInt 1))) = lv4 at *
      refine r_s (fr' := (81, lv4, [])) (hp' := xW B q114.2) (q := (.goto (-39), 3, 81, 0, .null)) rfl (fun _ => rfl) (Nat.le_refl _) ?_
      exact ih l0_4 l1_4 l2_4 l3_4 l4_4 l5_4 l6_4 l7_4 l8_4 h
def D153_0_61 (F : Nat) : Nat → Int32 → Int32 → Int32 → Int32 → Int32 → Int32 → Int32 → xS → Option (Int32 × xS)
  | 0, _, _, _, _, _, _, _, _ => none
  | f + 1, v1, v2, v3, v4, v5, v6, v7, m =>
    if zcmp .ge v7 v1 = true then
      if zcmp .ne v3 0 = true then
        some (v6, (xu m 43 0 v4))
      else
        some (v5, (xu m 43 0 v4))
    else
      (D70_11t_9 F m).bind fun q75 =>
        D153_0_81 F (D153_0_61 F f) F v1 v2 v3 v4 v5 v6 v7 0 q75.2
set_option maxRecDepth 20000 in
theorem T153_0_61 {B : zHp} (H : yH0 B) {e : Nat} (he : 7 ≤ e + 1) (F : Nat) : ∀ (f : Nat) {v1 : Int32} {v2 : Int32} {v3 : Int32} {v4 : Int32} {v5 : Int32} {v6 : Int32} {v7 : Int32} {lv : List (Nat × Value)} {m : xS} {x : Int32 × xS}, zld lv 0 = some (.ref 0) → zld lv 1 = some (.int v1) → zld lv 2 = some (.int v2) → zld lv 3 = some (.int v3) → zld lv 4 = some (.int v4) → zld lv 5 = some (.int v5) → zld lv 6 = some (.int v6) → zld lv 7 = some (.int v7) → D153_0_61 F f v1 v2 v3 v4 v5 v6 v7 m = some x → zR none e 9 (some .int) zc153 (61, lv, []) (xW B m) (some (.int x.1), xW B x.2) := by
  intro f
  induction f with
  | zero => intro v1 v2 v3 v4 v5 v6 v7 lv m x l0 l1 l2 l3 l4 l5 l6 l7 h; cases h
  | succ f ih =>
    intro v1 v2 v3 v4 v5 v6 v7 lv m x l0 l1 l2 l3 l4 l5 l6 l7 h
    unfold D153_0_61 at h
    refine q_li (k := 2) (i := 7) (q := (.iload 7, 2, 0, 0, .null)) rfl (fun _ => rfl) l7 ?_
    refine q_li (k := 1) (i := 1) (q := (.iload_n 1, 1, 0, 0, .null)) rfl (fun _ => rfl) l1 ?_
    refine r_ifc (len := 3) (a := 149) (b := 0) (v0 := .null) (cn := .ge) (off := 85) rfl (fun c => ?_) (fun c => ?_)
    · rw [if_pos c] at h
      refine q_lr (k := 1) (i := 0) (q := (.aload_n 0, 1, 0, 0, .null)) rfl (fun _ => rfl) l0 ?_
      refine r_gr (c := 43) H (pc := 150) rfl (by decide) (by decide) ?_
      refine q_li (k := 2) (i := 4) (q := (.iload 4, 2, 0, 0, .null)) rfl (fun _ => rfl) l4 ?_
      refine r_pi (s2 := (xu m 43 0 v4)) H (pc := 155) rfl (by decide) rfl rfl ?_
      refine q_li (k := 1) (i := 3) (q := (.iload_n 3, 1, 0, 0, .null)) rfl (fun _ => rfl) l3 ?_
      refine r_if (len := 3) (a := 167) (b := 0) (v0 := .null) (cn := .ne) (off := 8) rfl (fun c => ?_) (fun c => ?_)
      · rw [if_pos c] at h
        refine q_li (k := 2) (i := 6) (q := (.iload 6, 2, 0, 0, .null)) rfl (fun _ => rfl) l6 ?_
        obtain rfl := Option.some.inj h
        exact q_ri (q := (.ireturn, 1, 0, 0, .null)) rfl (fun _ => rfl) rfl rfl
      · rw [if_neg (by rw [c]; decide)] at h
        refine q_li (k := 2) (i := 5) (q := (.iload 5, 2, 0, 0, .null)) rfl (fun _ => rfl) l5 ?_
        refine r_s (fr' := (169, lv, [.int v5])) (hp' := xW B (xu m 43 0 v4)) (q := (.goto 5, 3, 169, 0, .null)) rfl (fun _ => rfl) (Nat.le_refl _) ?_
        obtain rfl := Option.some.inj h
        exact q_ri (q := (.ireturn, 1, 0, 0, .null)) rfl (fun _ => rfl) rfl rfl
    · rw [if_neg (by rw [c]; decide)] at h
      refine q_lr (k := 1) (i := 0) (q := (.aload_n 0, 1, 0, 0, .null)) rfl (fun _ => rfl) l0 ?_
      refine r_gr (c := 11) H (pc := 68) rfl (by decide) (by decide) ?_
      refine q_lr (k := 1) (i := 0) (q := (.aload_n 0, 1, 0, 0, .null)) rfl (fun _ => rfl) l0 ?_
      refine r_gr (c := 9) H (pc := 72) rfl (by decide) (by decide) ?_
      obtain ⟨q75, h75, h⟩ := xbind h
      refine r_call (ix := 11) (as := [.ref 9]) (rest := []) (rv := none) (hp' := xW B q75.2) (pc := 75) rfl xr70 rfl rfl rfl (xkd H (by decide)) (Nat.le_of_ble_eq_true rfl) (Z70_11t_9 H h75 (by omega)) (Nat.le_refl _) ?_
      refine r_s (fr' := (79, lv, [.int 0])) (hp' := xW B q75.2) (q := (.iconst 0, 1, 0, 0, .null)) rfl (fun _ => rfl) (Nat.le_refl _) ?_
      refine q_si (k := 2) (i := 8) (q := (.istore 8, 2, 0, 0, .null)) rfl (fun _ => rfl) (by decide) ?_
      have l0_1 : zld (zs1 lv 8 (.int 0)) 0 = some (.ref 0) := x_o1 l0 rfl rfl
      have l1_1 : zld (zs1 lv 8 (.int 0)) 1 = some (.int v1) := x_o1 l1 rfl rfl
      have l2_1 : zld (zs1 lv 8 (.int 0)) 2 = some (.int v2) := x_o1 l2 rfl rfl
      have l3_1 : zld (zs1 lv 8 (.int 0)) 3 = some (.int v3) := x_o1 l3 rfl rfl
      have l4_1 : zld (zs1 lv 8 (.int 0)) 4 = some (.int v4) := x_o1 l4 rfl rfl
      have l5_1 : zld (zs1 lv 8 (.int 0)) 5 = some (.int v5) := x_o1 l5 rfl rfl
      have l6_1 : zld (zs1 lv 8 (.int 0)) 6 = some (.int v6) := x_o1 l6 rfl rfl
      have l7_1 : zld (zs1 lv 8 (.int 0)) 7 = some (.int v7) := x_o1 l7 rfl rfl
      have l8_1 : zld (zs1 lv 8 (.int 0)) 8 = some (.int 0) := zs1_ld _ _ _
      generalize (zs1 lv 8 (.int 0)) = lv1 at *
      exact T153_0_81 H he F _ ih F l0_1 l1_1 l2_1 l3_1 l4_1 l5_1 l6_1 l7_1 l8_1 h
def D153_0 (F : Nat) (v1 : Int32) (v2 : Int32) (v3 : Int32) (m : xS) : Option (Int32 × xS) :=
  (D76_9 F m).bind fun q4 =>
    if zcmp .eq q4.1 0 = true then
      D153_0_41 F v1 v2 v3 q4.2
    else
      if zcmp .lt v1 1 = true then
        D153_0_41 F v1 v2 v3 q4.2
      else
        if zcmp .gt v1 10 = true then
          D153_0_41 F v1 v2 v3 q4.2
        else
          if zcmp .lt v2 1 = true then
            D153_0_41 F v1 v2 v3 q4.2
          else
            if zcmp .gt v2 60 = true then
              D153_0_41 F v1 v2 v3 q4.2
            else
              if zcmp .lt v3 0 = true then
                D153_0_41 F v1 v2 v3 q4.2
              else
                if zcmp .le v3 1 = true then
                  D153_0_61 F F v1 v2 v3 (q4.2.1 43 0) 0 0 0 q4.2
                else
                  D153_0_41 F v1 v2 v3 q4.2
set_option maxRecDepth 20000 in
theorem T153_0 {B : zHp} (H : yH0 B) {e : Nat} (he : 7 ≤ e + 1) (F : Nat) {v1 : Int32} {v2 : Int32} {v3 : Int32} {lv : List (Nat × Value)} {m : xS} {x : Int32 × xS} (l0 : zld lv 0 = some (.ref 0)) (l1 : zld lv 1 = some (.int v1)) (l2 : zld lv 2 = some (.int v2)) (l3 : zld lv 3 = some (.int v3)) (h : D153_0 F v1 v2 v3 m = some x) : zR none e 9 (some .int) zc153 (0, lv, []) (xW B m) (some (.int x.1), xW B x.2) := by
  unfold D153_0 at h
  refine q_lr (k := 1) (i := 0) (q := (.aload_n 0, 1, 0, 0, .null)) rfl (fun _ => rfl) l0 ?_
  refine r_gr (c := 9) H (pc := 1) rfl (by decide) (by decide) ?_
  obtain ⟨q4, h4, h⟩ := xbind h
  refine r_call (ix := 9) (as := []) (rest := []) (rv := some (.int q4.1)) (hp' := xW B q4.2) (pc := 4) rfl xr76 rfl rfl rfl (xkd H (by decide)) (Nat.le_of_ble_eq_true rfl) (Z76_9 H h4 (by omega)) (Nat.le_refl _) ?_
  refine r_if (len := 3) (a := 41) (b := 0) (v0 := .null) (cn := .eq) (off := 34) rfl (fun c => ?_) (fun c => ?_)
  · rw [if_pos c] at h
    exact T153_0_41 H he F l0 l1 l2 l3 h
  · rw [if_neg (by rw [c]; decide)] at h
    refine q_li (k := 1) (i := 1) (q := (.iload_n 1, 1, 0, 0, .null)) rfl (fun _ => rfl) l1 ?_
    refine r_s (fr' := (12, lv, [.int 1, .int v1])) (hp' := xW B q4.2) (q := (.iconst 1, 1, 0, 0, .null)) rfl (fun _ => rfl) (Nat.le_refl _) ?_
    refine r_ifc (len := 3) (a := 41) (b := 0) (v0 := .null) (cn := .lt) (off := 29) rfl (fun c => ?_) (fun c => ?_)
    · rw [if_pos c] at h
      exact T153_0_41 H he F l0 l1 l2 l3 h
    · rw [if_neg (by rw [c]; decide)] at h
      refine q_li (k := 1) (i := 1) (q := (.iload_n 1, 1, 0, 0, .null)) rfl (fun _ => rfl) l1 ?_
      refine r_s (fr' := (18, lv, [.int 10, .int v1])) (hp' := xW B q4.2) (q := (.bipush 10, 2, 0, 0, .null)) rfl (fun _ => rfl) (Nat.le_refl _) ?_
      refine r_ifc (len := 3) (a := 41) (b := 0) (v0 := .null) (cn := .gt) (off := 23) rfl (fun c => ?_) (fun c => ?_)
      · rw [if_pos c] at h
        exact T153_0_41 H he F l0 l1 l2 l3 h
      · rw [if_neg (by rw [c]; decide)] at h
        refine q_li (k := 1) (i := 2) (q := (.iload_n 2, 1, 0, 0, .null)) rfl (fun _ => rfl) l2 ?_
        refine r_s (fr' := (23, lv, [.int 1, .int v2])) (hp' := xW B q4.2) (q := (.iconst 1, 1, 0, 0, .null)) rfl (fun _ => rfl) (Nat.le_refl _) ?_
        refine r_ifc (len := 3) (a := 41) (b := 0) (v0 := .null) (cn := .lt) (off := 18) rfl (fun c => ?_) (fun c => ?_)
        · rw [if_pos c] at h
          exact T153_0_41 H he F l0 l1 l2 l3 h
        · rw [if_neg (by rw [c]; decide)] at h
          refine q_li (k := 1) (i := 2) (q := (.iload_n 2, 1, 0, 0, .null)) rfl (fun _ => rfl) l2 ?_
          refine r_s (fr' := (29, lv, [.int 60, .int v2])) (hp' := xW B q4.2) (q := (.bipush 60, 2, 0, 0, .null)) rfl (fun _ => rfl) (Nat.le_refl _) ?_
          refine r_ifc (len := 3) (a := 41) (b := 0) (v0 := .null) (cn := .gt) (off := 12) rfl (fun c => ?_) (fun c => ?_)
          · rw [if_pos c] at h
            exact T153_0_41 H he F l0 l1 l2 l3 h
          · rw [if_neg (by rw [c]; decide)] at h
            refine q_li (k := 1) (i := 3) (q := (.iload_n 3, 1, 0, 0, .null)) rfl (fun _ => rfl) l3 ?_
            refine r_if (len := 3) (a := 41) (b := 0) (v0 := .null) (cn := .lt) (off := 8) rfl (fun c => ?_) (fun c => ?_)
            · rw [if_pos c] at h
              exact T153_0_41 H he F l0 l1 l2 l3 h
            · rw [if_neg (by rw [c]; decide)] at h
              refine q_li (k := 1) (i := 3) (q := (.iload_n 3, 1, 0, 0, .null)) rfl (fun _ => rfl) l3 ?_
              refine r_s (fr' := (38, lv, [.int 1, .int v3])) (hp' := xW B q4.2) (q := (.iconst 1, 1, 0, 0, .null)) rfl (fun _ => rfl) (Nat.le_refl _) ?_
              refine r_ifc (len := 3) (a := 43) (b := 0) (v0 := .null) (cn := .le) (off := 5) rfl (fun c => ?_) (fun c => ?_)
              · rw [if_pos c] at h
                refine q_lr (k := 1) (i := 0) (q := (.aload_n 0, 1, 0, 0, .null)) rfl (fun _ => rfl) l0 ?_
                refine r_gr (c := 43) H (pc := 44) rfl (by decide) (by decide) ?_
                refine r_gi (v := (q4.2.1 43 0)) H (pc := 47) (i := _) rfl (by decide) (by decide) rfl ?_
                refine q_si (k := 2) (i := 4) (q := (.istore 4, 2, 0, 0, .null)) rfl (fun _ => rfl) (by decide) ?_
                have l0_1 : zld (zs1 lv 4 (.int (q4.2.1 43 0))) 0 = some (.ref 0) := x_o1 l0 rfl rfl
                have l1_1 : zld (zs1 lv 4 (.int (q4.2.1 43 0))) 1 = some (.int v1) := x_o1 l1 rfl rfl
                have l2_1 : zld (zs1 lv 4 (.int (q4.2.1 43 0))) 2 = some (.int v2) := x_o1 l2 rfl rfl
                have l3_1 : zld (zs1 lv 4 (.int (q4.2.1 43 0))) 3 = some (.int v3) := x_o1 l3 rfl rfl
                have l4_1 : zld (zs1 lv 4 (.int (q4.2.1 43 0))) 4 = some (.int (q4.2.1 43 0)) := zs1_ld _ _ _
                generalize (zs1 lv 4 (.int (q4.2.1 43 0))) = lv1 at *
                refine r_s (fr' := (53, lv1, [.int 0])) (hp' := xW B q4.2) (q := (.iconst 0, 1, 0, 0, .null)) rfl (fun _ => rfl) (Nat.le_refl _) ?_
                refine q_si (k := 2) (i := 5) (q := (.istore 5, 2, 0, 0, .null)) rfl (fun _ => rfl) (by decide) ?_
                have l0_2 : zld (zs1 lv1 5 (.int 0)) 0 = some (.ref 0) := x_o1 l0_1 rfl rfl
                have l1_2 : zld (zs1 lv1 5 (.int 0)) 1 = some (.int v1) := x_o1 l1_1 rfl rfl
                have l2_2 : zld (zs1 lv1 5 (.int 0)) 2 = some (.int v2) := x_o1 l2_1 rfl rfl
                have l3_2 : zld (zs1 lv1 5 (.int 0)) 3 = some (.int v3) := x_o1 l3_1 rfl rfl
                have l4_2 : zld (zs1 lv1 5 (.int 0)) 4 = some (.int (q4.2.1 43 0)) := x_o1 l4_1 rfl rfl
                have l5_2 : zld (zs1 lv1 5 (.int 0)) 5 = some (.int 0) := zs1_ld _ _ _
                generalize (zs1 lv1 5 (.int 0)) = lv2 at *
                refine r_s (fr' := (56, lv2, [.int 0])) (hp' := xW B q4.2) (q := (.iconst 0, 1, 0, 0, .null)) rfl (fun _ => rfl) (Nat.le_refl _) ?_
                refine q_si (k := 2) (i := 6) (q := (.istore 6, 2, 0, 0, .null)) rfl (fun _ => rfl) (by decide) ?_
                have l0_3 : zld (zs1 lv2 6 (.int 0)) 0 = some (.ref 0) := x_o1 l0_2 rfl rfl
                have l1_3 : zld (zs1 lv2 6 (.int 0)) 1 = some (.int v1) := x_o1 l1_2 rfl rfl
                have l2_3 : zld (zs1 lv2 6 (.int 0)) 2 = some (.int v2) := x_o1 l2_2 rfl rfl
                have l3_3 : zld (zs1 lv2 6 (.int 0)) 3 = some (.int v3) := x_o1 l3_2 rfl rfl
                have l4_3 : zld (zs1 lv2 6 (.int 0)) 4 = some (.int (q4.2.1 43 0)) := x_o1 l4_2 rfl rfl
                have l5_3 : zld (zs1 lv2 6 (.int 0)) 5 = some (.int 0) := x_o1 l5_2 rfl rfl
                have l6_3 : zld (zs1 lv2 6 (.int 0)) 6 = some (.int 0) := zs1_ld _ _ _
                generalize (zs1 lv2 6 (.int 0)) = lv3 at *
                refine r_s (fr' := (59, lv3, [.int 0])) (hp' := xW B q4.2) (q := (.iconst 0, 1, 0, 0, .null)) rfl (fun _ => rfl) (Nat.le_refl _) ?_
                refine q_si (k := 2) (i := 7) (q := (.istore 7, 2, 0, 0, .null)) rfl (fun _ => rfl) (by decide) ?_
                have l0_4 : zld (zs1 lv3 7 (.int 0)) 0 = some (.ref 0) := x_o1 l0_3 rfl rfl
                have l1_4 : zld (zs1 lv3 7 (.int 0)) 1 = some (.int v1) := x_o1 l1_3 rfl rfl
                have l2_4 : zld (zs1 lv3 7 (.int 0)) 2 = some (.int v2) := x_o1 l2_3 rfl rfl
                have l3_4 : zld (zs1 lv3 7 (.int 0)) 3 = some (.int v3) := x_o1 l3_3 rfl rfl
                have l4_4 : zld (zs1 lv3 7 (.int 0)) 4 = some (.int (q4.2.1 43 0)) := x_o1 l4_3 rfl rfl
                have l5_4 : zld (zs1 lv3 7 (.int 0)) 5 = some (.int 0) := x_o1 l5_3 rfl rfl
                have l6_4 : zld (zs1 lv3 7 (.int 0)) 6 = some (.int 0) := x_o1 l6_3 rfl rfl
                have l7_4 : zld (zs1 lv3 7 (.int 0)) 7 = some (.int 0) := zs1_ld _ _ _
                generalize (zs1 lv3 7 (.int 0)) = lv4 at *
                exact T153_0_61 H he F F l0_4 l1_4 l2_4 l3_4 l4_4 l5_4 l6_4 l7_4 h
              · rw [if_neg (by rw [c]; decide)] at h
                exact T153_0_41 H he F l0 l1 l2 l3 h
set_option maxRecDepth 20000 in
theorem Z153_0 {B : zHp} (H : yH0 B) {F : Nat} {a1 : Int32} {a2 : Int32} {a3 : Int32} {m : xS} {x : Int32 × xS} (h : D153_0 F a1 a2 a3 m = some x) {d : Nat} (hd : 7 ≤ d) : zCan d 153 [.ref 0, .int a1, .int a2, .int a3] (xW B m) (some (.int x.1), xW B x.2) := by
  obtain ⟨e, rfl⟩ : ∃ e, d = e + 1 := ⟨d - 1, by omega⟩
  refine zCan_body (nL := 9) (rt := (some .int)) (cd := zc153) (xg153) ⟨Nat.le_of_ble_eq_true rfl, by decide⟩ (Nat.le_refl _) ?_
  exact T153_0 H hd F rfl rfl rfl rfl h
/-- LentTools$Village.allThanks -/
def D96_9_5 (F : Nat) : Nat → Int32 → Int32 → xS → Option (Int32 × xS)
  | 0, _, _, _ => none
  | f + 1, v1, v2, m =>
    if zcmp .ge v2 114 = true then
      some (v1, m)
    else
      if xib v2 114 = true then
        D96_9_5 F f (v1 + (m.1 10 (v2 : Int32).toNatClampNeg)) (v2 + Int32.ofInt 1) m
      else none
set_option maxRecDepth 20000 in
theorem T96_9_5 {B : zHp} (H : yH0 B) {e : Nat} (he : 1 ≤ e + 1) (F : Nat) : ∀ (f : Nat) {v1 : Int32} {v2 : Int32} {lv : List (Nat × Value)} {m : xS} {x : Int32 × xS}, zld lv 0 = some (.ref 9) → zld lv 1 = some (.int v1) → zld lv 2 = some (.int v2) → D96_9_5 F f v1 v2 m = some x → zR none e 3 (some .int) zc96 (5, lv, []) (xW B m) (some (.int x.1), xW B x.2) := by
  intro f
  induction f with
  | zero => intro v1 v2 lv m x l0 l1 l2 h; cases h
  | succ f ih =>
    intro v1 v2 lv m x l0 l1 l2 h
    unfold D96_9_5 at h
    refine q_li (k := 1) (i := 2) (q := (.iload_n 2, 1, 0, 0, .null)) rfl (fun _ => rfl) l2 ?_
    refine r_s (fr' := (8, lv, [.int 114, .int v2])) (hp' := xW B m) (q := (.bipush 114, 2, 0, 0, .null)) rfl (fun _ => rfl) (Nat.le_refl _) ?_
    refine r_ifc (len := 3) (a := 26) (b := 0) (v0 := .null) (cn := .ge) (off := 18) rfl (fun c => ?_) (fun c => ?_)
    · rw [if_pos c] at h
      refine q_li (k := 1) (i := 1) (q := (.iload_n 1, 1, 0, 0, .null)) rfl (fun _ => rfl) l1 ?_
      obtain rfl := Option.some.inj h
      exact q_ri (q := (.ireturn, 1, 0, 0, .null)) rfl (fun _ => rfl) rfl rfl
    · rw [if_neg (by rw [c]; decide)] at h
      refine q_li (k := 1) (i := 1) (q := (.iload_n 1, 1, 0, 0, .null)) rfl (fun _ => rfl) l1 ?_
      refine q_lr (k := 1) (i := 0) (q := (.aload_n 0, 1, 0, 0, .null)) rfl (fun _ => rfl) l0 ?_
      refine r_gr (c := 10) H (pc := 13) rfl (by decide) (by decide) ?_
      refine q_li (k := 1) (i := 2) (q := (.iload_n 2, 1, 0, 0, .null)) rfl (fun _ => rfl) l2 ?_
      obtain ⟨c1, h⟩ := xif h
      refine q_al (n := 114) (v := (m.1 10 (v2 : Int32).toNatClampNeg)) H (pc := 17) rfl (by decide) c1 rfl ?_
      refine r_s (fr' := (19, lv, [.int (v1 + (m.1 10 (v2 : Int32).toNatClampNeg))])) (hp' := xW B m) (q := (.iadd, 1, 0, 0, .null)) rfl (fun _ => rfl) (Nat.le_refl _) ?_
      refine q_si (k := 1) (i := 1) (q := (.istore_n 1, 1, 0, 0, .null)) rfl (fun _ => rfl) (by decide) ?_
      have l0_2 : zld (zs1 lv 1 (.int (v1 + (m.1 10 (v2 : Int32).toNatClampNeg)))) 0 = some (.ref 9) := x_o1 l0 rfl rfl
      have l1_2 : zld (zs1 lv 1 (.int (v1 + (m.1 10 (v2 : Int32).toNatClampNeg)))) 1 = some (.int (v1 + (m.1 10 (v2 : Int32).toNatClampNeg))) := zs1_ld _ _ _
      have l2_2 : zld (zs1 lv 1 (.int (v1 + (m.1 10 (v2 : Int32).toNatClampNeg)))) 2 = some (.int v2) := x_o1 l2 rfl rfl
      generalize (zs1 lv 1 (.int (v1 + (m.1 10 (v2 : Int32).toNatClampNeg)))) = lv2 at *
      refine q_inc (i := 2) (n := 1) (q := (.iinc 2 1, 3, 0, 0, .null)) rfl (fun _ => rfl) l2_2 (by decide) ?_
      have l0_3 : zld (zs1 lv2 2 (.int (v2 + Int32.ofInt 1))) 0 = some (.ref 9) := x_o1 l0_2 rfl rfl
      have l1_3 : zld (zs1 lv2 2 (.int (v2 + Int32.ofInt 1))) 1 = some (.int (v1 + (m.1 10 (v2 : Int32).toNatClampNeg))) := x_o1 l1_2 rfl rfl
      have l2_3 : zld (zs1 lv2 2 (.int (v2 + Int32.ofInt 1))) 2 = some (.int (v2 + Int32.ofInt 1)) := zs1_ld _ _ _
      generalize (zs1 lv2 2 (.int (v2 + Int32.ofInt 1))) = lv3 at *
      refine r_s (fr' := (5, lv3, [])) (hp' := xW B m) (q := (.goto (-18), 3, 5, 0, .null)) rfl (fun _ => rfl) (Nat.le_refl _) ?_
      exact ih l0_3 l1_3 l2_3 h
def D96_9 (F : Nat) (m : xS) : Option (Int32 × xS) :=
  D96_9_5 F F 0 78 m
set_option maxRecDepth 20000 in
theorem T96_9 {B : zHp} (H : yH0 B) {e : Nat} (he : 1 ≤ e + 1) (F : Nat) {lv : List (Nat × Value)} {m : xS} {x : Int32 × xS} (l0 : zld lv 0 = some (.ref 9)) (h : D96_9 F m = some x) : zR none e 3 (some .int) zc96 (0, lv, []) (xW B m) (some (.int x.1), xW B x.2) := by
  unfold D96_9 at h
  refine r_s (fr' := (1, lv, [.int 0])) (hp' := xW B m) (q := (.iconst 0, 1, 0, 0, .null)) rfl (fun _ => rfl) (Nat.le_refl _) ?_
  refine q_si (k := 1) (i := 1) (q := (.istore_n 1, 1, 0, 0, .null)) rfl (fun _ => rfl) (by decide) ?_
  have l0_1 : zld (zs1 lv 1 (.int 0)) 0 = some (.ref 9) := x_o1 l0 rfl rfl
  have l1_1 : zld (zs1 lv 1 (.int 0)) 1 = some (.int 0) := zs1_ld _ _ _
  generalize (zs1 lv 1 (.int 0)) = lv1 at *
  refine r_s (fr' := (4, lv1, [.int 78])) (hp' := xW B m) (q := (.bipush 78, 2, 0, 0, .null)) rfl (fun _ => rfl) (Nat.le_refl _) ?_
  refine q_si (k := 1) (i := 2) (q := (.istore_n 2, 1, 0, 0, .null)) rfl (fun _ => rfl) (by decide) ?_
  have l0_2 : zld (zs1 lv1 2 (.int 78)) 0 = some (.ref 9) := x_o1 l0_1 rfl rfl
  have l1_2 : zld (zs1 lv1 2 (.int 78)) 1 = some (.int 0) := x_o1 l1_1 rfl rfl
  have l2_2 : zld (zs1 lv1 2 (.int 78)) 2 = some (.int 78) := zs1_ld _ _ _
  generalize (zs1 lv1 2 (.int 78)) = lv2 at *
  exact T96_9_5 H he F F l0_2 l1_2 l2_2 h
set_option maxRecDepth 20000 in
theorem Z96_9 {B : zHp} (H : yH0 B) {F : Nat} {m : xS} {x : Int32 × xS} (h : D96_9 F m = some x) {d : Nat} (hd : 1 ≤ d) : zCan d 96 [.ref 9] (xW B m) (some (.int x.1), xW B x.2) := by
  obtain ⟨e, rfl⟩ : ∃ e, d = e + 1 := ⟨d - 1, by omega⟩
  refine zCan_body (nL := 3) (rt := (some .int)) (cd := zc96) (xg96) ⟨Nat.le_of_ble_eq_true rfl, by decide⟩ (Nat.le_refl _) ?_
  exact T96_9 H hd F rfl h
/-- LentTools$Village.doneBits -/
def D110_9_26 (F : Nat) (g4 : Int32 → Int32 → xS → Option (Int32 × xS)) (v1 : Int32) (v2 : Int32) (m : xS) : Option (Int32 × xS) :=
  g4 v1 (v2 + Int32.ofInt 1) m
set_option maxRecDepth 20000 in
theorem T110_9_26 {B : zHp} (H : yH0 B) {e : Nat} (he : 3 ≤ e + 1) (F : Nat) (g4 : Int32 → Int32 → xS → Option (Int32 × xS)) (k4 : ∀ {v1 : Int32} {v2 : Int32} {lv : List (Nat × Value)} {m : xS} {x : Int32 × xS}, zld lv 0 = some (.ref 9) → zld lv 1 = some (.int v1) → zld lv 2 = some (.int v2) → g4 v1 v2 m = some x → zR none e 3 (some .int) zc110 (4, lv, []) (xW B m) (some (.int x.1), xW B x.2)) {v1 : Int32} {v2 : Int32} {lv : List (Nat × Value)} {m : xS} {x : Int32 × xS} (l0 : zld lv 0 = some (.ref 9)) (l1 : zld lv 1 = some (.int v1)) (l2 : zld lv 2 = some (.int v2)) (h : D110_9_26 F g4 v1 v2 m = some x) : zR none e 3 (some .int) zc110 (26, lv, []) (xW B m) (some (.int x.1), xW B x.2) := by
  unfold D110_9_26 at h
  refine q_inc (i := 2) (n := 1) (q := (.iinc 2 1, 3, 0, 0, .null)) rfl (fun _ => rfl) l2 (by decide) ?_
  have l0_1 : zld (zs1 lv 2 (.int (v2 + Int32.ofInt 1))) 0 = some (.ref 9) := x_o1 l0 rfl rfl
  have l1_1 : zld (zs1 lv 2 (.int (v2 + Int32.ofInt 1))) 1 = some (.int v1) := x_o1 l1 rfl rfl
  have l2_1 : zld (zs1 lv 2 (.int (v2 + Int32.ofInt 1))) 2 = some (.int (v2 + Int32.ofInt 1)) := zs1_ld _ _ _
  generalize (zs1 lv 2 (.int (v2 + Int32.ofInt 1))) = lv1 at *
  refine r_s (fr' := (4, lv1, [])) (hp' := xW B m) (q := (.goto (-25), 3, 4, 0, .null)) rfl (fun _ => rfl) (Nat.le_refl _) ?_
  exact k4 l0_1 l1_1 l2_1 h
def D110_9_4 (F : Nat) : Nat → Int32 → Int32 → xS → Option (Int32 × xS)
  | 0, _, _, _ => none
  | f + 1, v1, v2, m =>
    (D80_9 F m).bind fun q6 =>
      if zcmp .ge v2 q6.1 = true then
        some (v1, q6.2)
      else
        (D106_9 F v2 q6.2).bind fun q14 =>
          if zcmp .eq q14.1 0 = true then
            D110_9_26 F (D110_9_4 F f) v1 v2 q14.2
          else
            D110_9_26 F (D110_9_4 F f) (v1 ||| (1 <<< (v2 &&& 31))) v2 q14.2
set_option maxRecDepth 20000 in
theorem T110_9_4 {B : zHp} (H : yH0 B) {e : Nat} (he : 3 ≤ e + 1) (F : Nat) : ∀ (f : Nat) {v1 : Int32} {v2 : Int32} {lv : List (Nat × Value)} {m : xS} {x : Int32 × xS}, zld lv 0 = some (.ref 9) → zld lv 1 = some (.int v1) → zld lv 2 = some (.int v2) → D110_9_4 F f v1 v2 m = some x → zR none e 3 (some .int) zc110 (4, lv, []) (xW B m) (some (.int x.1), xW B x.2) := by
  intro f
  induction f with
  | zero => intro v1 v2 lv m x l0 l1 l2 h; cases h
  | succ f ih =>
    intro v1 v2 lv m x l0 l1 l2 h
    unfold D110_9_4 at h
    refine q_li (k := 1) (i := 2) (q := (.iload_n 2, 1, 0, 0, .null)) rfl (fun _ => rfl) l2 ?_
    refine q_lr (k := 1) (i := 0) (q := (.aload_n 0, 1, 0, 0, .null)) rfl (fun _ => rfl) l0 ?_
    obtain ⟨q6, h6, h⟩ := xbind h
    refine r_call (ix := 9) (as := []) (rest := [.int v2]) (rv := some (.int q6.1)) (hp' := xW B q6.2) (pc := 6) rfl xr80 rfl rfl rfl (xkd H (by decide)) (Nat.le_of_ble_eq_true rfl) (Z80_9 H h6 (by omega)) (Nat.le_refl _) ?_
    refine r_ifc (len := 3) (a := 32) (b := 0) (v0 := .null) (cn := .ge) (off := 23) rfl (fun c => ?_) (fun c => ?_)
    · rw [if_pos c] at h
      refine q_li (k := 1) (i := 1) (q := (.iload_n 1, 1, 0, 0, .null)) rfl (fun _ => rfl) l1 ?_
      obtain rfl := Option.some.inj h
      exact q_ri (q := (.ireturn, 1, 0, 0, .null)) rfl (fun _ => rfl) rfl rfl
    · rw [if_neg (by rw [c]; decide)] at h
      refine q_lr (k := 1) (i := 0) (q := (.aload_n 0, 1, 0, 0, .null)) rfl (fun _ => rfl) l0 ?_
      refine q_li (k := 1) (i := 2) (q := (.iload_n 2, 1, 0, 0, .null)) rfl (fun _ => rfl) l2 ?_
      obtain ⟨q14, h14, h⟩ := xbind h
      refine r_call (ix := 9) (as := [.int v2]) (rest := []) (rv := some (.int q14.1)) (hp' := xW B q14.2) (pc := 14) rfl xr106 rfl rfl rfl (xkd H (by decide)) (Nat.le_of_ble_eq_true rfl) (Z106_9 H h14 (by omega)) (Nat.le_refl _) ?_
      refine r_if (len := 3) (a := 26) (b := 0) (v0 := .null) (cn := .eq) (off := 9) rfl (fun c => ?_) (fun c => ?_)
      · rw [if_pos c] at h
        exact T110_9_26 H he F _ ih l0 l1 l2 h
      · rw [if_neg (by rw [c]; decide)] at h
        refine q_li (k := 1) (i := 1) (q := (.iload_n 1, 1, 0, 0, .null)) rfl (fun _ => rfl) l1 ?_
        refine r_s (fr' := (22, lv, [.int 1, .int v1])) (hp' := xW B q14.2) (q := (.iconst 1, 1, 0, 0, .null)) rfl (fun _ => rfl) (Nat.le_refl _) ?_
        refine q_li (k := 1) (i := 2) (q := (.iload_n 2, 1, 0, 0, .null)) rfl (fun _ => rfl) l2 ?_
        refine r_s (fr' := (24, lv, [.int (1 <<< (v2 &&& 31)), .int v1])) (hp' := xW B q14.2) (q := (.ishl, 1, 0, 0, .null)) rfl (fun _ => rfl) (Nat.le_refl _) ?_
        refine r_s (fr' := (25, lv, [.int (v1 ||| (1 <<< (v2 &&& 31)))])) (hp' := xW B q14.2) (q := (.ior, 1, 0, 0, .null)) rfl (fun _ => rfl) (Nat.le_refl _) ?_
        refine q_si (k := 1) (i := 1) (q := (.istore_n 1, 1, 0, 0, .null)) rfl (fun _ => rfl) (by decide) ?_
        have l0_1 : zld (zs1 lv 1 (.int (v1 ||| (1 <<< (v2 &&& 31))))) 0 = some (.ref 9) := x_o1 l0 rfl rfl
        have l1_1 : zld (zs1 lv 1 (.int (v1 ||| (1 <<< (v2 &&& 31))))) 1 = some (.int (v1 ||| (1 <<< (v2 &&& 31)))) := zs1_ld _ _ _
        have l2_1 : zld (zs1 lv 1 (.int (v1 ||| (1 <<< (v2 &&& 31))))) 2 = some (.int v2) := x_o1 l2 rfl rfl
        generalize (zs1 lv 1 (.int (v1 ||| (1 <<< (v2 &&& 31))))) = lv1 at *
        exact T110_9_26 H he F _ ih l0_1 l1_1 l2_1 h
def D110_9 (F : Nat) (m : xS) : Option (Int32 × xS) :=
  D110_9_4 F F 0 0 m
set_option maxRecDepth 20000 in
theorem T110_9 {B : zHp} (H : yH0 B) {e : Nat} (he : 3 ≤ e + 1) (F : Nat) {lv : List (Nat × Value)} {m : xS} {x : Int32 × xS} (l0 : zld lv 0 = some (.ref 9)) (h : D110_9 F m = some x) : zR none e 3 (some .int) zc110 (0, lv, []) (xW B m) (some (.int x.1), xW B x.2) := by
  unfold D110_9 at h
  refine r_s (fr' := (1, lv, [.int 0])) (hp' := xW B m) (q := (.iconst 0, 1, 0, 0, .null)) rfl (fun _ => rfl) (Nat.le_refl _) ?_
  refine q_si (k := 1) (i := 1) (q := (.istore_n 1, 1, 0, 0, .null)) rfl (fun _ => rfl) (by decide) ?_
  have l0_1 : zld (zs1 lv 1 (.int 0)) 0 = some (.ref 9) := x_o1 l0 rfl rfl
  have l1_1 : zld (zs1 lv 1 (.int 0)) 1 = some (.int 0) := zs1_ld _ _ _
  generalize (zs1 lv 1 (.int 0)) = lv1 at *
  refine r_s (fr' := (3, lv1, [.int 0])) (hp' := xW B m) (q := (.iconst 0, 1, 0, 0, .null)) rfl (fun _ => rfl) (Nat.le_refl _) ?_
  refine q_si (k := 1) (i := 2) (q := (.istore_n 2, 1, 0, 0, .null)) rfl (fun _ => rfl) (by decide) ?_
  have l0_2 : zld (zs1 lv1 2 (.int 0)) 0 = some (.ref 9) := x_o1 l0_1 rfl rfl
  have l1_2 : zld (zs1 lv1 2 (.int 0)) 1 = some (.int 0) := x_o1 l1_1 rfl rfl
  have l2_2 : zld (zs1 lv1 2 (.int 0)) 2 = some (.int 0) := zs1_ld _ _ _
  generalize (zs1 lv1 2 (.int 0)) = lv2 at *
  exact T110_9_4 H he F F l0_2 l1_2 l2_2 h
set_option maxRecDepth 20000 in
theorem Z110_9 {B : zHp} (H : yH0 B) {F : Nat} {m : xS} {x : Int32 × xS} (h : D110_9 F m = some x) {d : Nat} (hd : 3 ≤ d) : zCan d 110 [.ref 9] (xW B m) (some (.int x.1), xW B x.2) := by
  obtain ⟨e, rfl⟩ : ∃ e, d = e + 1 := ⟨d - 1, by omega⟩
  refine zCan_body (nL := 3) (rt := (some .int)) (cd := zc110) (xg110) ⟨Nat.le_of_ble_eq_true rfl, by decide⟩ (Nat.le_refl _) ?_
  exact T110_9 H hd F rfl h
/-- LentTools.count -/
def D154_0 (F : Nat) (v1 : Int32) (m : xS) : Option (Int32 × xS) :=
  if (v1 == 0) = true then
    (D77_9 F m).bind fun q68 =>
      some (q68.1, q68.2)
  else
    if (v1 == 1) = true then
      (D78_9 F m).bind fun q76 =>
        some (q76.1, q76.2)
    else
      if (v1 == 2) = true then
        (D79_9 F m).bind fun q84 =>
          some (q84.1, q84.2)
      else
        if (v1 == 3) = true then
          (D80_9 F m).bind fun q92 =>
            some (q92.1, q92.2)
        else
          if (v1 == 4) = true then
            some ((m.1 0 8), m)
          else
            if (v1 == 5) = true then
              (D81_9 F m).bind fun q105 =>
                some (q105.1, q105.2)
            else
              if (v1 == 6) = true then
                (D82_9 F m).bind fun q113 =>
                  some (q113.1, q113.2)
              else
                if (v1 == 7) = true then
                  (D110_9 F m).bind fun q121 =>
                    some (q121.1, q121.2)
                else
                  if (v1 == 8) = true then
                    (D96_9 F m).bind fun q129 =>
                      some (q129.1, q129.2)
                  else
                    if (v1 == 9) = true then
                      (D14_14 F m).bind fun q137 =>
                        some (q137.1, q137.2)
                    else
                      if (v1 == 10) = true then
                        some ((m.1 43 0), m)
                      else
                        if (v1 == 11) = true then
                          some ((m.1 0 1), m)
                        else
                          some ((-1), m)
set_option maxRecDepth 20000 in
theorem T154_0 {B : zHp} (H : yH0 B) {e : Nat} (he : 4 ≤ e + 1) (F : Nat) {v1 : Int32} {lv : List (Nat × Value)} {m : xS} {x : Int32 × xS} (l0 : zld lv 0 = some (.ref 0)) (l1 : zld lv 1 = some (.int v1)) (h : D154_0 F v1 m = some x) : zR none e 2 (some .int) zc154 (0, lv, []) (xW B m) (some (.int x.1), xW B x.2) := by
  unfold D154_0 at h
  refine q_li (k := 1) (i := 1) (q := (.iload_n 1, 1, 0, 0, .null)) rfl (fun _ => rfl) l1 ?_
  by_cases d1 : ((v1 == 0)) = true
  · rw [if_pos d1] at h
    refine q_sw (pc2 := 64) (q := (.tableswitch 153 0 11 #[63, 71, 79, 87, 95, 100, 108, 116, 124, 132, 140, 148], 63, 0, 0, .null)) d1 rfl (fun _ => rfl) ?_
    refine q_lr (k := 1) (i := 0) (q := (.aload_n 0, 1, 0, 0, .null)) rfl (fun _ => rfl) l0 ?_
    refine r_gr (c := 9) H (pc := 65) rfl (by decide) (by decide) ?_
    obtain ⟨q68, h68, h⟩ := xbind h
    refine r_call (ix := 9) (as := []) (rest := []) (rv := some (.int q68.1)) (hp' := xW B q68.2) (pc := 68) rfl xr77 rfl rfl rfl (xkd H (by decide)) (Nat.le_of_ble_eq_true rfl) (Z77_9 H h68 (by omega)) (Nat.le_refl _) ?_
    obtain rfl := Option.some.inj h
    exact q_ri (q := (.ireturn, 1, 0, 0, .null)) rfl (fun _ => rfl) rfl rfl
  · rw [if_neg d1] at h
    by_cases d2 : ((v1 == 1)) = true
    · rw [if_pos d2] at h
      refine q_sw (pc2 := 72) (q := (.tableswitch 153 0 11 #[63, 71, 79, 87, 95, 100, 108, 116, 124, 132, 140, 148], 63, 0, 0, .null)) d2 rfl (fun _ => rfl) ?_
      refine q_lr (k := 1) (i := 0) (q := (.aload_n 0, 1, 0, 0, .null)) rfl (fun _ => rfl) l0 ?_
      refine r_gr (c := 9) H (pc := 73) rfl (by decide) (by decide) ?_
      obtain ⟨q76, h76, h⟩ := xbind h
      refine r_call (ix := 9) (as := []) (rest := []) (rv := some (.int q76.1)) (hp' := xW B q76.2) (pc := 76) rfl xr78 rfl rfl rfl (xkd H (by decide)) (Nat.le_of_ble_eq_true rfl) (Z78_9 H h76 (by omega)) (Nat.le_refl _) ?_
      obtain rfl := Option.some.inj h
      exact q_ri (q := (.ireturn, 1, 0, 0, .null)) rfl (fun _ => rfl) rfl rfl
    · rw [if_neg d2] at h
      by_cases d3 : ((v1 == 2)) = true
      · rw [if_pos d3] at h
        refine q_sw (pc2 := 80) (q := (.tableswitch 153 0 11 #[63, 71, 79, 87, 95, 100, 108, 116, 124, 132, 140, 148], 63, 0, 0, .null)) d3 rfl (fun _ => rfl) ?_
        refine q_lr (k := 1) (i := 0) (q := (.aload_n 0, 1, 0, 0, .null)) rfl (fun _ => rfl) l0 ?_
        refine r_gr (c := 9) H (pc := 81) rfl (by decide) (by decide) ?_
        obtain ⟨q84, h84, h⟩ := xbind h
        refine r_call (ix := 9) (as := []) (rest := []) (rv := some (.int q84.1)) (hp' := xW B q84.2) (pc := 84) rfl xr79 rfl rfl rfl (xkd H (by decide)) (Nat.le_of_ble_eq_true rfl) (Z79_9 H h84 (by omega)) (Nat.le_refl _) ?_
        obtain rfl := Option.some.inj h
        exact q_ri (q := (.ireturn, 1, 0, 0, .null)) rfl (fun _ => rfl) rfl rfl
      · rw [if_neg d3] at h
        by_cases d4 : ((v1 == 3)) = true
        · rw [if_pos d4] at h
          refine q_sw (pc2 := 88) (q := (.tableswitch 153 0 11 #[63, 71, 79, 87, 95, 100, 108, 116, 124, 132, 140, 148], 63, 0, 0, .null)) d4 rfl (fun _ => rfl) ?_
          refine q_lr (k := 1) (i := 0) (q := (.aload_n 0, 1, 0, 0, .null)) rfl (fun _ => rfl) l0 ?_
          refine r_gr (c := 9) H (pc := 89) rfl (by decide) (by decide) ?_
          obtain ⟨q92, h92, h⟩ := xbind h
          refine r_call (ix := 9) (as := []) (rest := []) (rv := some (.int q92.1)) (hp' := xW B q92.2) (pc := 92) rfl xr80 rfl rfl rfl (xkd H (by decide)) (Nat.le_of_ble_eq_true rfl) (Z80_9 H h92 (by omega)) (Nat.le_refl _) ?_
          obtain rfl := Option.some.inj h
          exact q_ri (q := (.ireturn, 1, 0, 0, .null)) rfl (fun _ => rfl) rfl rfl
        · rw [if_neg d4] at h
          by_cases d5 : ((v1 == 4)) = true
          · rw [if_pos d5] at h
            refine q_sw (pc2 := 96) (q := (.tableswitch 153 0 11 #[63, 71, 79, 87, 95, 100, 108, 116, 124, 132, 140, 148], 63, 0, 0, .null)) d5 rfl (fun _ => rfl) ?_
            refine q_lr (k := 1) (i := 0) (q := (.aload_n 0, 1, 0, 0, .null)) rfl (fun _ => rfl) l0 ?_
            refine r_gi (v := (m.1 0 8)) H (pc := 97) (i := _) rfl (by decide) (by decide) rfl ?_
            obtain rfl := Option.some.inj h
            exact q_ri (q := (.ireturn, 1, 0, 0, .null)) rfl (fun _ => rfl) rfl rfl
          · rw [if_neg d5] at h
            by_cases d6 : ((v1 == 5)) = true
            · rw [if_pos d6] at h
              refine q_sw (pc2 := 101) (q := (.tableswitch 153 0 11 #[63, 71, 79, 87, 95, 100, 108, 116, 124, 132, 140, 148], 63, 0, 0, .null)) d6 rfl (fun _ => rfl) ?_
              refine q_lr (k := 1) (i := 0) (q := (.aload_n 0, 1, 0, 0, .null)) rfl (fun _ => rfl) l0 ?_
              refine r_gr (c := 9) H (pc := 102) rfl (by decide) (by decide) ?_
              obtain ⟨q105, h105, h⟩ := xbind h
              refine r_call (ix := 9) (as := []) (rest := []) (rv := some (.int q105.1)) (hp' := xW B q105.2) (pc := 105) rfl xr81 rfl rfl rfl (xkd H (by decide)) (Nat.le_of_ble_eq_true rfl) (Z81_9 H h105 (by omega)) (Nat.le_refl _) ?_
              obtain rfl := Option.some.inj h
              exact q_ri (q := (.ireturn, 1, 0, 0, .null)) rfl (fun _ => rfl) rfl rfl
            · rw [if_neg d6] at h
              by_cases d7 : ((v1 == 6)) = true
              · rw [if_pos d7] at h
                refine q_sw (pc2 := 109) (q := (.tableswitch 153 0 11 #[63, 71, 79, 87, 95, 100, 108, 116, 124, 132, 140, 148], 63, 0, 0, .null)) d7 rfl (fun _ => rfl) ?_
                refine q_lr (k := 1) (i := 0) (q := (.aload_n 0, 1, 0, 0, .null)) rfl (fun _ => rfl) l0 ?_
                refine r_gr (c := 9) H (pc := 110) rfl (by decide) (by decide) ?_
                obtain ⟨q113, h113, h⟩ := xbind h
                refine r_call (ix := 9) (as := []) (rest := []) (rv := some (.int q113.1)) (hp' := xW B q113.2) (pc := 113) rfl xr82 rfl rfl rfl (xkd H (by decide)) (Nat.le_of_ble_eq_true rfl) (Z82_9 H h113 (by omega)) (Nat.le_refl _) ?_
                obtain rfl := Option.some.inj h
                exact q_ri (q := (.ireturn, 1, 0, 0, .null)) rfl (fun _ => rfl) rfl rfl
              · rw [if_neg d7] at h
                by_cases d8 : ((v1 == 7)) = true
                · rw [if_pos d8] at h
                  refine q_sw (pc2 := 117) (q := (.tableswitch 153 0 11 #[63, 71, 79, 87, 95, 100, 108, 116, 124, 132, 140, 148], 63, 0, 0, .null)) d8 rfl (fun _ => rfl) ?_
                  refine q_lr (k := 1) (i := 0) (q := (.aload_n 0, 1, 0, 0, .null)) rfl (fun _ => rfl) l0 ?_
                  refine r_gr (c := 9) H (pc := 118) rfl (by decide) (by decide) ?_
                  obtain ⟨q121, h121, h⟩ := xbind h
                  refine r_call (ix := 9) (as := []) (rest := []) (rv := some (.int q121.1)) (hp' := xW B q121.2) (pc := 121) rfl xr110 rfl rfl rfl (xkd H (by decide)) (Nat.le_of_ble_eq_true rfl) (Z110_9 H h121 (by omega)) (Nat.le_refl _) ?_
                  obtain rfl := Option.some.inj h
                  exact q_ri (q := (.ireturn, 1, 0, 0, .null)) rfl (fun _ => rfl) rfl rfl
                · rw [if_neg d8] at h
                  by_cases d9 : ((v1 == 8)) = true
                  · rw [if_pos d9] at h
                    refine q_sw (pc2 := 125) (q := (.tableswitch 153 0 11 #[63, 71, 79, 87, 95, 100, 108, 116, 124, 132, 140, 148], 63, 0, 0, .null)) d9 rfl (fun _ => rfl) ?_
                    refine q_lr (k := 1) (i := 0) (q := (.aload_n 0, 1, 0, 0, .null)) rfl (fun _ => rfl) l0 ?_
                    refine r_gr (c := 9) H (pc := 126) rfl (by decide) (by decide) ?_
                    obtain ⟨q129, h129, h⟩ := xbind h
                    refine r_call (ix := 9) (as := []) (rest := []) (rv := some (.int q129.1)) (hp' := xW B q129.2) (pc := 129) rfl xr96 rfl rfl rfl (xkd H (by decide)) (Nat.le_of_ble_eq_true rfl) (Z96_9 H h129 (by omega)) (Nat.le_refl _) ?_
                    obtain rfl := Option.some.inj h
                    exact q_ri (q := (.ireturn, 1, 0, 0, .null)) rfl (fun _ => rfl) rfl rfl
                  · rw [if_neg d9] at h
                    by_cases d10 : ((v1 == 9)) = true
                    · rw [if_pos d10] at h
                      refine q_sw (pc2 := 133) (q := (.tableswitch 153 0 11 #[63, 71, 79, 87, 95, 100, 108, 116, 124, 132, 140, 148], 63, 0, 0, .null)) d10 rfl (fun _ => rfl) ?_
                      refine q_lr (k := 1) (i := 0) (q := (.aload_n 0, 1, 0, 0, .null)) rfl (fun _ => rfl) l0 ?_
                      refine r_gr (c := 14) H (pc := 134) rfl (by decide) (by decide) ?_
                      obtain ⟨q137, h137, h⟩ := xbind h
                      refine r_call (ix := 14) (as := []) (rest := []) (rv := some (.int q137.1)) (hp' := xW B q137.2) (pc := 137) rfl xr14 rfl rfl rfl (xkd H (by decide)) (Nat.le_of_ble_eq_true rfl) (Z14_14 H h137 (by omega)) (Nat.le_refl _) ?_
                      obtain rfl := Option.some.inj h
                      exact q_ri (q := (.ireturn, 1, 0, 0, .null)) rfl (fun _ => rfl) rfl rfl
                    · rw [if_neg d10] at h
                      by_cases d11 : ((v1 == 10)) = true
                      · rw [if_pos d11] at h
                        refine q_sw (pc2 := 141) (q := (.tableswitch 153 0 11 #[63, 71, 79, 87, 95, 100, 108, 116, 124, 132, 140, 148], 63, 0, 0, .null)) d11 rfl (fun _ => rfl) ?_
                        refine q_lr (k := 1) (i := 0) (q := (.aload_n 0, 1, 0, 0, .null)) rfl (fun _ => rfl) l0 ?_
                        refine r_gr (c := 43) H (pc := 142) rfl (by decide) (by decide) ?_
                        refine r_gi (v := (m.1 43 0)) H (pc := 145) (i := _) rfl (by decide) (by decide) rfl ?_
                        obtain rfl := Option.some.inj h
                        exact q_ri (q := (.ireturn, 1, 0, 0, .null)) rfl (fun _ => rfl) rfl rfl
                      · rw [if_neg d11] at h
                        by_cases d12 : ((v1 == 11)) = true
                        · rw [if_pos d12] at h
                          refine q_sw (pc2 := 149) (q := (.tableswitch 153 0 11 #[63, 71, 79, 87, 95, 100, 108, 116, 124, 132, 140, 148], 63, 0, 0, .null)) d12 rfl (fun _ => rfl) ?_
                          refine q_lr (k := 1) (i := 0) (q := (.aload_n 0, 1, 0, 0, .null)) rfl (fun _ => rfl) l0 ?_
                          refine r_gi (v := (m.1 0 1)) H (pc := 150) (i := _) rfl (by decide) (by decide) rfl ?_
                          obtain rfl := Option.some.inj h
                          exact q_ri (q := (.ireturn, 1, 0, 0, .null)) rfl (fun _ => rfl) rfl rfl
                        · rw [if_neg d12] at h
                          refine q_td (pc2 := 154) (q := (.tableswitch 153 0 11 #[63, 71, 79, 87, 95, 100, 108, 116, 124, 132, 140, 148], 63, 0, 0, .null)) (dflt := 153) (lo := 0) (hi := 11) (offs := #[63, 71, 79, 87, 95, 100, 108, 116, 124, 132, 140, 148]) (by have z0 := xne (z := 0) rfl d1; have z1 := xne (z := 1) rfl d2; have z2 := xne (z := 2) rfl d3; have z3 := xne (z := 3) rfl d4; have z4 := xne (z := 4) rfl d5; have z5 := xne (z := 5) rfl d6; have z6 := xne (z := 6) rfl d7; have z7 := xne (z := 7) rfl d8; have z8 := xne (z := 8) rfl d9; have z9 := xne (z := 9) rfl d10; have z10 := xne (z := 10) rfl d11; have z11 := xne (z := 11) rfl d12; omega) rfl (fun _ => rfl) rfl ?_
                          refine r_s (fr' := (155, lv, [.int (-1)])) (hp' := xW B m) (q := (.iconst (-1), 1, 0, 0, .null)) rfl (fun _ => rfl) (Nat.le_refl _) ?_
                          obtain rfl := Option.some.inj h
                          exact q_ri (q := (.ireturn, 1, 0, 0, .null)) rfl (fun _ => rfl) rfl rfl
set_option maxRecDepth 20000 in
theorem Z154_0 {B : zHp} (H : yH0 B) {F : Nat} {a1 : Int32} {m : xS} {x : Int32 × xS} (h : D154_0 F a1 m = some x) {d : Nat} (hd : 4 ≤ d) : zCan d 154 [.ref 0, .int a1] (xW B m) (some (.int x.1), xW B x.2) := by
  obtain ⟨e, rfl⟩ : ∃ e, d = e + 1 := ⟨d - 1, by omega⟩
  refine zCan_body (nL := 2) (rt := (some .int)) (cd := zc154) (xg154) ⟨Nat.le_of_ble_eq_true rfl, by decide⟩ (Nat.le_refl _) ?_
  exact T154_0 H hd F rfl rfl h
/-- LentTools$Village.writeTo -/
def D68_9_S37_4 (F : Nat) (r1 : Nat) (m : xS) : Option (Unit × xS) :=
  some ((), (xcp m r1 10 114))
set_option maxRecDepth 20000 in
theorem T68_9_S37_4 {B : zHp} (H : yH0 B) {e : Nat} (he : 1 ≤ e + 1) (F : Nat) (r1 : Nat) (hr1 : 37 ≤ r1 ∧ r1 < 41) {lv : List (Nat × Value)} {m : xS} {x : Unit × xS} (l0 : zld lv 0 = some (.ref 9)) (l1 : zld lv 1 = some (.ref r1)) (h : D68_9_S37_4 F r1 m = some x) : zR none e 2 none zc68 (0, lv, []) (xW B m) (none, xW B x.2) := by
  unfold D68_9_S37_4 at h
  refine q_lr (k := 1) (i := 0) (q := (.aload_n 0, 1, 0, 0, .null)) rfl (fun _ => rfl) l0 ?_
  refine r_gr (c := 10) H (pc := 1) rfl (by decide) (by decide) ?_
  refine r_s (fr' := (5, lv, [.int 0, .ref 10])) (hp' := xW B m) (q := (.iconst 0, 1, 0, 0, .null)) rfl (fun _ => rfl) (Nat.le_refl _) ?_
  refine q_lr (k := 1) (i := 1) (q := (.aload_n 1, 1, 0, 0, .null)) rfl (fun _ => rfl) l1 ?_
  refine r_s (fr' := (7, lv, [.int 0, .ref r1, .int 0, .ref 10])) (hp' := xW B m) (q := (.iconst 0, 1, 0, 0, .null)) rfl (fun _ => rfl) (Nat.le_refl _) ?_
  refine r_s (fr' := (9, lv, [.int 114, .int 0, .ref r1, .int 0, .ref 10])) (hp' := xW B m) (q := (.bipush 114, 2, 0, 0, .null)) rfl (fun _ => rfl) (Nat.le_refl _) ?_
  refine q_cpy (n := 114) (n0 := 114) (n1 := 114) H (pc := 9) rfl (by decide) (xtS37_4 hr1) (by decide) (by decide) (by have := hr1; omega) (Nat.le_of_ble_eq_true rfl) ?_
  obtain rfl := Option.some.inj h
  exact r_ret (q := (.return_, 1, 0, 0, .null)) rfl rfl (fun _ => rfl)
set_option maxRecDepth 20000 in
theorem Z68_9_S37_4 {B : zHp} (H : yH0 B) {F : Nat} {r1 : Nat} (hr1 : 37 ≤ r1 ∧ r1 < 41) {m : xS} {x : Unit × xS} (h : D68_9_S37_4 F r1 m = some x) {d : Nat} (hd : 1 ≤ d) : zCan d 68 [.ref 9, .ref r1] (xW B m) (none, xW B x.2) := by
  obtain ⟨e, rfl⟩ : ∃ e, d = e + 1 := ⟨d - 1, by omega⟩
  refine zCan_body (nL := 2) (rt := none) (cd := zc68) (xg68) ⟨Nat.le_of_ble_eq_true rfl, by decide⟩ (Nat.le_refl _) ?_
  exact T68_9_S37_4 H hd F r1 hr1 rfl rfl h
/-- LentTools.image -/
def D155_0_9 (F : Nat) (v1 : Int32) (m : xS) : Option (Int32 × xS) :=
  some ((-1), m)
set_option maxRecDepth 20000 in
theorem T155_0_9 {B : zHp} (H : yH0 B) {e : Nat} (he : 2 ≤ e + 1) (F : Nat) {v1 : Int32} {lv : List (Nat × Value)} {m : xS} {x : Int32 × xS} (l0 : zld lv 0 = some (.ref 0)) (l1 : zld lv 1 = some (.int v1)) (h : D155_0_9 F v1 m = some x) : zR none e 2 (some .int) zc155 (9, lv, []) (xW B m) (some (.int x.1), xW B x.2) := by
  unfold D155_0_9 at h
  refine r_s (fr' := (10, lv, [.int (-1)])) (hp' := xW B m) (q := (.iconst (-1), 1, 0, 0, .null)) rfl (fun _ => rfl) (Nat.le_refl _) ?_
  obtain rfl := Option.some.inj h
  exact q_ri (q := (.ireturn, 1, 0, 0, .null)) rfl (fun _ => rfl) rfl rfl
def D155_0 (F : Nat) (v1 : Int32) (m : xS) : Option (Int32 × xS) :=
  if zcmp .lt v1 0 = true then
    D155_0_9 F v1 m
  else
    if zcmp .lt v1 4 = true then
      if xib v1 4 = true then
        (D68_9_S37_4 F (37 + (v1 : Int32).toNatClampNeg) m).bind fun q21 =>
          if xib v1 4 = true then
            if xib v1 4 = true then
              (D81_9 F (xu (xu q21.2 41 (v1 : Int32).toNatClampNeg (q21.2.1 43 0)) 42 (v1 : Int32).toNatClampNeg (vp_nar .boolean 1))).bind fun q48 =>
                some (q48.1, q48.2)
            else none
          else none
      else none
    else
      D155_0_9 F v1 m
set_option maxRecDepth 20000 in
theorem T155_0 {B : zHp} (H : yH0 B) {e : Nat} (he : 2 ≤ e + 1) (F : Nat) {v1 : Int32} {lv : List (Nat × Value)} {m : xS} {x : Int32 × xS} (l0 : zld lv 0 = some (.ref 0)) (l1 : zld lv 1 = some (.int v1)) (h : D155_0 F v1 m = some x) : zR none e 2 (some .int) zc155 (0, lv, []) (xW B m) (some (.int x.1), xW B x.2) := by
  unfold D155_0 at h
  refine q_li (k := 1) (i := 1) (q := (.iload_n 1, 1, 0, 0, .null)) rfl (fun _ => rfl) l1 ?_
  refine r_if (len := 3) (a := 9) (b := 0) (v0 := .null) (cn := .lt) (off := 8) rfl (fun c => ?_) (fun c => ?_)
  · rw [if_pos c] at h
    exact T155_0_9 H he F l0 l1 h
  · rw [if_neg (by rw [c]; decide)] at h
    refine q_li (k := 1) (i := 1) (q := (.iload_n 1, 1, 0, 0, .null)) rfl (fun _ => rfl) l1 ?_
    refine r_s (fr' := (6, lv, [.int 4, .int v1])) (hp' := xW B m) (q := (.iconst 4, 1, 0, 0, .null)) rfl (fun _ => rfl) (Nat.le_refl _) ?_
    refine r_ifc (len := 3) (a := 11) (b := 0) (v0 := .null) (cn := .lt) (off := 5) rfl (fun c => ?_) (fun c => ?_)
    · rw [if_pos c] at h
      refine q_lr (k := 1) (i := 0) (q := (.aload_n 0, 1, 0, 0, .null)) rfl (fun _ => rfl) l0 ?_
      refine r_gr (c := 9) H (pc := 12) rfl (by decide) (by decide) ?_
      refine q_lr (k := 1) (i := 0) (q := (.aload_n 0, 1, 0, 0, .null)) rfl (fun _ => rfl) l0 ?_
      refine r_gr (c := 36) H (pc := 16) rfl (by decide) (by decide) ?_
      refine q_li (k := 1) (i := 1) (q := (.iload_n 1, 1, 0, 0, .null)) rfl (fun _ => rfl) l1 ?_
      obtain ⟨c1, h⟩ := xif h
      refine q_aal (n := 4) (b := 37) H (pc := 20) rfl ⟨rfl, by decide⟩ c1 ?_
      obtain ⟨q21, h21, h⟩ := xbind h
      refine r_call (ix := 9) (as := [.ref (37 + (v1 : Int32).toNatClampNeg)]) (rest := []) (rv := none) (hp' := xW B q21.2) (pc := 21) rfl xr68 rfl rfl rfl (xkd H (by decide)) (Nat.le_of_ble_eq_true rfl) (Z68_9_S37_4 H ((xibS c1)) h21 (by omega)) (Nat.le_refl _) ?_
      refine q_lr (k := 1) (i := 0) (q := (.aload_n 0, 1, 0, 0, .null)) rfl (fun _ => rfl) l0 ?_
      refine r_gr (c := 41) H (pc := 25) rfl (by decide) (by decide) ?_
      refine q_li (k := 1) (i := 1) (q := (.iload_n 1, 1, 0, 0, .null)) rfl (fun _ => rfl) l1 ?_
      refine q_lr (k := 1) (i := 0) (q := (.aload_n 0, 1, 0, 0, .null)) rfl (fun _ => rfl) l0 ?_
      refine r_gr (c := 43) H (pc := 30) rfl (by decide) (by decide) ?_
      refine r_gi (v := (q21.2.1 43 0)) H (pc := 33) (i := _) rfl (by decide) (by decide) rfl ?_
      obtain ⟨c2, h⟩ := xif h
      refine q_as (n := 4) (s2 := (xu q21.2 41 (v1 : Int32).toNatClampNeg (q21.2.1 43 0))) H (pc := 36) rfl (by decide) c2 rfl ?_
      refine q_lr (k := 1) (i := 0) (q := (.aload_n 0, 1, 0, 0, .null)) rfl (fun _ => rfl) l0 ?_
      refine r_gr (c := 42) H (pc := 38) rfl (by decide) (by decide) ?_
      refine q_li (k := 1) (i := 1) (q := (.iload_n 1, 1, 0, 0, .null)) rfl (fun _ => rfl) l1 ?_
      refine r_s (fr' := (43, lv, [.int 1, .int v1, .ref 42])) (hp' := xW B (xu q21.2 41 (v1 : Int32).toNatClampNeg (q21.2.1 43 0))) (q := (.iconst 1, 1, 0, 0, .null)) rfl (fun _ => rfl) (Nat.le_refl _) ?_
      obtain ⟨c3, h⟩ := xif h
      refine q_bs2 (n := 4) (s2 := (xu (xu q21.2 41 (v1 : Int32).toNatClampNeg (q21.2.1 43 0)) 42 (v1 : Int32).toNatClampNeg (vp_nar .boolean 1))) H (pc := 43) rfl (by decide) c3 rfl ?_
      refine q_lr (k := 1) (i := 0) (q := (.aload_n 0, 1, 0, 0, .null)) rfl (fun _ => rfl) l0 ?_
      refine r_gr (c := 9) H (pc := 45) rfl (by decide) (by decide) ?_
      obtain ⟨q48, h48, h⟩ := xbind h
      refine r_call (ix := 9) (as := []) (rest := []) (rv := some (.int q48.1)) (hp' := xW B q48.2) (pc := 48) rfl xr81 rfl rfl rfl (xkd H (by decide)) (Nat.le_of_ble_eq_true rfl) (Z81_9 H h48 (by omega)) (Nat.le_refl _) ?_
      obtain rfl := Option.some.inj h
      exact q_ri (q := (.ireturn, 1, 0, 0, .null)) rfl (fun _ => rfl) rfl rfl
    · rw [if_neg (by rw [c]; decide)] at h
      exact T155_0_9 H he F l0 l1 h
set_option maxRecDepth 20000 in
theorem Z155_0 {B : zHp} (H : yH0 B) {F : Nat} {a1 : Int32} {m : xS} {x : Int32 × xS} (h : D155_0 F a1 m = some x) {d : Nat} (hd : 2 ≤ d) : zCan d 155 [.ref 0, .int a1] (xW B m) (some (.int x.1), xW B x.2) := by
  obtain ⟨e, rfl⟩ : ∃ e, d = e + 1 := ⟨d - 1, by omega⟩
  refine zCan_body (nL := 2) (rt := (some .int)) (cd := zc155) (xg155) ⟨Nat.le_of_ble_eq_true rfl, by decide⟩ (Nat.le_refl _) ?_
  exact T155_0 H hd F rfl rfl h
/-- LentTools$Village.readFrom -/
def D69_9_S37_4 (F : Nat) (r1 : Nat) (m : xS) : Option (Unit × xS) :=
  some ((), (xcp m 10 r1 114))
set_option maxRecDepth 20000 in
theorem T69_9_S37_4 {B : zHp} (H : yH0 B) {e : Nat} (he : 1 ≤ e + 1) (F : Nat) (r1 : Nat) (hr1 : 37 ≤ r1 ∧ r1 < 41) {lv : List (Nat × Value)} {m : xS} {x : Unit × xS} (l0 : zld lv 0 = some (.ref 9)) (l1 : zld lv 1 = some (.ref r1)) (h : D69_9_S37_4 F r1 m = some x) : zR none e 2 none zc69 (0, lv, []) (xW B m) (none, xW B x.2) := by
  unfold D69_9_S37_4 at h
  refine q_lr (k := 1) (i := 1) (q := (.aload_n 1, 1, 0, 0, .null)) rfl (fun _ => rfl) l1 ?_
  refine r_s (fr' := (2, lv, [.int 0, .ref r1])) (hp' := xW B m) (q := (.iconst 0, 1, 0, 0, .null)) rfl (fun _ => rfl) (Nat.le_refl _) ?_
  refine q_lr (k := 1) (i := 0) (q := (.aload_n 0, 1, 0, 0, .null)) rfl (fun _ => rfl) l0 ?_
  refine r_gr (c := 10) H (pc := 3) rfl (by decide) (by decide) ?_
  refine r_s (fr' := (7, lv, [.int 0, .ref 10, .int 0, .ref r1])) (hp' := xW B m) (q := (.iconst 0, 1, 0, 0, .null)) rfl (fun _ => rfl) (Nat.le_refl _) ?_
  refine r_s (fr' := (9, lv, [.int 114, .int 0, .ref 10, .int 0, .ref r1])) (hp' := xW B m) (q := (.bipush 114, 2, 0, 0, .null)) rfl (fun _ => rfl) (Nat.le_refl _) ?_
  refine q_cpy (n := 114) (n0 := 114) (n1 := 114) H (pc := 9) rfl (xtS37_4 hr1) (by decide) (by decide) (by decide) (by have := hr1; omega) (Nat.le_of_ble_eq_true rfl) ?_
  obtain rfl := Option.some.inj h
  exact r_ret (q := (.return_, 1, 0, 0, .null)) rfl rfl (fun _ => rfl)
set_option maxRecDepth 20000 in
theorem Z69_9_S37_4 {B : zHp} (H : yH0 B) {F : Nat} {r1 : Nat} (hr1 : 37 ≤ r1 ∧ r1 < 41) {m : xS} {x : Unit × xS} (h : D69_9_S37_4 F r1 m = some x) {d : Nat} (hd : 1 ≤ d) : zCan d 69 [.ref 9, .ref r1] (xW B m) (none, xW B x.2) := by
  obtain ⟨e, rfl⟩ : ∃ e, d = e + 1 := ⟨d - 1, by omega⟩
  refine zCan_body (nL := 2) (rt := none) (cd := zc69) (xg69) ⟨Nat.le_of_ble_eq_true rfl, by decide⟩ (Nat.le_refl _) ?_
  exact T69_9_S37_4 H hd F r1 hr1 rfl rfl h
/-- LentTools.back -/
def D156_0_18 (F : Nat) (v1 : Int32) (m : xS) : Option (Int32 × xS) :=
  some ((-1), m)
set_option maxRecDepth 20000 in
theorem T156_0_18 {B : zHp} (H : yH0 B) {e : Nat} (he : 2 ≤ e + 1) (F : Nat) {v1 : Int32} {lv : List (Nat × Value)} {m : xS} {x : Int32 × xS} (l0 : zld lv 0 = some (.ref 0)) (l1 : zld lv 1 = some (.int v1)) (h : D156_0_18 F v1 m = some x) : zR none e 2 (some .int) zc156 (18, lv, []) (xW B m) (some (.int x.1), xW B x.2) := by
  unfold D156_0_18 at h
  refine r_s (fr' := (19, lv, [.int (-1)])) (hp' := xW B m) (q := (.iconst (-1), 1, 0, 0, .null)) rfl (fun _ => rfl) (Nat.le_refl _) ?_
  obtain rfl := Option.some.inj h
  exact q_ri (q := (.ireturn, 1, 0, 0, .null)) rfl (fun _ => rfl) rfl rfl
def D156_0 (F : Nat) (v1 : Int32) (m : xS) : Option (Int32 × xS) :=
  if zcmp .lt v1 0 = true then
    D156_0_18 F v1 m
  else
    if zcmp .ge v1 4 = true then
      D156_0_18 F v1 m
    else
      if xib v1 4 = true then
        if zcmp .ne (m.1 42 (v1 : Int32).toNatClampNeg) 0 = true then
          if xib v1 4 = true then
            (D69_9_S37_4 F (37 + (v1 : Int32).toNatClampNeg) m).bind fun q30 =>
              if xib v1 4 = true then
                (D15_14 F (xu q30.2 43 0 (q30.2.1 41 (v1 : Int32).toNatClampNeg))).bind fun q50 =>
                  (D81_9 F q50.2).bind fun q57 =>
                    some (q57.1, q57.2)
              else none
          else none
        else
          D156_0_18 F v1 m
      else none
set_option maxRecDepth 20000 in
theorem T156_0 {B : zHp} (H : yH0 B) {e : Nat} (he : 2 ≤ e + 1) (F : Nat) {v1 : Int32} {lv : List (Nat × Value)} {m : xS} {x : Int32 × xS} (l0 : zld lv 0 = some (.ref 0)) (l1 : zld lv 1 = some (.int v1)) (h : D156_0 F v1 m = some x) : zR none e 2 (some .int) zc156 (0, lv, []) (xW B m) (some (.int x.1), xW B x.2) := by
  unfold D156_0 at h
  refine q_li (k := 1) (i := 1) (q := (.iload_n 1, 1, 0, 0, .null)) rfl (fun _ => rfl) l1 ?_
  refine r_if (len := 3) (a := 18) (b := 0) (v0 := .null) (cn := .lt) (off := 17) rfl (fun c => ?_) (fun c => ?_)
  · rw [if_pos c] at h
    exact T156_0_18 H he F l0 l1 h
  · rw [if_neg (by rw [c]; decide)] at h
    refine q_li (k := 1) (i := 1) (q := (.iload_n 1, 1, 0, 0, .null)) rfl (fun _ => rfl) l1 ?_
    refine r_s (fr' := (6, lv, [.int 4, .int v1])) (hp' := xW B m) (q := (.iconst 4, 1, 0, 0, .null)) rfl (fun _ => rfl) (Nat.le_refl _) ?_
    refine r_ifc (len := 3) (a := 18) (b := 0) (v0 := .null) (cn := .ge) (off := 12) rfl (fun c => ?_) (fun c => ?_)
    · rw [if_pos c] at h
      exact T156_0_18 H he F l0 l1 h
    · rw [if_neg (by rw [c]; decide)] at h
      refine q_lr (k := 1) (i := 0) (q := (.aload_n 0, 1, 0, 0, .null)) rfl (fun _ => rfl) l0 ?_
      refine r_gr (c := 42) H (pc := 10) rfl (by decide) (by decide) ?_
      refine q_li (k := 1) (i := 1) (q := (.iload_n 1, 1, 0, 0, .null)) rfl (fun _ => rfl) l1 ?_
      obtain ⟨c1, h⟩ := xif h
      refine q_bl (n := 4) (v := (m.1 42 (v1 : Int32).toNatClampNeg)) (k := 2) H (pc := 14) rfl (by decide) (by decide) c1 rfl ?_
      refine r_if (len := 3) (a := 20) (b := 0) (v0 := .null) (cn := .ne) (off := 5) rfl (fun c => ?_) (fun c => ?_)
      · rw [if_pos c] at h
        refine q_lr (k := 1) (i := 0) (q := (.aload_n 0, 1, 0, 0, .null)) rfl (fun _ => rfl) l0 ?_
        refine r_gr (c := 9) H (pc := 21) rfl (by decide) (by decide) ?_
        refine q_lr (k := 1) (i := 0) (q := (.aload_n 0, 1, 0, 0, .null)) rfl (fun _ => rfl) l0 ?_
        refine r_gr (c := 36) H (pc := 25) rfl (by decide) (by decide) ?_
        refine q_li (k := 1) (i := 1) (q := (.iload_n 1, 1, 0, 0, .null)) rfl (fun _ => rfl) l1 ?_
        obtain ⟨c2, h⟩ := xif h
        refine q_aal (n := 4) (b := 37) H (pc := 29) rfl ⟨rfl, by decide⟩ c2 ?_
        obtain ⟨q30, h30, h⟩ := xbind h
        refine r_call (ix := 9) (as := [.ref (37 + (v1 : Int32).toNatClampNeg)]) (rest := []) (rv := none) (hp' := xW B q30.2) (pc := 30) rfl xr69 rfl rfl rfl (xkd H (by decide)) (Nat.le_of_ble_eq_true rfl) (Z69_9_S37_4 H ((xibS c2)) h30 (by omega)) (Nat.le_refl _) ?_
        refine q_lr (k := 1) (i := 0) (q := (.aload_n 0, 1, 0, 0, .null)) rfl (fun _ => rfl) l0 ?_
        refine r_gr (c := 43) H (pc := 34) rfl (by decide) (by decide) ?_
        refine q_lr (k := 1) (i := 0) (q := (.aload_n 0, 1, 0, 0, .null)) rfl (fun _ => rfl) l0 ?_
        refine r_gr (c := 41) H (pc := 38) rfl (by decide) (by decide) ?_
        refine q_li (k := 1) (i := 1) (q := (.iload_n 1, 1, 0, 0, .null)) rfl (fun _ => rfl) l1 ?_
        obtain ⟨c3, h⟩ := xif h
        refine q_al (n := 4) (v := (q30.2.1 41 (v1 : Int32).toNatClampNeg)) H (pc := 42) rfl (by decide) c3 rfl ?_
        refine r_pi (s2 := (xu q30.2 43 0 (q30.2.1 41 (v1 : Int32).toNatClampNeg))) H (pc := 43) rfl (by decide) rfl rfl ?_
        refine q_lr (k := 1) (i := 0) (q := (.aload_n 0, 1, 0, 0, .null)) rfl (fun _ => rfl) l0 ?_
        refine r_gr (c := 14) H (pc := 47) rfl (by decide) (by decide) ?_
        obtain ⟨q50, h50, h⟩ := xbind h
        refine r_call (ix := 14) (as := []) (rest := []) (rv := none) (hp' := xW B q50.2) (pc := 50) rfl xr15 rfl rfl rfl (xkd H (by decide)) (Nat.le_of_ble_eq_true rfl) (Z15_14 H h50 (by omega)) (Nat.le_refl _) ?_
        refine q_lr (k := 1) (i := 0) (q := (.aload_n 0, 1, 0, 0, .null)) rfl (fun _ => rfl) l0 ?_
        refine r_gr (c := 9) H (pc := 54) rfl (by decide) (by decide) ?_
        obtain ⟨q57, h57, h⟩ := xbind h
        refine r_call (ix := 9) (as := []) (rest := []) (rv := some (.int q57.1)) (hp' := xW B q57.2) (pc := 57) rfl xr81 rfl rfl rfl (xkd H (by decide)) (Nat.le_of_ble_eq_true rfl) (Z81_9 H h57 (by omega)) (Nat.le_refl _) ?_
        obtain rfl := Option.some.inj h
        exact q_ri (q := (.ireturn, 1, 0, 0, .null)) rfl (fun _ => rfl) rfl rfl
      · rw [if_neg (by rw [c]; decide)] at h
        exact T156_0_18 H he F l0 l1 h
set_option maxRecDepth 20000 in
theorem Z156_0 {B : zHp} (H : yH0 B) {F : Nat} {a1 : Int32} {m : xS} {x : Int32 × xS} (h : D156_0 F a1 m = some x) {d : Nat} (hd : 2 ≤ d) : zCan d 156 [.ref 0, .int a1] (xW B m) (some (.int x.1), xW B x.2) := by
  obtain ⟨e, rfl⟩ : ∃ e, d = e + 1 := ⟨d - 1, by omega⟩
  refine zCan_body (nL := 2) (rt := (some .int)) (cd := zc156) (xg156) ⟨Nat.le_of_ble_eq_true rfl, by decide⟩ (Nat.le_refl _) ?_
  exact T156_0 H hd F rfl rfl h
/-- LentToolsModel.rustOf -/
def D213_26 (F : Nat) (v1 : Int32) (v2 : Int32) (m : xS) : Option (Int32 × xS) :=
  some (0, m)
set_option maxRecDepth 20000 in
theorem T213_26 {B : zHp} (H : yH0 B) {e : Nat} (he : 3 ≤ e + 1) (F : Nat) {v1 : Int32} {v2 : Int32} {lv : List (Nat × Value)} {m : xS} {x : Int32 × xS} (l0 : zld lv 0 = some (.ref 70)) (l1 : zld lv 1 = some (.int v1)) (l2 : zld lv 2 = some (.int v2)) (h : D213_26 F v1 v2 m = some x) : zR none e 3 (some .int) zc213 (26, lv, []) (xW B m) (some (.int x.1), xW B x.2) := by
  unfold D213_26 at h
  refine r_s (fr' := (27, lv, [.int 0])) (hp' := xW B m) (q := (.iconst 0, 1, 0, 0, .null)) rfl (fun _ => rfl) (Nat.le_refl _) ?_
  refine r_s (fr' := (31, lv, [.int 0])) (hp' := xW B m) (q := (.goto 4, 3, 31, 0, .null)) rfl (fun _ => rfl) (Nat.le_refl _) ?_
  obtain rfl := Option.some.inj h
  exact q_ri (q := (.ireturn, 1, 0, 0, .null)) rfl (fun _ => rfl) rfl rfl
def D213 (F : Nat) (v1 : Int32) (m : xS) : Option (Int32 × xS) :=
  (D208 F v1 5 m).bind fun q3 =>
    (D212 F v1 q3.2).bind fun q16 =>
      if zcmp .ne q16.1 0 = true then
        D213_26 F v1 (q3.1 - (q3.2.1 80 1)) q16.2
      else
        if zcmp .ge (q3.1 - (q3.2.1 80 1)) 0 = true then
          some ((q3.1 - (q3.2.1 80 1)), q16.2)
        else
          D213_26 F v1 (q3.1 - (q3.2.1 80 1)) q16.2
set_option maxRecDepth 20000 in
theorem T213 {B : zHp} (H : yH0 B) {e : Nat} (he : 3 ≤ e + 1) (F : Nat) {v1 : Int32} {lv : List (Nat × Value)} {m : xS} {x : Int32 × xS} (l0 : zld lv 0 = some (.ref 70)) (l1 : zld lv 1 = some (.int v1)) (h : D213 F v1 m = some x) : zR none e 3 (some .int) zc213 (0, lv, []) (xW B m) (some (.int x.1), xW B x.2) := by
  unfold D213 at h
  refine q_lr (k := 1) (i := 0) (q := (.aload_n 0, 1, 0, 0, .null)) rfl (fun _ => rfl) l0 ?_
  refine q_li (k := 1) (i := 1) (q := (.iload_n 1, 1, 0, 0, .null)) rfl (fun _ => rfl) l1 ?_
  refine r_s (fr' := (3, lv, [.int 5, .int v1, .ref 70])) (hp' := xW B m) (q := (.iconst 5, 1, 0, 0, .null)) rfl (fun _ => rfl) (Nat.le_refl _) ?_
  obtain ⟨q3, h3, h⟩ := xbind h
  refine r_call (ix := 70) (as := [.int v1, .int 5]) (rest := []) (rv := some (.int q3.1)) (hp' := xW B q3.2) (pc := 3) rfl xr208 rfl rfl rfl (xkd H (by decide)) (Nat.le_of_ble_eq_true rfl) (Z208 H h3 (by omega)) (Nat.le_refl _) ?_
  refine q_lr (k := 1) (i := 0) (q := (.aload_n 0, 1, 0, 0, .null)) rfl (fun _ => rfl) l0 ?_
  refine r_gr (c := 80) H (pc := 7) rfl (by decide) (by decide) ?_
  refine r_s (fr' := (11, lv, [.int 1, .ref 80, .int q3.1])) (hp' := xW B q3.2) (q := (.iconst 1, 1, 0, 0, .null)) rfl (fun _ => rfl) (Nat.le_refl _) ?_
  refine q_al (n := 148) (v := (q3.2.1 80 1)) H (pc := 11) rfl (by decide) (by decide) rfl ?_
  refine r_s (fr' := (13, lv, [.int (q3.1 - (q3.2.1 80 1))])) (hp' := xW B q3.2) (q := (.isub, 1, 0, 0, .null)) rfl (fun _ => rfl) (Nat.le_refl _) ?_
  refine q_si (k := 1) (i := 2) (q := (.istore_n 2, 1, 0, 0, .null)) rfl (fun _ => rfl) (by decide) ?_
  have l0_1 : zld (zs1 lv 2 (.int (q3.1 - (q3.2.1 80 1)))) 0 = some (.ref 70) := x_o1 l0 rfl rfl
  have l1_1 : zld (zs1 lv 2 (.int (q3.1 - (q3.2.1 80 1)))) 1 = some (.int v1) := x_o1 l1 rfl rfl
  have l2_1 : zld (zs1 lv 2 (.int (q3.1 - (q3.2.1 80 1)))) 2 = some (.int (q3.1 - (q3.2.1 80 1))) := zs1_ld _ _ _
  generalize (zs1 lv 2 (.int (q3.1 - (q3.2.1 80 1)))) = lv1 at *
  refine q_lr (k := 1) (i := 0) (q := (.aload_n 0, 1, 0, 0, .null)) rfl (fun _ => rfl) l0_1 ?_
  refine q_li (k := 1) (i := 1) (q := (.iload_n 1, 1, 0, 0, .null)) rfl (fun _ => rfl) l1_1 ?_
  obtain ⟨q16, h16, h⟩ := xbind h
  refine r_call (ix := 70) (as := [.int v1]) (rest := []) (rv := some (.int q16.1)) (hp' := xW B q16.2) (pc := 16) rfl xr212 rfl rfl rfl (xkd H (by decide)) (Nat.le_of_ble_eq_true rfl) (Z212 H h16 (by omega)) (Nat.le_refl _) ?_
  refine r_if (len := 3) (a := 26) (b := 0) (v0 := .null) (cn := .ne) (off := 7) rfl (fun c => ?_) (fun c => ?_)
  · rw [if_pos c] at h
    exact T213_26 H he F l0_1 l1_1 l2_1 h
  · rw [if_neg (by rw [c]; decide)] at h
    refine q_li (k := 1) (i := 2) (q := (.iload_n 2, 1, 0, 0, .null)) rfl (fun _ => rfl) l2_1 ?_
    refine r_if (len := 3) (a := 30) (b := 0) (v0 := .null) (cn := .ge) (off := 7) rfl (fun c => ?_) (fun c => ?_)
    · rw [if_pos c] at h
      refine q_li (k := 1) (i := 2) (q := (.iload_n 2, 1, 0, 0, .null)) rfl (fun _ => rfl) l2_1 ?_
      obtain rfl := Option.some.inj h
      exact q_ri (q := (.ireturn, 1, 0, 0, .null)) rfl (fun _ => rfl) rfl rfl
    · rw [if_neg (by rw [c]; decide)] at h
      exact T213_26 H he F l0_1 l1_1 l2_1 h
set_option maxRecDepth 20000 in
theorem Z213 {B : zHp} (H : yH0 B) {F : Nat} {a1 : Int32} {m : xS} {x : Int32 × xS} (h : D213 F a1 m = some x) {d : Nat} (hd : 3 ≤ d) : zCan d 213 [.ref 70, .int a1] (xW B m) (some (.int x.1), xW B x.2) := by
  obtain ⟨e, rfl⟩ : ∃ e, d = e + 1 := ⟨d - 1, by omega⟩
  refine zCan_body (nL := 3) (rt := (some .int)) (cd := zc213) (xg213) ⟨Nat.le_of_ble_eq_true rfl, by decide⟩ (Nat.le_refl _) ?_
  exact T213 H hd F rfl rfl h
/-- LentToolsModel.sharpBy -/
def D214_14 (F : Nat) (v1 : Int32) (v2 : Int32) (m : xS) : Option (Int32 × xS) :=
  (D208 F v1 2 m).bind fun q17 =>
    (D208 F v1 4 q17.2).bind fun q23 =>
      (D213 F v1 q23.2).bind fun q31 =>
        if zcmp .ge (((q17.1 + q23.1) + v2) - q31.1) 0 = true then
          some ((((q17.1 + q23.1) + v2) - q31.1), q31.2)
        else
          some (0, q31.2)
set_option maxRecDepth 20000 in
theorem T214_14 {B : zHp} (H : yH0 B) {e : Nat} (he : 4 ≤ e + 1) (F : Nat) {v1 : Int32} {v2 : Int32} {lv : List (Nat × Value)} {m : xS} {x : Int32 × xS} (l0 : zld lv 0 = some (.ref 70)) (l1 : zld lv 1 = some (.int v1)) (l2 : zld lv 2 = some (.int v2)) (h : D214_14 F v1 v2 m = some x) : zR none e 4 (some .int) zc214 (14, lv, []) (xW B m) (some (.int x.1), xW B x.2) := by
  unfold D214_14 at h
  refine q_lr (k := 1) (i := 0) (q := (.aload_n 0, 1, 0, 0, .null)) rfl (fun _ => rfl) l0 ?_
  refine q_li (k := 1) (i := 1) (q := (.iload_n 1, 1, 0, 0, .null)) rfl (fun _ => rfl) l1 ?_
  refine r_s (fr' := (17, lv, [.int 2, .int v1, .ref 70])) (hp' := xW B m) (q := (.iconst 2, 1, 0, 0, .null)) rfl (fun _ => rfl) (Nat.le_refl _) ?_
  obtain ⟨q17, h17, h⟩ := xbind h
  refine r_call (ix := 70) (as := [.int v1, .int 2]) (rest := []) (rv := some (.int q17.1)) (hp' := xW B q17.2) (pc := 17) rfl xr208 rfl rfl rfl (xkd H (by decide)) (Nat.le_of_ble_eq_true rfl) (Z208 H h17 (by omega)) (Nat.le_refl _) ?_
  refine q_lr (k := 1) (i := 0) (q := (.aload_n 0, 1, 0, 0, .null)) rfl (fun _ => rfl) l0 ?_
  refine q_li (k := 1) (i := 1) (q := (.iload_n 1, 1, 0, 0, .null)) rfl (fun _ => rfl) l1 ?_
  refine r_s (fr' := (23, lv, [.int 4, .int v1, .ref 70, .int q17.1])) (hp' := xW B q17.2) (q := (.iconst 4, 1, 0, 0, .null)) rfl (fun _ => rfl) (Nat.le_refl _) ?_
  obtain ⟨q23, h23, h⟩ := xbind h
  refine r_call (ix := 70) (as := [.int v1, .int 4]) (rest := [.int q17.1]) (rv := some (.int q23.1)) (hp' := xW B q23.2) (pc := 23) rfl xr208 rfl rfl rfl (xkd H (by decide)) (Nat.le_of_ble_eq_true rfl) (Z208 H h23 (by omega)) (Nat.le_refl _) ?_
  refine r_s (fr' := (27, lv, [.int (q17.1 + q23.1)])) (hp' := xW B q23.2) (q := (.iadd, 1, 0, 0, .null)) rfl (fun _ => rfl) (Nat.le_refl _) ?_
  refine q_li (k := 1) (i := 2) (q := (.iload_n 2, 1, 0, 0, .null)) rfl (fun _ => rfl) l2 ?_
  refine r_s (fr' := (29, lv, [.int ((q17.1 + q23.1) + v2)])) (hp' := xW B q23.2) (q := (.iadd, 1, 0, 0, .null)) rfl (fun _ => rfl) (Nat.le_refl _) ?_
  refine q_lr (k := 1) (i := 0) (q := (.aload_n 0, 1, 0, 0, .null)) rfl (fun _ => rfl) l0 ?_
  refine q_li (k := 1) (i := 1) (q := (.iload_n 1, 1, 0, 0, .null)) rfl (fun _ => rfl) l1 ?_
  obtain ⟨q31, h31, h⟩ := xbind h
  refine r_call (ix := 70) (as := [.int v1]) (rest := [.int ((q17.1 + q23.1) + v2)]) (rv := some (.int q31.1)) (hp' := xW B q31.2) (pc := 31) rfl xr213 rfl rfl rfl (xkd H (by decide)) (Nat.le_of_ble_eq_true rfl) (Z213 H h31 (by omega)) (Nat.le_refl _) ?_
  refine r_s (fr' := (35, lv, [.int (((q17.1 + q23.1) + v2) - q31.1)])) (hp' := xW B q31.2) (q := (.isub, 1, 0, 0, .null)) rfl (fun _ => rfl) (Nat.le_refl _) ?_
  refine q_si (k := 1) (i := 3) (q := (.istore_n 3, 1, 0, 0, .null)) rfl (fun _ => rfl) (by decide) ?_
  have l0_1 : zld (zs1 lv 3 (.int (((q17.1 + q23.1) + v2) - q31.1))) 0 = some (.ref 70) := x_o1 l0 rfl rfl
  have l1_1 : zld (zs1 lv 3 (.int (((q17.1 + q23.1) + v2) - q31.1))) 1 = some (.int v1) := x_o1 l1 rfl rfl
  have l2_1 : zld (zs1 lv 3 (.int (((q17.1 + q23.1) + v2) - q31.1))) 2 = some (.int v2) := x_o1 l2 rfl rfl
  have l3_1 : zld (zs1 lv 3 (.int (((q17.1 + q23.1) + v2) - q31.1))) 3 = some (.int (((q17.1 + q23.1) + v2) - q31.1)) := zs1_ld _ _ _
  generalize (zs1 lv 3 (.int (((q17.1 + q23.1) + v2) - q31.1))) = lv1 at *
  refine q_li (k := 1) (i := 3) (q := (.iload_n 3, 1, 0, 0, .null)) rfl (fun _ => rfl) l3_1 ?_
  refine r_if (len := 3) (a := 44) (b := 0) (v0 := .null) (cn := .ge) (off := 7) rfl (fun c => ?_) (fun c => ?_)
  · rw [if_pos c] at h
    refine q_li (k := 1) (i := 3) (q := (.iload_n 3, 1, 0, 0, .null)) rfl (fun _ => rfl) l3_1 ?_
    obtain rfl := Option.some.inj h
    exact q_ri (q := (.ireturn, 1, 0, 0, .null)) rfl (fun _ => rfl) rfl rfl
  · rw [if_neg (by rw [c]; decide)] at h
    refine r_s (fr' := (41, lv1, [.int 0])) (hp' := xW B q31.2) (q := (.iconst 0, 1, 0, 0, .null)) rfl (fun _ => rfl) (Nat.le_refl _) ?_
    refine r_s (fr' := (45, lv1, [.int 0])) (hp' := xW B q31.2) (q := (.goto 4, 3, 45, 0, .null)) rfl (fun _ => rfl) (Nat.le_refl _) ?_
    obtain rfl := Option.some.inj h
    exact q_ri (q := (.ireturn, 1, 0, 0, .null)) rfl (fun _ => rfl) rfl rfl
def D214 (F : Nat) (v1 : Int32) (v2 : Int32) (m : xS) : Option (Int32 × xS) :=
  if zcmp .ne v2 0 = true then
    D214_14 F v1 v2 m
  else
    (D212 F v1 m).bind fun q6 =>
      if zcmp .eq q6.1 0 = true then
        D214_14 F v1 v2 q6.2
      else
        some (0, q6.2)
set_option maxRecDepth 20000 in
theorem T214 {B : zHp} (H : yH0 B) {e : Nat} (he : 4 ≤ e + 1) (F : Nat) {v1 : Int32} {v2 : Int32} {lv : List (Nat × Value)} {m : xS} {x : Int32 × xS} (l0 : zld lv 0 = some (.ref 70)) (l1 : zld lv 1 = some (.int v1)) (l2 : zld lv 2 = some (.int v2)) (h : D214 F v1 v2 m = some x) : zR none e 4 (some .int) zc214 (0, lv, []) (xW B m) (some (.int x.1), xW B x.2) := by
  unfold D214 at h
  refine q_li (k := 1) (i := 2) (q := (.iload_n 2, 1, 0, 0, .null)) rfl (fun _ => rfl) l2 ?_
  refine r_if (len := 3) (a := 14) (b := 0) (v0 := .null) (cn := .ne) (off := 13) rfl (fun c => ?_) (fun c => ?_)
  · rw [if_pos c] at h
    exact T214_14 H he F l0 l1 l2 h
  · rw [if_neg (by rw [c]; decide)] at h
    refine q_lr (k := 1) (i := 0) (q := (.aload_n 0, 1, 0, 0, .null)) rfl (fun _ => rfl) l0 ?_
    refine q_li (k := 1) (i := 1) (q := (.iload_n 1, 1, 0, 0, .null)) rfl (fun _ => rfl) l1 ?_
    obtain ⟨q6, h6, h⟩ := xbind h
    refine r_call (ix := 70) (as := [.int v1]) (rest := []) (rv := some (.int q6.1)) (hp' := xW B q6.2) (pc := 6) rfl xr212 rfl rfl rfl (xkd H (by decide)) (Nat.le_of_ble_eq_true rfl) (Z212 H h6 (by omega)) (Nat.le_refl _) ?_
    refine r_if (len := 3) (a := 14) (b := 0) (v0 := .null) (cn := .eq) (off := 5) rfl (fun c => ?_) (fun c => ?_)
    · rw [if_pos c] at h
      exact T214_14 H he F l0 l1 l2 h
    · rw [if_neg (by rw [c]; decide)] at h
      refine r_s (fr' := (13, lv, [.int 0])) (hp' := xW B q6.2) (q := (.iconst 0, 1, 0, 0, .null)) rfl (fun _ => rfl) (Nat.le_refl _) ?_
      obtain rfl := Option.some.inj h
      exact q_ri (q := (.ireturn, 1, 0, 0, .null)) rfl (fun _ => rfl) rfl rfl
set_option maxRecDepth 20000 in
theorem Z214 {B : zHp} (H : yH0 B) {F : Nat} {a1 : Int32} {a2 : Int32} {m : xS} {x : Int32 × xS} (h : D214 F a1 a2 m = some x) {d : Nat} (hd : 4 ≤ d) : zCan d 214 [.ref 70, .int a1, .int a2] (xW B m) (some (.int x.1), xW B x.2) := by
  obtain ⟨e, rfl⟩ : ∃ e, d = e + 1 := ⟨d - 1, by omega⟩
  refine zCan_body (nL := 4) (rt := (some .int)) (cd := zc214) (xg214) ⟨Nat.le_of_ble_eq_true rfl, by decide⟩ (Nat.le_refl _) ?_
  exact T214 H hd F rfl rfl rfl h
/-- LentToolsModel.tool -/
def D217_20 (F : Nat) (v1 : Int32) (v2 : Int32) (m : xS) : Option (Int32 × xS) :=
  some ((-1), m)
set_option maxRecDepth 20000 in
theorem T217_20 {B : zHp} (H : yH0 B) {e : Nat} (he : 5 ≤ e + 1) (F : Nat) {v1 : Int32} {v2 : Int32} {lv : List (Nat × Value)} {m : xS} {x : Int32 × xS} (l0 : zld lv 0 = some (.ref 70)) (l1 : zld lv 1 = some (.int v1)) (l2 : zld lv 2 = some (.int v2)) (h : D217_20 F v1 v2 m = some x) : zR none e 3 (some .int) zc217 (20, lv, []) (xW B m) (some (.int x.1), xW B x.2) := by
  unfold D217_20 at h
  refine r_s (fr' := (21, lv, [.int (-1)])) (hp' := xW B m) (q := (.iconst (-1), 1, 0, 0, .null)) rfl (fun _ => rfl) (Nat.le_refl _) ?_
  obtain rfl := Option.some.inj h
  exact q_ri (q := (.ireturn, 1, 0, 0, .null)) rfl (fun _ => rfl) rfl rfl
def D217 (F : Nat) (v1 : Int32) (v2 : Int32) (m : xS) : Option (Int32 × xS) :=
  (D206 F v1 m).bind fun q2 =>
    if zcmp .eq q2.1 0 = true then
      D217_20 F v1 v2 q2.2
    else
      (D158 F (v2 : Int32).toInt64 0 7 q2.2).bind fun q14 =>
        if zcmp .ne q14.1 0 = true then
          if zcmp .ge v2 6 = true then
            if zcmp .ne v2 6 = true then
              (D213 F v1 q14.2).bind fun q54 =>
                some (q54.1, q54.2)
            else
              (D214 F v1 0 q14.2).bind fun q46 =>
                some (q46.1, q46.2)
          else
            (D208 F v1 v2 q14.2).bind fun q31 =>
              some (q31.1, q31.2)
        else
          D217_20 F v1 v2 q14.2
set_option maxRecDepth 20000 in
theorem T217 {B : zHp} (H : yH0 B) {e : Nat} (he : 5 ≤ e + 1) (F : Nat) {v1 : Int32} {v2 : Int32} {lv : List (Nat × Value)} {m : xS} {x : Int32 × xS} (l0 : zld lv 0 = some (.ref 70)) (l1 : zld lv 1 = some (.int v1)) (l2 : zld lv 2 = some (.int v2)) (h : D217 F v1 v2 m = some x) : zR none e 3 (some .int) zc217 (0, lv, []) (xW B m) (some (.int x.1), xW B x.2) := by
  unfold D217 at h
  refine q_lr (k := 1) (i := 0) (q := (.aload_n 0, 1, 0, 0, .null)) rfl (fun _ => rfl) l0 ?_
  refine q_li (k := 1) (i := 1) (q := (.iload_n 1, 1, 0, 0, .null)) rfl (fun _ => rfl) l1 ?_
  obtain ⟨q2, h2, h⟩ := xbind h
  refine r_call (ix := 70) (as := [.int v1]) (rest := []) (rv := some (.int q2.1)) (hp' := xW B q2.2) (pc := 2) rfl xr206 rfl rfl rfl (xkd H (by decide)) (Nat.le_of_ble_eq_true rfl) (Z206 H h2 (by omega)) (Nat.le_refl _) ?_
  refine r_if (len := 3) (a := 20) (b := 0) (v0 := .null) (cn := .eq) (off := 15) rfl (fun c => ?_) (fun c => ?_)
  · rw [if_pos c] at h
    exact T217_20 H he F l0 l1 l2 h
  · rw [if_neg (by rw [c]; decide)] at h
    refine q_li (k := 1) (i := 2) (q := (.iload_n 2, 1, 0, 0, .null)) rfl (fun _ => rfl) l2 ?_
    refine r_s (fr' := (10, lv, [.long (v2 : Int32).toInt64])) (hp' := xW B q2.2) (q := (.i2l, 1, 0, 0, .null)) rfl (fun _ => rfl) (Nat.le_refl _) ?_
    refine r_s (fr' := (11, lv, [.long 0, .long (v2 : Int32).toInt64])) (hp' := xW B q2.2) (q := (.lconst 0, 1, 0, 0, .null)) rfl (fun _ => rfl) (Nat.le_refl _) ?_
    refine r_s (fr' := (14, lv, [.long 7, .long 0, .long (v2 : Int32).toInt64])) (hp' := xW B q2.2) (q := (.ldc2_w 304, 3, 0, 0, .long 7)) rfl (fun _ => rfl) (Nat.le_refl _) ?_
    obtain ⟨q14, h14, h⟩ := xbind h
    refine r_callS (as := [.long (v2 : Int32).toInt64, .long 0, .long 7]) (rest := []) (rv := some (.int q14.1)) (hp' := xW B q14.2) (pc := 14) rfl xr158 rfl rfl rfl (Nat.le_of_ble_eq_true rfl) (Z158 H h14 (by omega)) (Nat.le_refl _) ?_
    refine r_if (len := 3) (a := 22) (b := 0) (v0 := .null) (cn := .ne) (off := 5) rfl (fun c => ?_) (fun c => ?_)
    · rw [if_pos c] at h
      refine q_li (k := 1) (i := 2) (q := (.iload_n 2, 1, 0, 0, .null)) rfl (fun _ => rfl) l2 ?_
      refine r_s (fr' := (25, lv, [.int 6, .int v2])) (hp' := xW B q14.2) (q := (.bipush 6, 2, 0, 0, .null)) rfl (fun _ => rfl) (Nat.le_refl _) ?_
      refine r_ifc (len := 3) (a := 37) (b := 0) (v0 := .null) (cn := .ge) (off := 12) rfl (fun c => ?_) (fun c => ?_)
      · rw [if_pos c] at h
        refine q_li (k := 1) (i := 2) (q := (.iload_n 2, 1, 0, 0, .null)) rfl (fun _ => rfl) l2 ?_
        refine r_s (fr' := (40, lv, [.int 6, .int v2])) (hp' := xW B q14.2) (q := (.bipush 6, 2, 0, 0, .null)) rfl (fun _ => rfl) (Nat.le_refl _) ?_
        refine r_ifc (len := 3) (a := 52) (b := 0) (v0 := .null) (cn := .ne) (off := 12) rfl (fun c => ?_) (fun c => ?_)
        · rw [if_pos c] at h
          refine q_lr (k := 1) (i := 0) (q := (.aload_n 0, 1, 0, 0, .null)) rfl (fun _ => rfl) l0 ?_
          refine q_li (k := 1) (i := 1) (q := (.iload_n 1, 1, 0, 0, .null)) rfl (fun _ => rfl) l1 ?_
          obtain ⟨q54, h54, h⟩ := xbind h
          refine r_call (ix := 70) (as := [.int v1]) (rest := []) (rv := some (.int q54.1)) (hp' := xW B q54.2) (pc := 54) rfl xr213 rfl rfl rfl (xkd H (by decide)) (Nat.le_of_ble_eq_true rfl) (Z213 H h54 (by omega)) (Nat.le_refl _) ?_
          obtain rfl := Option.some.inj h
          exact q_ri (q := (.ireturn, 1, 0, 0, .null)) rfl (fun _ => rfl) rfl rfl
        · rw [if_neg (by rw [c]; decide)] at h
          refine q_lr (k := 1) (i := 0) (q := (.aload_n 0, 1, 0, 0, .null)) rfl (fun _ => rfl) l0 ?_
          refine q_li (k := 1) (i := 1) (q := (.iload_n 1, 1, 0, 0, .null)) rfl (fun _ => rfl) l1 ?_
          refine r_s (fr' := (46, lv, [.int 0, .int v1, .ref 70])) (hp' := xW B q14.2) (q := (.iconst 0, 1, 0, 0, .null)) rfl (fun _ => rfl) (Nat.le_refl _) ?_
          obtain ⟨q46, h46, h⟩ := xbind h
          refine r_call (ix := 70) (as := [.int v1, .int 0]) (rest := []) (rv := some (.int q46.1)) (hp' := xW B q46.2) (pc := 46) rfl xr214 rfl rfl rfl (xkd H (by decide)) (Nat.le_of_ble_eq_true rfl) (Z214 H h46 (by omega)) (Nat.le_refl _) ?_
          refine r_s (fr' := (57, lv, [.int q46.1])) (hp' := xW B q46.2) (q := (.goto 8, 3, 57, 0, .null)) rfl (fun _ => rfl) (Nat.le_refl _) ?_
          obtain rfl := Option.some.inj h
          exact q_ri (q := (.ireturn, 1, 0, 0, .null)) rfl (fun _ => rfl) rfl rfl
      · rw [if_neg (by rw [c]; decide)] at h
        refine q_lr (k := 1) (i := 0) (q := (.aload_n 0, 1, 0, 0, .null)) rfl (fun _ => rfl) l0 ?_
        refine q_li (k := 1) (i := 1) (q := (.iload_n 1, 1, 0, 0, .null)) rfl (fun _ => rfl) l1 ?_
        refine q_li (k := 1) (i := 2) (q := (.iload_n 2, 1, 0, 0, .null)) rfl (fun _ => rfl) l2 ?_
        obtain ⟨q31, h31, h⟩ := xbind h
        refine r_call (ix := 70) (as := [.int v1, .int v2]) (rest := []) (rv := some (.int q31.1)) (hp' := xW B q31.2) (pc := 31) rfl xr208 rfl rfl rfl (xkd H (by decide)) (Nat.le_of_ble_eq_true rfl) (Z208 H h31 (by omega)) (Nat.le_refl _) ?_
        refine r_s (fr' := (57, lv, [.int q31.1])) (hp' := xW B q31.2) (q := (.goto 23, 3, 57, 0, .null)) rfl (fun _ => rfl) (Nat.le_refl _) ?_
        obtain rfl := Option.some.inj h
        exact q_ri (q := (.ireturn, 1, 0, 0, .null)) rfl (fun _ => rfl) rfl rfl
    · rw [if_neg (by rw [c]; decide)] at h
      exact T217_20 H he F l0 l1 l2 h
set_option maxRecDepth 20000 in
theorem Z217 {B : zHp} (H : yH0 B) {F : Nat} {a1 : Int32} {a2 : Int32} {m : xS} {x : Int32 × xS} (h : D217 F a1 a2 m = some x) {d : Nat} (hd : 5 ≤ d) : zCan d 217 [.ref 70, .int a1, .int a2] (xW B m) (some (.int x.1), xW B x.2) := by
  obtain ⟨e, rfl⟩ : ∃ e, d = e + 1 := ⟨d - 1, by omega⟩
  refine zCan_body (nL := 3) (rt := (some .int)) (cd := zc217) (xg217) ⟨Nat.le_of_ble_eq_true rfl, by decide⟩ (Nat.le_refl _) ?_
  exact T217 H hd F rfl rfl rfl h
/-- LentToolsModel.isWork -/
def D207_18 (F : Nat) (v1 : Int32) (m : xS) : Option (Int32 × xS) :=
  some (0, m)
set_option maxRecDepth 20000 in
theorem T207_18 {B : zHp} (H : yH0 B) {e : Nat} (he : 1 ≤ e + 1) (F : Nat) {v1 : Int32} {lv : List (Nat × Value)} {m : xS} {x : Int32 × xS} (l0 : zld lv 0 = some (.ref 70)) (l1 : zld lv 1 = some (.int v1)) (h : D207_18 F v1 m = some x) : zR none e 2 (some .boolean) zc207 (18, lv, []) (xW B m) (some (.int x.1), xW B x.2) := by
  unfold D207_18 at h
  refine r_s (fr' := (19, lv, [.int 0])) (hp' := xW B m) (q := (.iconst 0, 1, 0, 0, .null)) rfl (fun _ => rfl) (Nat.le_refl _) ?_
  obtain rfl := Option.some.inj h
  exact q_ri (q := (.ireturn, 1, 0, 0, .null)) rfl (fun _ => rfl) rfl rfl
def D207 (F : Nat) (v1 : Int32) (m : xS) : Option (Int32 × xS) :=
  if zcmp .lt v1 0 = true then
    D207_18 F v1 m
  else
    if zcmp .ge v1 (m.1 80 3) = true then
      D207_18 F v1 m
    else
      some (1, m)
set_option maxRecDepth 20000 in
theorem T207 {B : zHp} (H : yH0 B) {e : Nat} (he : 1 ≤ e + 1) (F : Nat) {v1 : Int32} {lv : List (Nat × Value)} {m : xS} {x : Int32 × xS} (l0 : zld lv 0 = some (.ref 70)) (l1 : zld lv 1 = some (.int v1)) (h : D207 F v1 m = some x) : zR none e 2 (some .boolean) zc207 (0, lv, []) (xW B m) (some (.int x.1), xW B x.2) := by
  unfold D207 at h
  refine q_li (k := 1) (i := 1) (q := (.iload_n 1, 1, 0, 0, .null)) rfl (fun _ => rfl) l1 ?_
  refine r_if (len := 3) (a := 18) (b := 0) (v0 := .null) (cn := .lt) (off := 17) rfl (fun c => ?_) (fun c => ?_)
  · rw [if_pos c] at h
    exact T207_18 H he F l0 l1 h
  · rw [if_neg (by rw [c]; decide)] at h
    refine q_li (k := 1) (i := 1) (q := (.iload_n 1, 1, 0, 0, .null)) rfl (fun _ => rfl) l1 ?_
    refine q_lr (k := 1) (i := 0) (q := (.aload_n 0, 1, 0, 0, .null)) rfl (fun _ => rfl) l0 ?_
    refine r_gr (c := 80) H (pc := 6) rfl (by decide) (by decide) ?_
    refine r_s (fr' := (10, lv, [.int 3, .ref 80, .int v1])) (hp' := xW B m) (q := (.iconst 3, 1, 0, 0, .null)) rfl (fun _ => rfl) (Nat.le_refl _) ?_
    refine q_al (n := 148) (v := (m.1 80 3)) H (pc := 10) rfl (by decide) (by decide) rfl ?_
    refine r_ifc (len := 3) (a := 18) (b := 0) (v0 := .null) (cn := .ge) (off := 7) rfl (fun c => ?_) (fun c => ?_)
    · rw [if_pos c] at h
      exact T207_18 H he F l0 l1 h
    · rw [if_neg (by rw [c]; decide)] at h
      refine r_s (fr' := (15, lv, [.int 1])) (hp' := xW B m) (q := (.iconst 1, 1, 0, 0, .null)) rfl (fun _ => rfl) (Nat.le_refl _) ?_
      refine r_s (fr' := (19, lv, [.int 1])) (hp' := xW B m) (q := (.goto 4, 3, 19, 0, .null)) rfl (fun _ => rfl) (Nat.le_refl _) ?_
      obtain rfl := Option.some.inj h
      exact q_ri (q := (.ireturn, 1, 0, 0, .null)) rfl (fun _ => rfl) rfl rfl
set_option maxRecDepth 20000 in
theorem Z207 {B : zHp} (H : yH0 B) {F : Nat} {a1 : Int32} {m : xS} {x : Int32 × xS} (h : D207 F a1 m = some x) {d : Nat} (hd : 1 ≤ d) : zCan d 207 [.ref 70, .int a1] (xW B m) (some (.int x.1), xW B x.2) := by
  obtain ⟨e, rfl⟩ : ∃ e, d = e + 1 := ⟨d - 1, by omega⟩
  refine zCan_body (nL := 2) (rt := (some .boolean)) (cd := zc207) (xg207) ⟨Nat.le_of_ble_eq_true rfl, by decide⟩ (Nat.le_refl _) ?_
  exact T207 H hd F rfl rfl h
/-- LentToolsModel.workOf -/
def D209 (F : Nat) (v1 : Int32) (v2 : Int32) (m : xS) : Option (Int32 × xS) :=
  if xib ((124 + (4 * v1)) + v2) 148 = true then
    some ((m.1 80 (((124 + (4 * v1)) + v2) : Int32).toNatClampNeg), m)
  else none
set_option maxRecDepth 20000 in
theorem T209 {B : zHp} (H : yH0 B) {e : Nat} (he : 1 ≤ e + 1) (F : Nat) {v1 : Int32} {v2 : Int32} {lv : List (Nat × Value)} {m : xS} {x : Int32 × xS} (l0 : zld lv 0 = some (.ref 70)) (l1 : zld lv 1 = some (.int v1)) (l2 : zld lv 2 = some (.int v2)) (h : D209 F v1 v2 m = some x) : zR none e 3 (some .int) zc209 (0, lv, []) (xW B m) (some (.int x.1), xW B x.2) := by
  unfold D209 at h
  refine q_lr (k := 1) (i := 0) (q := (.aload_n 0, 1, 0, 0, .null)) rfl (fun _ => rfl) l0 ?_
  refine r_gr (c := 80) H (pc := 1) rfl (by decide) (by decide) ?_
  refine r_s (fr' := (6, lv, [.int 124, .ref 80])) (hp' := xW B m) (q := (.bipush 124, 2, 0, 0, .null)) rfl (fun _ => rfl) (Nat.le_refl _) ?_
  refine r_s (fr' := (7, lv, [.int 4, .int 124, .ref 80])) (hp' := xW B m) (q := (.iconst 4, 1, 0, 0, .null)) rfl (fun _ => rfl) (Nat.le_refl _) ?_
  refine q_li (k := 1) (i := 1) (q := (.iload_n 1, 1, 0, 0, .null)) rfl (fun _ => rfl) l1 ?_
  refine r_s (fr' := (9, lv, [.int (4 * v1), .int 124, .ref 80])) (hp' := xW B m) (q := (.imul, 1, 0, 0, .null)) rfl (fun _ => rfl) (Nat.le_refl _) ?_
  refine r_s (fr' := (10, lv, [.int (124 + (4 * v1)), .ref 80])) (hp' := xW B m) (q := (.iadd, 1, 0, 0, .null)) rfl (fun _ => rfl) (Nat.le_refl _) ?_
  refine q_li (k := 1) (i := 2) (q := (.iload_n 2, 1, 0, 0, .null)) rfl (fun _ => rfl) l2 ?_
  refine r_s (fr' := (12, lv, [.int ((124 + (4 * v1)) + v2), .ref 80])) (hp' := xW B m) (q := (.iadd, 1, 0, 0, .null)) rfl (fun _ => rfl) (Nat.le_refl _) ?_
  obtain ⟨c1, h⟩ := xif h
  refine q_al (n := 148) (v := (m.1 80 (((124 + (4 * v1)) + v2) : Int32).toNatClampNeg)) H (pc := 12) rfl (by decide) c1 rfl ?_
  obtain rfl := Option.some.inj h
  exact q_ri (q := (.ireturn, 1, 0, 0, .null)) rfl (fun _ => rfl) rfl rfl
set_option maxRecDepth 20000 in
theorem Z209 {B : zHp} (H : yH0 B) {F : Nat} {a1 : Int32} {a2 : Int32} {m : xS} {x : Int32 × xS} (h : D209 F a1 a2 m = some x) {d : Nat} (hd : 1 ≤ d) : zCan d 209 [.ref 70, .int a1, .int a2] (xW B m) (some (.int x.1), xW B x.2) := by
  obtain ⟨e, rfl⟩ : ∃ e, d = e + 1 := ⟨d - 1, by omega⟩
  refine zCan_body (nL := 3) (rt := (some .int)) (cd := zc209) (xg209) ⟨Nat.le_of_ble_eq_true rfl, by decide⟩ (Nat.le_refl _) ?_
  exact T209 H hd F rfl rfl rfl h
/-- LentToolsModel.isDone -/
def D215 (F : Nat) (v1 : Int32) (m : xS) : Option (Int32 × xS) :=
  if xib (118 + v1) 148 = true then
    if zcmp .lt (m.1 80 ((118 + v1) : Int32).toNatClampNeg) 0 = true then
      some (0, m)
    else
      some (1, m)
  else none
set_option maxRecDepth 20000 in
theorem T215 {B : zHp} (H : yH0 B) {e : Nat} (he : 1 ≤ e + 1) (F : Nat) {v1 : Int32} {lv : List (Nat × Value)} {m : xS} {x : Int32 × xS} (l0 : zld lv 0 = some (.ref 70)) (l1 : zld lv 1 = some (.int v1)) (h : D215 F v1 m = some x) : zR none e 2 (some .boolean) zc215 (0, lv, []) (xW B m) (some (.int x.1), xW B x.2) := by
  unfold D215 at h
  refine q_lr (k := 1) (i := 0) (q := (.aload_n 0, 1, 0, 0, .null)) rfl (fun _ => rfl) l0 ?_
  refine r_gr (c := 80) H (pc := 1) rfl (by decide) (by decide) ?_
  refine r_s (fr' := (6, lv, [.int 118, .ref 80])) (hp' := xW B m) (q := (.bipush 118, 2, 0, 0, .null)) rfl (fun _ => rfl) (Nat.le_refl _) ?_
  refine q_li (k := 1) (i := 1) (q := (.iload_n 1, 1, 0, 0, .null)) rfl (fun _ => rfl) l1 ?_
  refine r_s (fr' := (8, lv, [.int (118 + v1), .ref 80])) (hp' := xW B m) (q := (.iadd, 1, 0, 0, .null)) rfl (fun _ => rfl) (Nat.le_refl _) ?_
  obtain ⟨c1, h⟩ := xif h
  refine q_al (n := 148) (v := (m.1 80 ((118 + v1) : Int32).toNatClampNeg)) H (pc := 8) rfl (by decide) c1 rfl ?_
  refine r_if (len := 3) (a := 16) (b := 0) (v0 := .null) (cn := .lt) (off := 7) rfl (fun c => ?_) (fun c => ?_)
  · rw [if_pos c] at h
    refine r_s (fr' := (17, lv, [.int 0])) (hp' := xW B m) (q := (.iconst 0, 1, 0, 0, .null)) rfl (fun _ => rfl) (Nat.le_refl _) ?_
    obtain rfl := Option.some.inj h
    exact q_ri (q := (.ireturn, 1, 0, 0, .null)) rfl (fun _ => rfl) rfl rfl
  · rw [if_neg (by rw [c]; decide)] at h
    refine r_s (fr' := (13, lv, [.int 1])) (hp' := xW B m) (q := (.iconst 1, 1, 0, 0, .null)) rfl (fun _ => rfl) (Nat.le_refl _) ?_
    refine r_s (fr' := (17, lv, [.int 1])) (hp' := xW B m) (q := (.goto 4, 3, 17, 0, .null)) rfl (fun _ => rfl) (Nat.le_refl _) ?_
    obtain rfl := Option.some.inj h
    exact q_ri (q := (.ireturn, 1, 0, 0, .null)) rfl (fun _ => rfl) rfl rfl
set_option maxRecDepth 20000 in
theorem Z215 {B : zHp} (H : yH0 B) {F : Nat} {a1 : Int32} {m : xS} {x : Int32 × xS} (h : D215 F a1 m = some x) {d : Nat} (hd : 1 ≤ d) : zCan d 215 [.ref 70, .int a1] (xW B m) (some (.int x.1), xW B x.2) := by
  obtain ⟨e, rfl⟩ : ∃ e, d = e + 1 := ⟨d - 1, by omega⟩
  refine zCan_body (nL := 2) (rt := (some .boolean)) (cd := zc215) (xg215) ⟨Nat.le_of_ble_eq_true rfl, by decide⟩ (Nat.le_refl _) ?_
  exact T215 H hd F rfl rfl h
/-- LentToolsModel.canDo -/
def D216_69 (F : Nat) (g12 : Int32 → Int32 → xS → Option (Int32 × xS)) (v1 : Int32) (v2 : Int32) (m : xS) : Option (Int32 × xS) :=
  g12 v1 (v2 + Int32.ofInt 1) m
set_option maxRecDepth 20000 in
theorem T216_69 {B : zHp} (H : yH0 B) {e : Nat} (he : 5 ≤ e + 1) (F : Nat) (g12 : Int32 → Int32 → xS → Option (Int32 × xS)) (k12 : ∀ {v1 : Int32} {v2 : Int32} {lv : List (Nat × Value)} {m : xS} {x : Int32 × xS}, zld lv 0 = some (.ref 70) → zld lv 1 = some (.int v1) → zld lv 2 = some (.int v2) → g12 v1 v2 m = some x → zR none e 3 (some .boolean) zc216 (12, lv, []) (xW B m) (some (.int x.1), xW B x.2)) {v1 : Int32} {v2 : Int32} {lv : List (Nat × Value)} {m : xS} {x : Int32 × xS} (l0 : zld lv 0 = some (.ref 70)) (l1 : zld lv 1 = some (.int v1)) (l2 : zld lv 2 = some (.int v2)) (h : D216_69 F g12 v1 v2 m = some x) : zR none e 3 (some .boolean) zc216 (69, lv, []) (xW B m) (some (.int x.1), xW B x.2) := by
  unfold D216_69 at h
  refine q_inc (i := 2) (n := 1) (q := (.iinc 2 1, 3, 0, 0, .null)) rfl (fun _ => rfl) l2 (by decide) ?_
  have l0_1 : zld (zs1 lv 2 (.int (v2 + Int32.ofInt 1))) 0 = some (.ref 70) := x_o1 l0 rfl rfl
  have l1_1 : zld (zs1 lv 2 (.int (v2 + Int32.ofInt 1))) 1 = some (.int v1) := x_o1 l1 rfl rfl
  have l2_1 : zld (zs1 lv 2 (.int (v2 + Int32.ofInt 1))) 2 = some (.int (v2 + Int32.ofInt 1)) := zs1_ld _ _ _
  generalize (zs1 lv 2 (.int (v2 + Int32.ofInt 1))) = lv1 at *
  refine r_s (fr' := (12, lv1, [])) (hp' := xW B m) (q := (.goto (-60), 3, 12, 0, .null)) rfl (fun _ => rfl) (Nat.le_refl _) ?_
  exact k12 l0_1 l1_1 l2_1 h
def D216_12 (F : Nat) : Nat → Int32 → Int32 → xS → Option (Int32 × xS)
  | 0, _, _, _ => none
  | f + 1, v1, v2, m =>
    if zcmp .ge v2 (m.1 80 2) = true then
      some (0, m)
    else
      (D208 F v2 1 m).bind fun q25 =>
        (D209 F v1 1 q25.2).bind fun q31 =>
          if zcmp .ne q25.1 q31.1 = true then
            D216_69 F (D216_12 F f) v1 v2 q31.2
          else
            (D208 F v2 3 q31.2).bind fun q40 =>
              (D209 F v1 0 q40.2).bind fun q46 =>
                if zcmp .ne q40.1 q46.1 = true then
                  D216_69 F (D216_12 F f) v1 v2 q46.2
                else
                  (D214 F v2 0 q46.2).bind fun q55 =>
                    (D209 F v1 2 q55.2).bind fun q61 =>
                      if zcmp .lt q55.1 q61.1 = true then
                        D216_69 F (D216_12 F f) v1 v2 q61.2
                      else
                        some (1, q61.2)
set_option maxRecDepth 20000 in
theorem T216_12 {B : zHp} (H : yH0 B) {e : Nat} (he : 5 ≤ e + 1) (F : Nat) : ∀ (f : Nat) {v1 : Int32} {v2 : Int32} {lv : List (Nat × Value)} {m : xS} {x : Int32 × xS}, zld lv 0 = some (.ref 70) → zld lv 1 = some (.int v1) → zld lv 2 = some (.int v2) → D216_12 F f v1 v2 m = some x → zR none e 3 (some .boolean) zc216 (12, lv, []) (xW B m) (some (.int x.1), xW B x.2) := by
  intro f
  induction f with
  | zero => intro v1 v2 lv m x l0 l1 l2 h; cases h
  | succ f ih =>
    intro v1 v2 lv m x l0 l1 l2 h
    unfold D216_12 at h
    refine q_li (k := 1) (i := 2) (q := (.iload_n 2, 1, 0, 0, .null)) rfl (fun _ => rfl) l2 ?_
    refine q_lr (k := 1) (i := 0) (q := (.aload_n 0, 1, 0, 0, .null)) rfl (fun _ => rfl) l0 ?_
    refine r_gr (c := 80) H (pc := 14) rfl (by decide) (by decide) ?_
    refine r_s (fr' := (18, lv, [.int 2, .ref 80, .int v2])) (hp' := xW B m) (q := (.iconst 2, 1, 0, 0, .null)) rfl (fun _ => rfl) (Nat.le_refl _) ?_
    refine q_al (n := 148) (v := (m.1 80 2)) H (pc := 18) rfl (by decide) (by decide) rfl ?_
    refine r_ifc (len := 3) (a := 75) (b := 0) (v0 := .null) (cn := .ge) (off := 56) rfl (fun c => ?_) (fun c => ?_)
    · rw [if_pos c] at h
      refine r_s (fr' := (76, lv, [.int 0])) (hp' := xW B m) (q := (.iconst 0, 1, 0, 0, .null)) rfl (fun _ => rfl) (Nat.le_refl _) ?_
      obtain rfl := Option.some.inj h
      exact q_ri (q := (.ireturn, 1, 0, 0, .null)) rfl (fun _ => rfl) rfl rfl
    · rw [if_neg (by rw [c]; decide)] at h
      refine q_lr (k := 1) (i := 0) (q := (.aload_n 0, 1, 0, 0, .null)) rfl (fun _ => rfl) l0 ?_
      refine q_li (k := 1) (i := 2) (q := (.iload_n 2, 1, 0, 0, .null)) rfl (fun _ => rfl) l2 ?_
      refine r_s (fr' := (25, lv, [.int 1, .int v2, .ref 70])) (hp' := xW B m) (q := (.iconst 1, 1, 0, 0, .null)) rfl (fun _ => rfl) (Nat.le_refl _) ?_
      obtain ⟨q25, h25, h⟩ := xbind h
      refine r_call (ix := 70) (as := [.int v2, .int 1]) (rest := []) (rv := some (.int q25.1)) (hp' := xW B q25.2) (pc := 25) rfl xr208 rfl rfl rfl (xkd H (by decide)) (Nat.le_of_ble_eq_true rfl) (Z208 H h25 (by omega)) (Nat.le_refl _) ?_
      refine q_lr (k := 1) (i := 0) (q := (.aload_n 0, 1, 0, 0, .null)) rfl (fun _ => rfl) l0 ?_
      refine q_li (k := 1) (i := 1) (q := (.iload_n 1, 1, 0, 0, .null)) rfl (fun _ => rfl) l1 ?_
      refine r_s (fr' := (31, lv, [.int 1, .int v1, .ref 70, .int q25.1])) (hp' := xW B q25.2) (q := (.iconst 1, 1, 0, 0, .null)) rfl (fun _ => rfl) (Nat.le_refl _) ?_
      obtain ⟨q31, h31, h⟩ := xbind h
      refine r_call (ix := 70) (as := [.int v1, .int 1]) (rest := [.int q25.1]) (rv := some (.int q31.1)) (hp' := xW B q31.2) (pc := 31) rfl xr209 rfl rfl rfl (xkd H (by decide)) (Nat.le_of_ble_eq_true rfl) (Z209 H h31 (by omega)) (Nat.le_refl _) ?_
      refine r_ifc (len := 3) (a := 69) (b := 0) (v0 := .null) (cn := .ne) (off := 35) rfl (fun c => ?_) (fun c => ?_)
      · rw [if_pos c] at h
        exact T216_69 H he F _ ih l0 l1 l2 h
      · rw [if_neg (by rw [c]; decide)] at h
        refine q_lr (k := 1) (i := 0) (q := (.aload_n 0, 1, 0, 0, .null)) rfl (fun _ => rfl) l0 ?_
        refine q_li (k := 1) (i := 2) (q := (.iload_n 2, 1, 0, 0, .null)) rfl (fun _ => rfl) l2 ?_
        refine r_s (fr' := (40, lv, [.int 3, .int v2, .ref 70])) (hp' := xW B q31.2) (q := (.iconst 3, 1, 0, 0, .null)) rfl (fun _ => rfl) (Nat.le_refl _) ?_
        obtain ⟨q40, h40, h⟩ := xbind h
        refine r_call (ix := 70) (as := [.int v2, .int 3]) (rest := []) (rv := some (.int q40.1)) (hp' := xW B q40.2) (pc := 40) rfl xr208 rfl rfl rfl (xkd H (by decide)) (Nat.le_of_ble_eq_true rfl) (Z208 H h40 (by omega)) (Nat.le_refl _) ?_
        refine q_lr (k := 1) (i := 0) (q := (.aload_n 0, 1, 0, 0, .null)) rfl (fun _ => rfl) l0 ?_
        refine q_li (k := 1) (i := 1) (q := (.iload_n 1, 1, 0, 0, .null)) rfl (fun _ => rfl) l1 ?_
        refine r_s (fr' := (46, lv, [.int 0, .int v1, .ref 70, .int q40.1])) (hp' := xW B q40.2) (q := (.iconst 0, 1, 0, 0, .null)) rfl (fun _ => rfl) (Nat.le_refl _) ?_
        obtain ⟨q46, h46, h⟩ := xbind h
        refine r_call (ix := 70) (as := [.int v1, .int 0]) (rest := [.int q40.1]) (rv := some (.int q46.1)) (hp' := xW B q46.2) (pc := 46) rfl xr209 rfl rfl rfl (xkd H (by decide)) (Nat.le_of_ble_eq_true rfl) (Z209 H h46 (by omega)) (Nat.le_refl _) ?_
        refine r_ifc (len := 3) (a := 69) (b := 0) (v0 := .null) (cn := .ne) (off := 20) rfl (fun c => ?_) (fun c => ?_)
        · rw [if_pos c] at h
          exact T216_69 H he F _ ih l0 l1 l2 h
        · rw [if_neg (by rw [c]; decide)] at h
          refine q_lr (k := 1) (i := 0) (q := (.aload_n 0, 1, 0, 0, .null)) rfl (fun _ => rfl) l0 ?_
          refine q_li (k := 1) (i := 2) (q := (.iload_n 2, 1, 0, 0, .null)) rfl (fun _ => rfl) l2 ?_
          refine r_s (fr' := (55, lv, [.int 0, .int v2, .ref 70])) (hp' := xW B q46.2) (q := (.iconst 0, 1, 0, 0, .null)) rfl (fun _ => rfl) (Nat.le_refl _) ?_
          obtain ⟨q55, h55, h⟩ := xbind h
          refine r_call (ix := 70) (as := [.int v2, .int 0]) (rest := []) (rv := some (.int q55.1)) (hp' := xW B q55.2) (pc := 55) rfl xr214 rfl rfl rfl (xkd H (by decide)) (Nat.le_of_ble_eq_true rfl) (Z214 H h55 (by omega)) (Nat.le_refl _) ?_
          refine q_lr (k := 1) (i := 0) (q := (.aload_n 0, 1, 0, 0, .null)) rfl (fun _ => rfl) l0 ?_
          refine q_li (k := 1) (i := 1) (q := (.iload_n 1, 1, 0, 0, .null)) rfl (fun _ => rfl) l1 ?_
          refine r_s (fr' := (61, lv, [.int 2, .int v1, .ref 70, .int q55.1])) (hp' := xW B q55.2) (q := (.iconst 2, 1, 0, 0, .null)) rfl (fun _ => rfl) (Nat.le_refl _) ?_
          obtain ⟨q61, h61, h⟩ := xbind h
          refine r_call (ix := 70) (as := [.int v1, .int 2]) (rest := [.int q55.1]) (rv := some (.int q61.1)) (hp' := xW B q61.2) (pc := 61) rfl xr209 rfl rfl rfl (xkd H (by decide)) (Nat.le_of_ble_eq_true rfl) (Z209 H h61 (by omega)) (Nat.le_refl _) ?_
          refine r_ifc (len := 3) (a := 69) (b := 0) (v0 := .null) (cn := .lt) (off := 5) rfl (fun c => ?_) (fun c => ?_)
          · rw [if_pos c] at h
            exact T216_69 H he F _ ih l0 l1 l2 h
          · rw [if_neg (by rw [c]; decide)] at h
            refine r_s (fr' := (68, lv, [.int 1])) (hp' := xW B q61.2) (q := (.iconst 1, 1, 0, 0, .null)) rfl (fun _ => rfl) (Nat.le_refl _) ?_
            obtain rfl := Option.some.inj h
            exact q_ri (q := (.ireturn, 1, 0, 0, .null)) rfl (fun _ => rfl) rfl rfl
def D216 (F : Nat) (v1 : Int32) (m : xS) : Option (Int32 × xS) :=
  (D215 F v1 m).bind fun q2 =>
    if zcmp .eq q2.1 0 = true then
      D216_12 F F v1 0 q2.2
    else
      some (0, q2.2)
set_option maxRecDepth 20000 in
theorem T216 {B : zHp} (H : yH0 B) {e : Nat} (he : 5 ≤ e + 1) (F : Nat) {v1 : Int32} {lv : List (Nat × Value)} {m : xS} {x : Int32 × xS} (l0 : zld lv 0 = some (.ref 70)) (l1 : zld lv 1 = some (.int v1)) (h : D216 F v1 m = some x) : zR none e 3 (some .boolean) zc216 (0, lv, []) (xW B m) (some (.int x.1), xW B x.2) := by
  unfold D216 at h
  refine q_lr (k := 1) (i := 0) (q := (.aload_n 0, 1, 0, 0, .null)) rfl (fun _ => rfl) l0 ?_
  refine q_li (k := 1) (i := 1) (q := (.iload_n 1, 1, 0, 0, .null)) rfl (fun _ => rfl) l1 ?_
  obtain ⟨q2, h2, h⟩ := xbind h
  refine r_call (ix := 70) (as := [.int v1]) (rest := []) (rv := some (.int q2.1)) (hp' := xW B q2.2) (pc := 2) rfl xr215 rfl rfl rfl (xkd H (by decide)) (Nat.le_of_ble_eq_true rfl) (Z215 H h2 (by omega)) (Nat.le_refl _) ?_
  refine r_if (len := 3) (a := 10) (b := 0) (v0 := .null) (cn := .eq) (off := 5) rfl (fun c => ?_) (fun c => ?_)
  · rw [if_pos c] at h
    refine r_s (fr' := (11, lv, [.int 0])) (hp' := xW B q2.2) (q := (.iconst 0, 1, 0, 0, .null)) rfl (fun _ => rfl) (Nat.le_refl _) ?_
    refine q_si (k := 1) (i := 2) (q := (.istore_n 2, 1, 0, 0, .null)) rfl (fun _ => rfl) (by decide) ?_
    have l0_1 : zld (zs1 lv 2 (.int 0)) 0 = some (.ref 70) := x_o1 l0 rfl rfl
    have l1_1 : zld (zs1 lv 2 (.int 0)) 1 = some (.int v1) := x_o1 l1 rfl rfl
    have l2_1 : zld (zs1 lv 2 (.int 0)) 2 = some (.int 0) := zs1_ld _ _ _
    generalize (zs1 lv 2 (.int 0)) = lv1 at *
    exact T216_12 H he F F l0_1 l1_1 l2_1 h
  · rw [if_neg (by rw [c]; decide)] at h
    refine r_s (fr' := (9, lv, [.int 0])) (hp' := xW B q2.2) (q := (.iconst 0, 1, 0, 0, .null)) rfl (fun _ => rfl) (Nat.le_refl _) ?_
    obtain rfl := Option.some.inj h
    exact q_ri (q := (.ireturn, 1, 0, 0, .null)) rfl (fun _ => rfl) rfl rfl
set_option maxRecDepth 20000 in
theorem Z216 {B : zHp} (H : yH0 B) {F : Nat} {a1 : Int32} {m : xS} {x : Int32 × xS} (h : D216 F a1 m = some x) {d : Nat} (hd : 5 ≤ d) : zCan d 216 [.ref 70, .int a1] (xW B m) (some (.int x.1), xW B x.2) := by
  obtain ⟨e, rfl⟩ : ∃ e, d = e + 1 := ⟨d - 1, by omega⟩
  refine zCan_body (nL := 3) (rt := (some .boolean)) (cd := zc216) (xg216) ⟨Nat.le_of_ble_eq_true rfl, by decide⟩ (Nat.le_refl _) ?_
  exact T216 H hd F rfl rfl h
/-- LentToolsModel.work -/
def D218_20 (F : Nat) (v1 : Int32) (v2 : Int32) (m : xS) : Option (Int32 × xS) :=
  some ((-2), m)
set_option maxRecDepth 20000 in
theorem T218_20 {B : zHp} (H : yH0 B) {e : Nat} (he : 6 ≤ e + 1) (F : Nat) {v1 : Int32} {v2 : Int32} {lv : List (Nat × Value)} {m : xS} {x : Int32 × xS} (l0 : zld lv 0 = some (.ref 70)) (l1 : zld lv 1 = some (.int v1)) (l2 : zld lv 2 = some (.int v2)) (h : D218_20 F v1 v2 m = some x) : zR none e 3 (some .int) zc218 (20, lv, []) (xW B m) (some (.int x.1), xW B x.2) := by
  unfold D218_20 at h
  refine r_s (fr' := (22, lv, [.int (-2)])) (hp' := xW B m) (q := (.bipush (-2), 2, 0, 0, .null)) rfl (fun _ => rfl) (Nat.le_refl _) ?_
  obtain rfl := Option.some.inj h
  exact q_ri (q := (.ireturn, 1, 0, 0, .null)) rfl (fun _ => rfl) rfl rfl
def D218 (F : Nat) (v1 : Int32) (v2 : Int32) (m : xS) : Option (Int32 × xS) :=
  (D207 F v1 m).bind fun q2 =>
    if zcmp .eq q2.1 0 = true then
      D218_20 F v1 v2 q2.2
    else
      (D158 F (v2 : Int32).toInt64 0 5 q2.2).bind fun q14 =>
        if zcmp .ne q14.1 0 = true then
          if zcmp .ge v2 4 = true then
            if zcmp .ne v2 4 = true then
              (D216 F v1 q14.2).bind fun q56 =>
                if zcmp .eq q56.1 0 = true then
                  some (0, q56.2)
                else
                  some (1, q56.2)
            else
              if xib (118 + v1) 148 = true then
                some ((q14.2.1 80 ((118 + v1) : Int32).toNatClampNeg), q14.2)
              else none
          else
            (D209 F v1 v2 q14.2).bind fun q31 =>
              some (q31.1, q31.2)
        else
          D218_20 F v1 v2 q14.2
set_option maxRecDepth 20000 in
theorem T218 {B : zHp} (H : yH0 B) {e : Nat} (he : 6 ≤ e + 1) (F : Nat) {v1 : Int32} {v2 : Int32} {lv : List (Nat × Value)} {m : xS} {x : Int32 × xS} (l0 : zld lv 0 = some (.ref 70)) (l1 : zld lv 1 = some (.int v1)) (l2 : zld lv 2 = some (.int v2)) (h : D218 F v1 v2 m = some x) : zR none e 3 (some .int) zc218 (0, lv, []) (xW B m) (some (.int x.1), xW B x.2) := by
  unfold D218 at h
  refine q_lr (k := 1) (i := 0) (q := (.aload_n 0, 1, 0, 0, .null)) rfl (fun _ => rfl) l0 ?_
  refine q_li (k := 1) (i := 1) (q := (.iload_n 1, 1, 0, 0, .null)) rfl (fun _ => rfl) l1 ?_
  obtain ⟨q2, h2, h⟩ := xbind h
  refine r_call (ix := 70) (as := [.int v1]) (rest := []) (rv := some (.int q2.1)) (hp' := xW B q2.2) (pc := 2) rfl xr207 rfl rfl rfl (xkd H (by decide)) (Nat.le_of_ble_eq_true rfl) (Z207 H h2 (by omega)) (Nat.le_refl _) ?_
  refine r_if (len := 3) (a := 20) (b := 0) (v0 := .null) (cn := .eq) (off := 15) rfl (fun c => ?_) (fun c => ?_)
  · rw [if_pos c] at h
    exact T218_20 H he F l0 l1 l2 h
  · rw [if_neg (by rw [c]; decide)] at h
    refine q_li (k := 1) (i := 2) (q := (.iload_n 2, 1, 0, 0, .null)) rfl (fun _ => rfl) l2 ?_
    refine r_s (fr' := (10, lv, [.long (v2 : Int32).toInt64])) (hp' := xW B q2.2) (q := (.i2l, 1, 0, 0, .null)) rfl (fun _ => rfl) (Nat.le_refl _) ?_
    refine r_s (fr' := (11, lv, [.long 0, .long (v2 : Int32).toInt64])) (hp' := xW B q2.2) (q := (.lconst 0, 1, 0, 0, .null)) rfl (fun _ => rfl) (Nat.le_refl _) ?_
    refine r_s (fr' := (14, lv, [.long 5, .long 0, .long (v2 : Int32).toInt64])) (hp' := xW B q2.2) (q := (.ldc2_w 309, 3, 0, 0, .long 5)) rfl (fun _ => rfl) (Nat.le_refl _) ?_
    obtain ⟨q14, h14, h⟩ := xbind h
    refine r_callS (as := [.long (v2 : Int32).toInt64, .long 0, .long 5]) (rest := []) (rv := some (.int q14.1)) (hp' := xW B q14.2) (pc := 14) rfl xr158 rfl rfl rfl (Nat.le_of_ble_eq_true rfl) (Z158 H h14 (by omega)) (Nat.le_refl _) ?_
    refine r_if (len := 3) (a := 23) (b := 0) (v0 := .null) (cn := .ne) (off := 6) rfl (fun c => ?_) (fun c => ?_)
    · rw [if_pos c] at h
      refine q_li (k := 1) (i := 2) (q := (.iload_n 2, 1, 0, 0, .null)) rfl (fun _ => rfl) l2 ?_
      refine r_s (fr' := (25, lv, [.int 4, .int v2])) (hp' := xW B q14.2) (q := (.iconst 4, 1, 0, 0, .null)) rfl (fun _ => rfl) (Nat.le_refl _) ?_
      refine r_ifc (len := 3) (a := 37) (b := 0) (v0 := .null) (cn := .ge) (off := 12) rfl (fun c => ?_) (fun c => ?_)
      · rw [if_pos c] at h
        refine q_li (k := 1) (i := 2) (q := (.iload_n 2, 1, 0, 0, .null)) rfl (fun _ => rfl) l2 ?_
        refine r_s (fr' := (39, lv, [.int 4, .int v2])) (hp' := xW B q14.2) (q := (.iconst 4, 1, 0, 0, .null)) rfl (fun _ => rfl) (Nat.le_refl _) ?_
        refine r_ifc (len := 3) (a := 54) (b := 0) (v0 := .null) (cn := .ne) (off := 15) rfl (fun c => ?_) (fun c => ?_)
        · rw [if_pos c] at h
          refine q_lr (k := 1) (i := 0) (q := (.aload_n 0, 1, 0, 0, .null)) rfl (fun _ => rfl) l0 ?_
          refine q_li (k := 1) (i := 1) (q := (.iload_n 1, 1, 0, 0, .null)) rfl (fun _ => rfl) l1 ?_
          obtain ⟨q56, h56, h⟩ := xbind h
          refine r_call (ix := 70) (as := [.int v1]) (rest := []) (rv := some (.int q56.1)) (hp' := xW B q56.2) (pc := 56) rfl xr216 rfl rfl rfl (xkd H (by decide)) (Nat.le_of_ble_eq_true rfl) (Z216 H h56 (by omega)) (Nat.le_refl _) ?_
          refine r_if (len := 3) (a := 66) (b := 0) (v0 := .null) (cn := .eq) (off := 7) rfl (fun c => ?_) (fun c => ?_)
          · rw [if_pos c] at h
            refine r_s (fr' := (67, lv, [.int 0])) (hp' := xW B q56.2) (q := (.iconst 0, 1, 0, 0, .null)) rfl (fun _ => rfl) (Nat.le_refl _) ?_
            obtain rfl := Option.some.inj h
            exact q_ri (q := (.ireturn, 1, 0, 0, .null)) rfl (fun _ => rfl) rfl rfl
          · rw [if_neg (by rw [c]; decide)] at h
            refine r_s (fr' := (63, lv, [.int 1])) (hp' := xW B q56.2) (q := (.iconst 1, 1, 0, 0, .null)) rfl (fun _ => rfl) (Nat.le_refl _) ?_
            refine r_s (fr' := (67, lv, [.int 1])) (hp' := xW B q56.2) (q := (.goto 4, 3, 67, 0, .null)) rfl (fun _ => rfl) (Nat.le_refl _) ?_
            obtain rfl := Option.some.inj h
            exact q_ri (q := (.ireturn, 1, 0, 0, .null)) rfl (fun _ => rfl) rfl rfl
        · rw [if_neg (by rw [c]; decide)] at h
          refine q_lr (k := 1) (i := 0) (q := (.aload_n 0, 1, 0, 0, .null)) rfl (fun _ => rfl) l0 ?_
          refine r_gr (c := 80) H (pc := 43) rfl (by decide) (by decide) ?_
          refine r_s (fr' := (48, lv, [.int 118, .ref 80])) (hp' := xW B q14.2) (q := (.bipush 118, 2, 0, 0, .null)) rfl (fun _ => rfl) (Nat.le_refl _) ?_
          refine q_li (k := 1) (i := 1) (q := (.iload_n 1, 1, 0, 0, .null)) rfl (fun _ => rfl) l1 ?_
          refine r_s (fr' := (50, lv, [.int (118 + v1), .ref 80])) (hp' := xW B q14.2) (q := (.iadd, 1, 0, 0, .null)) rfl (fun _ => rfl) (Nat.le_refl _) ?_
          obtain ⟨c1, h⟩ := xif h
          refine q_al (n := 148) (v := (q14.2.1 80 ((118 + v1) : Int32).toNatClampNeg)) H (pc := 50) rfl (by decide) c1 rfl ?_
          refine r_s (fr' := (67, lv, [.int (q14.2.1 80 ((118 + v1) : Int32).toNatClampNeg)])) (hp' := xW B q14.2) (q := (.goto 16, 3, 67, 0, .null)) rfl (fun _ => rfl) (Nat.le_refl _) ?_
          obtain rfl := Option.some.inj h
          exact q_ri (q := (.ireturn, 1, 0, 0, .null)) rfl (fun _ => rfl) rfl rfl
      · rw [if_neg (by rw [c]; decide)] at h
        refine q_lr (k := 1) (i := 0) (q := (.aload_n 0, 1, 0, 0, .null)) rfl (fun _ => rfl) l0 ?_
        refine q_li (k := 1) (i := 1) (q := (.iload_n 1, 1, 0, 0, .null)) rfl (fun _ => rfl) l1 ?_
        refine q_li (k := 1) (i := 2) (q := (.iload_n 2, 1, 0, 0, .null)) rfl (fun _ => rfl) l2 ?_
        obtain ⟨q31, h31, h⟩ := xbind h
        refine r_call (ix := 70) (as := [.int v1, .int v2]) (rest := []) (rv := some (.int q31.1)) (hp' := xW B q31.2) (pc := 31) rfl xr209 rfl rfl rfl (xkd H (by decide)) (Nat.le_of_ble_eq_true rfl) (Z209 H h31 (by omega)) (Nat.le_refl _) ?_
        refine r_s (fr' := (67, lv, [.int q31.1])) (hp' := xW B q31.2) (q := (.goto 33, 3, 67, 0, .null)) rfl (fun _ => rfl) (Nat.le_refl _) ?_
        obtain rfl := Option.some.inj h
        exact q_ri (q := (.ireturn, 1, 0, 0, .null)) rfl (fun _ => rfl) rfl rfl
    · rw [if_neg (by rw [c]; decide)] at h
      exact T218_20 H he F l0 l1 l2 h
set_option maxRecDepth 20000 in
theorem Z218 {B : zHp} (H : yH0 B) {F : Nat} {a1 : Int32} {a2 : Int32} {m : xS} {x : Int32 × xS} (h : D218 F a1 a2 m = some x) {d : Nat} (hd : 6 ≤ d) : zCan d 218 [.ref 70, .int a1, .int a2] (xW B m) (some (.int x.1), xW B x.2) := by
  obtain ⟨e, rfl⟩ : ∃ e, d = e + 1 := ⟨d - 1, by omega⟩
  refine zCan_body (nL := 3) (rt := (some .int)) (cd := zc218) (xg218) ⟨Nat.le_of_ble_eq_true rfl, by decide⟩ (Nat.le_refl _) ?_
  exact T218 H hd F rfl rfl rfl h
/-- LentToolsModel.isHouse -/
def D205_18 (F : Nat) (v1 : Int32) (m : xS) : Option (Int32 × xS) :=
  some (0, m)
set_option maxRecDepth 20000 in
theorem T205_18 {B : zHp} (H : yH0 B) {e : Nat} (he : 1 ≤ e + 1) (F : Nat) {v1 : Int32} {lv : List (Nat × Value)} {m : xS} {x : Int32 × xS} (l0 : zld lv 0 = some (.ref 70)) (l1 : zld lv 1 = some (.int v1)) (h : D205_18 F v1 m = some x) : zR none e 2 (some .boolean) zc205 (18, lv, []) (xW B m) (some (.int x.1), xW B x.2) := by
  unfold D205_18 at h
  refine r_s (fr' := (19, lv, [.int 0])) (hp' := xW B m) (q := (.iconst 0, 1, 0, 0, .null)) rfl (fun _ => rfl) (Nat.le_refl _) ?_
  obtain rfl := Option.some.inj h
  exact q_ri (q := (.ireturn, 1, 0, 0, .null)) rfl (fun _ => rfl) rfl rfl
def D205 (F : Nat) (v1 : Int32) (m : xS) : Option (Int32 × xS) :=
  if zcmp .lt v1 0 = true then
    D205_18 F v1 m
  else
    if zcmp .ge v1 (m.1 80 0) = true then
      D205_18 F v1 m
    else
      some (1, m)
set_option maxRecDepth 20000 in
theorem T205 {B : zHp} (H : yH0 B) {e : Nat} (he : 1 ≤ e + 1) (F : Nat) {v1 : Int32} {lv : List (Nat × Value)} {m : xS} {x : Int32 × xS} (l0 : zld lv 0 = some (.ref 70)) (l1 : zld lv 1 = some (.int v1)) (h : D205 F v1 m = some x) : zR none e 2 (some .boolean) zc205 (0, lv, []) (xW B m) (some (.int x.1), xW B x.2) := by
  unfold D205 at h
  refine q_li (k := 1) (i := 1) (q := (.iload_n 1, 1, 0, 0, .null)) rfl (fun _ => rfl) l1 ?_
  refine r_if (len := 3) (a := 18) (b := 0) (v0 := .null) (cn := .lt) (off := 17) rfl (fun c => ?_) (fun c => ?_)
  · rw [if_pos c] at h
    exact T205_18 H he F l0 l1 h
  · rw [if_neg (by rw [c]; decide)] at h
    refine q_li (k := 1) (i := 1) (q := (.iload_n 1, 1, 0, 0, .null)) rfl (fun _ => rfl) l1 ?_
    refine q_lr (k := 1) (i := 0) (q := (.aload_n 0, 1, 0, 0, .null)) rfl (fun _ => rfl) l0 ?_
    refine r_gr (c := 80) H (pc := 6) rfl (by decide) (by decide) ?_
    refine r_s (fr' := (10, lv, [.int 0, .ref 80, .int v1])) (hp' := xW B m) (q := (.iconst 0, 1, 0, 0, .null)) rfl (fun _ => rfl) (Nat.le_refl _) ?_
    refine q_al (n := 148) (v := (m.1 80 0)) H (pc := 10) rfl (by decide) (by decide) rfl ?_
    refine r_ifc (len := 3) (a := 18) (b := 0) (v0 := .null) (cn := .ge) (off := 7) rfl (fun c => ?_) (fun c => ?_)
    · rw [if_pos c] at h
      exact T205_18 H he F l0 l1 h
    · rw [if_neg (by rw [c]; decide)] at h
      refine r_s (fr' := (15, lv, [.int 1])) (hp' := xW B m) (q := (.iconst 1, 1, 0, 0, .null)) rfl (fun _ => rfl) (Nat.le_refl _) ?_
      refine r_s (fr' := (19, lv, [.int 1])) (hp' := xW B m) (q := (.goto 4, 3, 19, 0, .null)) rfl (fun _ => rfl) (Nat.le_refl _) ?_
      obtain rfl := Option.some.inj h
      exact q_ri (q := (.ireturn, 1, 0, 0, .null)) rfl (fun _ => rfl) rfl rfl
set_option maxRecDepth 20000 in
theorem Z205 {B : zHp} (H : yH0 B) {F : Nat} {a1 : Int32} {m : xS} {x : Int32 × xS} (h : D205 F a1 m = some x) {d : Nat} (hd : 1 ≤ d) : zCan d 205 [.ref 70, .int a1] (xW B m) (some (.int x.1), xW B x.2) := by
  obtain ⟨e, rfl⟩ : ∃ e, d = e + 1 := ⟨d - 1, by omega⟩
  refine zCan_body (nL := 2) (rt := (some .boolean)) (cd := zc205) (xg205) ⟨Nat.le_of_ble_eq_true rfl, by decide⟩ (Nat.le_refl _) ?_
  exact T205 H hd F rfl rfl h
/-- LentToolsModel.thanksOf -/
def D211 (F : Nat) (v1 : Int32) (v2 : Int32) (m : xS) : Option (Int32 × xS) :=
  if xib ((82 + (6 * v1)) + v2) 148 = true then
    some ((m.1 80 (((82 + (6 * v1)) + v2) : Int32).toNatClampNeg), m)
  else none
set_option maxRecDepth 20000 in
theorem T211 {B : zHp} (H : yH0 B) {e : Nat} (he : 1 ≤ e + 1) (F : Nat) {v1 : Int32} {v2 : Int32} {lv : List (Nat × Value)} {m : xS} {x : Int32 × xS} (l0 : zld lv 0 = some (.ref 70)) (l1 : zld lv 1 = some (.int v1)) (l2 : zld lv 2 = some (.int v2)) (h : D211 F v1 v2 m = some x) : zR none e 3 (some .int) zc211 (0, lv, []) (xW B m) (some (.int x.1), xW B x.2) := by
  unfold D211 at h
  refine q_lr (k := 1) (i := 0) (q := (.aload_n 0, 1, 0, 0, .null)) rfl (fun _ => rfl) l0 ?_
  refine r_gr (c := 80) H (pc := 1) rfl (by decide) (by decide) ?_
  refine r_s (fr' := (6, lv, [.int 82, .ref 80])) (hp' := xW B m) (q := (.bipush 82, 2, 0, 0, .null)) rfl (fun _ => rfl) (Nat.le_refl _) ?_
  refine r_s (fr' := (8, lv, [.int 6, .int 82, .ref 80])) (hp' := xW B m) (q := (.bipush 6, 2, 0, 0, .null)) rfl (fun _ => rfl) (Nat.le_refl _) ?_
  refine q_li (k := 1) (i := 1) (q := (.iload_n 1, 1, 0, 0, .null)) rfl (fun _ => rfl) l1 ?_
  refine r_s (fr' := (10, lv, [.int (6 * v1), .int 82, .ref 80])) (hp' := xW B m) (q := (.imul, 1, 0, 0, .null)) rfl (fun _ => rfl) (Nat.le_refl _) ?_
  refine r_s (fr' := (11, lv, [.int (82 + (6 * v1)), .ref 80])) (hp' := xW B m) (q := (.iadd, 1, 0, 0, .null)) rfl (fun _ => rfl) (Nat.le_refl _) ?_
  refine q_li (k := 1) (i := 2) (q := (.iload_n 2, 1, 0, 0, .null)) rfl (fun _ => rfl) l2 ?_
  refine r_s (fr' := (13, lv, [.int ((82 + (6 * v1)) + v2), .ref 80])) (hp' := xW B m) (q := (.iadd, 1, 0, 0, .null)) rfl (fun _ => rfl) (Nat.le_refl _) ?_
  obtain ⟨c1, h⟩ := xif h
  refine q_al (n := 148) (v := (m.1 80 (((82 + (6 * v1)) + v2) : Int32).toNatClampNeg)) H (pc := 13) rfl (by decide) c1 rfl ?_
  obtain rfl := Option.some.inj h
  exact q_ri (q := (.ireturn, 1, 0, 0, .null)) rfl (fun _ => rfl) rfl rfl
set_option maxRecDepth 20000 in
theorem Z211 {B : zHp} (H : yH0 B) {F : Nat} {a1 : Int32} {a2 : Int32} {m : xS} {x : Int32 × xS} (h : D211 F a1 a2 m = some x) {d : Nat} (hd : 1 ≤ d) : zCan d 211 [.ref 70, .int a1, .int a2] (xW B m) (some (.int x.1), xW B x.2) := by
  obtain ⟨e, rfl⟩ : ∃ e, d = e + 1 := ⟨d - 1, by omega⟩
  refine zCan_body (nL := 3) (rt := (some .int)) (cd := zc211) (xg211) ⟨Nat.le_of_ble_eq_true rfl, by decide⟩ (Nat.le_refl _) ?_
  exact T211 H hd F rfl rfl rfl h
/-- LentToolsModel.house -/
def D219_31 (F : Nat) (v1 : Int32) (v2 : Int32) (v3 : Int32) (m : xS) : Option (Int32 × xS) :=
  some ((-1), m)
set_option maxRecDepth 20000 in
theorem T219_31 {B : zHp} (H : yH0 B) {e : Nat} (he : 2 ≤ e + 1) (F : Nat) {v1 : Int32} {v2 : Int32} {v3 : Int32} {lv : List (Nat × Value)} {m : xS} {x : Int32 × xS} (l0 : zld lv 0 = some (.ref 70)) (l1 : zld lv 1 = some (.int v1)) (l2 : zld lv 2 = some (.int v2)) (l3 : zld lv 3 = some (.int v3)) (h : D219_31 F v1 v2 v3 m = some x) : zR none e 4 (some .int) zc219 (31, lv, []) (xW B m) (some (.int x.1), xW B x.2) := by
  unfold D219_31 at h
  refine r_s (fr' := (32, lv, [.int (-1)])) (hp' := xW B m) (q := (.iconst (-1), 1, 0, 0, .null)) rfl (fun _ => rfl) (Nat.le_refl _) ?_
  obtain rfl := Option.some.inj h
  exact q_ri (q := (.ireturn, 1, 0, 0, .null)) rfl (fun _ => rfl) rfl rfl
def D219 (F : Nat) (v1 : Int32) (v2 : Int32) (v3 : Int32) (m : xS) : Option (Int32 × xS) :=
  (D205 F v1 m).bind fun q2 =>
    if zcmp .eq q2.1 0 = true then
      D219_31 F v1 v2 v3 q2.2
    else
      (D205 F v2 q2.2).bind fun q10 =>
        if zcmp .eq q10.1 0 = true then
          D219_31 F v1 v2 v3 q10.2
        else
          if zcmp .eq v1 v2 = true then
            D219_31 F v1 v2 v3 q10.2
          else
            (D158 F (v3 : Int32).toInt64 0 1 q10.2).bind fun q25 =>
              if zcmp .ne q25.1 0 = true then
                if zcmp .ne v3 1 = true then
                  (D210 F v1 v2 q25.2).bind fun q50 =>
                    if zcmp .eq q50.1 0 = true then
                      some (0, q50.2)
                    else
                      some (1, q50.2)
                else
                  (D211 F v1 v2 q25.2).bind fun q41 =>
                    some (q41.1, q41.2)
              else
                D219_31 F v1 v2 v3 q25.2
set_option maxRecDepth 20000 in
theorem T219 {B : zHp} (H : yH0 B) {e : Nat} (he : 2 ≤ e + 1) (F : Nat) {v1 : Int32} {v2 : Int32} {v3 : Int32} {lv : List (Nat × Value)} {m : xS} {x : Int32 × xS} (l0 : zld lv 0 = some (.ref 70)) (l1 : zld lv 1 = some (.int v1)) (l2 : zld lv 2 = some (.int v2)) (l3 : zld lv 3 = some (.int v3)) (h : D219 F v1 v2 v3 m = some x) : zR none e 4 (some .int) zc219 (0, lv, []) (xW B m) (some (.int x.1), xW B x.2) := by
  unfold D219 at h
  refine q_lr (k := 1) (i := 0) (q := (.aload_n 0, 1, 0, 0, .null)) rfl (fun _ => rfl) l0 ?_
  refine q_li (k := 1) (i := 1) (q := (.iload_n 1, 1, 0, 0, .null)) rfl (fun _ => rfl) l1 ?_
  obtain ⟨q2, h2, h⟩ := xbind h
  refine r_call (ix := 70) (as := [.int v1]) (rest := []) (rv := some (.int q2.1)) (hp' := xW B q2.2) (pc := 2) rfl xr205 rfl rfl rfl (xkd H (by decide)) (Nat.le_of_ble_eq_true rfl) (Z205 H h2 (by omega)) (Nat.le_refl _) ?_
  refine r_if (len := 3) (a := 31) (b := 0) (v0 := .null) (cn := .eq) (off := 26) rfl (fun c => ?_) (fun c => ?_)
  · rw [if_pos c] at h
    exact T219_31 H he F l0 l1 l2 l3 h
  · rw [if_neg (by rw [c]; decide)] at h
    refine q_lr (k := 1) (i := 0) (q := (.aload_n 0, 1, 0, 0, .null)) rfl (fun _ => rfl) l0 ?_
    refine q_li (k := 1) (i := 2) (q := (.iload_n 2, 1, 0, 0, .null)) rfl (fun _ => rfl) l2 ?_
    obtain ⟨q10, h10, h⟩ := xbind h
    refine r_call (ix := 70) (as := [.int v2]) (rest := []) (rv := some (.int q10.1)) (hp' := xW B q10.2) (pc := 10) rfl xr205 rfl rfl rfl (xkd H (by decide)) (Nat.le_of_ble_eq_true rfl) (Z205 H h10 (by omega)) (Nat.le_refl _) ?_
    refine r_if (len := 3) (a := 31) (b := 0) (v0 := .null) (cn := .eq) (off := 18) rfl (fun c => ?_) (fun c => ?_)
    · rw [if_pos c] at h
      exact T219_31 H he F l0 l1 l2 l3 h
    · rw [if_neg (by rw [c]; decide)] at h
      refine q_li (k := 1) (i := 1) (q := (.iload_n 1, 1, 0, 0, .null)) rfl (fun _ => rfl) l1 ?_
      refine q_li (k := 1) (i := 2) (q := (.iload_n 2, 1, 0, 0, .null)) rfl (fun _ => rfl) l2 ?_
      refine r_ifc (len := 3) (a := 31) (b := 0) (v0 := .null) (cn := .eq) (off := 13) rfl (fun c => ?_) (fun c => ?_)
      · rw [if_pos c] at h
        exact T219_31 H he F l0 l1 l2 l3 h
      · rw [if_neg (by rw [c]; decide)] at h
        refine q_li (k := 1) (i := 3) (q := (.iload_n 3, 1, 0, 0, .null)) rfl (fun _ => rfl) l3 ?_
        refine r_s (fr' := (23, lv, [.long (v3 : Int32).toInt64])) (hp' := xW B q10.2) (q := (.i2l, 1, 0, 0, .null)) rfl (fun _ => rfl) (Nat.le_refl _) ?_
        refine r_s (fr' := (24, lv, [.long 0, .long (v3 : Int32).toInt64])) (hp' := xW B q10.2) (q := (.lconst 0, 1, 0, 0, .null)) rfl (fun _ => rfl) (Nat.le_refl _) ?_
        refine r_s (fr' := (25, lv, [.long 1, .long 0, .long (v3 : Int32).toInt64])) (hp' := xW B q10.2) (q := (.lconst 1, 1, 0, 0, .null)) rfl (fun _ => rfl) (Nat.le_refl _) ?_
        obtain ⟨q25, h25, h⟩ := xbind h
        refine r_callS (as := [.long (v3 : Int32).toInt64, .long 0, .long 1]) (rest := []) (rv := some (.int q25.1)) (hp' := xW B q25.2) (pc := 25) rfl xr158 rfl rfl rfl (Nat.le_of_ble_eq_true rfl) (Z158 H h25 (by omega)) (Nat.le_refl _) ?_
        refine r_if (len := 3) (a := 33) (b := 0) (v0 := .null) (cn := .ne) (off := 5) rfl (fun c => ?_) (fun c => ?_)
        · rw [if_pos c] at h
          refine q_li (k := 1) (i := 3) (q := (.iload_n 3, 1, 0, 0, .null)) rfl (fun _ => rfl) l3 ?_
          refine r_s (fr' := (35, lv, [.int 1, .int v3])) (hp' := xW B q25.2) (q := (.iconst 1, 1, 0, 0, .null)) rfl (fun _ => rfl) (Nat.le_refl _) ?_
          refine r_ifc (len := 3) (a := 47) (b := 0) (v0 := .null) (cn := .ne) (off := 12) rfl (fun c => ?_) (fun c => ?_)
          · rw [if_pos c] at h
            refine q_lr (k := 1) (i := 0) (q := (.aload_n 0, 1, 0, 0, .null)) rfl (fun _ => rfl) l0 ?_
            refine q_li (k := 1) (i := 1) (q := (.iload_n 1, 1, 0, 0, .null)) rfl (fun _ => rfl) l1 ?_
            refine q_li (k := 1) (i := 2) (q := (.iload_n 2, 1, 0, 0, .null)) rfl (fun _ => rfl) l2 ?_
            obtain ⟨q50, h50, h⟩ := xbind h
            refine r_call (ix := 70) (as := [.int v1, .int v2]) (rest := []) (rv := some (.int q50.1)) (hp' := xW B q50.2) (pc := 50) rfl xr210 rfl rfl rfl (xkd H (by decide)) (Nat.le_of_ble_eq_true rfl) (Z210 H h50 (by omega)) (Nat.le_refl _) ?_
            refine r_if (len := 3) (a := 60) (b := 0) (v0 := .null) (cn := .eq) (off := 7) rfl (fun c => ?_) (fun c => ?_)
            · rw [if_pos c] at h
              refine r_s (fr' := (61, lv, [.int 0])) (hp' := xW B q50.2) (q := (.iconst 0, 1, 0, 0, .null)) rfl (fun _ => rfl) (Nat.le_refl _) ?_
              obtain rfl := Option.some.inj h
              exact q_ri (q := (.ireturn, 1, 0, 0, .null)) rfl (fun _ => rfl) rfl rfl
            · rw [if_neg (by rw [c]; decide)] at h
              refine r_s (fr' := (57, lv, [.int 1])) (hp' := xW B q50.2) (q := (.iconst 1, 1, 0, 0, .null)) rfl (fun _ => rfl) (Nat.le_refl _) ?_
              refine r_s (fr' := (61, lv, [.int 1])) (hp' := xW B q50.2) (q := (.goto 4, 3, 61, 0, .null)) rfl (fun _ => rfl) (Nat.le_refl _) ?_
              obtain rfl := Option.some.inj h
              exact q_ri (q := (.ireturn, 1, 0, 0, .null)) rfl (fun _ => rfl) rfl rfl
          · rw [if_neg (by rw [c]; decide)] at h
            refine q_lr (k := 1) (i := 0) (q := (.aload_n 0, 1, 0, 0, .null)) rfl (fun _ => rfl) l0 ?_
            refine q_li (k := 1) (i := 1) (q := (.iload_n 1, 1, 0, 0, .null)) rfl (fun _ => rfl) l1 ?_
            refine q_li (k := 1) (i := 2) (q := (.iload_n 2, 1, 0, 0, .null)) rfl (fun _ => rfl) l2 ?_
            obtain ⟨q41, h41, h⟩ := xbind h
            refine r_call (ix := 70) (as := [.int v1, .int v2]) (rest := []) (rv := some (.int q41.1)) (hp' := xW B q41.2) (pc := 41) rfl xr211 rfl rfl rfl (xkd H (by decide)) (Nat.le_of_ble_eq_true rfl) (Z211 H h41 (by omega)) (Nat.le_refl _) ?_
            refine r_s (fr' := (61, lv, [.int q41.1])) (hp' := xW B q41.2) (q := (.goto 17, 3, 61, 0, .null)) rfl (fun _ => rfl) (Nat.le_refl _) ?_
            obtain rfl := Option.some.inj h
            exact q_ri (q := (.ireturn, 1, 0, 0, .null)) rfl (fun _ => rfl) rfl rfl
        · rw [if_neg (by rw [c]; decide)] at h
          exact T219_31 H he F l0 l1 l2 l3 h
set_option maxRecDepth 20000 in
theorem Z219 {B : zHp} (H : yH0 B) {F : Nat} {a1 : Int32} {a2 : Int32} {a3 : Int32} {m : xS} {x : Int32 × xS} (h : D219 F a1 a2 a3 m = some x) {d : Nat} (hd : 2 ≤ d) : zCan d 219 [.ref 70, .int a1, .int a2, .int a3] (xW B m) (some (.int x.1), xW B x.2) := by
  obtain ⟨e, rfl⟩ : ∃ e, d = e + 1 := ⟨d - 1, by omega⟩
  refine zCan_body (nL := 4) (rt := (some .int)) (cd := zc219) (xg219) ⟨Nat.le_of_ble_eq_true rfl, by decide⟩ (Nat.le_refl _) ?_
  exact T219 H hd F rfl rfl rfl rfl h
/-- LentToolsModel.undo -/
def D221_21 (F : Nat) : Nat → Int32 → xS → Option (Int32 × xS)
  | 0, _, _ => none
  | f + 1, v1, m =>
    if zcmp .ge v1 124 = true then
      some ((m.1 70 25), m)
    else
      if xib ((124 * (m.1 70 25)) + v1) 2480 = true then
        if xib v1 148 = true then
          D221_21 F f (v1 + Int32.ofInt 1) (xu m 80 (v1 : Int32).toNatClampNeg (m.1 81 (((124 * (m.1 70 25)) + v1) : Int32).toNatClampNeg))
        else none
      else none
set_option maxRecDepth 20000 in
theorem T221_21 {B : zHp} (H : yH0 B) {e : Nat} (he : 1 ≤ e + 1) (F : Nat) : ∀ (f : Nat) {v1 : Int32} {lv : List (Nat × Value)} {m : xS} {x : Int32 × xS}, zld lv 0 = some (.ref 70) → zld lv 1 = some (.int v1) → D221_21 F f v1 m = some x → zR none e 2 (some .int) zc221 (21, lv, []) (xW B m) (some (.int x.1), xW B x.2) := by
  intro f
  induction f with
  | zero => intro v1 lv m x l0 l1 h; cases h
  | succ f ih =>
    intro v1 lv m x l0 l1 h
    unfold D221_21 at h
    refine q_li (k := 1) (i := 1) (q := (.iload_n 1, 1, 0, 0, .null)) rfl (fun _ => rfl) l1 ?_
    refine r_s (fr' := (24, lv, [.int 124, .int v1])) (hp' := xW B m) (q := (.bipush 124, 2, 0, 0, .null)) rfl (fun _ => rfl) (Nat.le_refl _) ?_
    refine r_ifc (len := 3) (a := 53) (b := 0) (v0 := .null) (cn := .ge) (off := 29) rfl (fun c => ?_) (fun c => ?_)
    · rw [if_pos c] at h
      refine q_lr (k := 1) (i := 0) (q := (.aload_n 0, 1, 0, 0, .null)) rfl (fun _ => rfl) l0 ?_
      refine r_gi (v := (m.1 70 25)) H (pc := 54) (i := _) rfl (by decide) (by decide) rfl ?_
      obtain rfl := Option.some.inj h
      exact q_ri (q := (.ireturn, 1, 0, 0, .null)) rfl (fun _ => rfl) rfl rfl
    · rw [if_neg (by rw [c]; decide)] at h
      refine q_lr (k := 1) (i := 0) (q := (.aload_n 0, 1, 0, 0, .null)) rfl (fun _ => rfl) l0 ?_
      refine r_gr (c := 80) H (pc := 28) rfl (by decide) (by decide) ?_
      refine q_li (k := 1) (i := 1) (q := (.iload_n 1, 1, 0, 0, .null)) rfl (fun _ => rfl) l1 ?_
      refine q_lr (k := 1) (i := 0) (q := (.aload_n 0, 1, 0, 0, .null)) rfl (fun _ => rfl) l0 ?_
      refine r_gr (c := 81) H (pc := 33) rfl (by decide) (by decide) ?_
      refine r_s (fr' := (38, lv, [.int 124, .ref 81, .int v1, .ref 80])) (hp' := xW B m) (q := (.bipush 124, 2, 0, 0, .null)) rfl (fun _ => rfl) (Nat.le_refl _) ?_
      refine q_lr (k := 1) (i := 0) (q := (.aload_n 0, 1, 0, 0, .null)) rfl (fun _ => rfl) l0 ?_
      refine r_gi (v := (m.1 70 25)) H (pc := 39) (i := _) rfl (by decide) (by decide) rfl ?_
      refine r_s (fr' := (43, lv, [.int (124 * (m.1 70 25)), .ref 81, .int v1, .ref 80])) (hp' := xW B m) (q := (.imul, 1, 0, 0, .null)) rfl (fun _ => rfl) (Nat.le_refl _) ?_
      refine q_li (k := 1) (i := 1) (q := (.iload_n 1, 1, 0, 0, .null)) rfl (fun _ => rfl) l1 ?_
      refine r_s (fr' := (45, lv, [.int ((124 * (m.1 70 25)) + v1), .ref 81, .int v1, .ref 80])) (hp' := xW B m) (q := (.iadd, 1, 0, 0, .null)) rfl (fun _ => rfl) (Nat.le_refl _) ?_
      obtain ⟨c1, h⟩ := xif h
      refine q_al (n := 2480) (v := (m.1 81 (((124 * (m.1 70 25)) + v1) : Int32).toNatClampNeg)) H (pc := 45) rfl (by decide) c1 rfl ?_
      obtain ⟨c2, h⟩ := xif h
      refine q_as (n := 148) (s2 := (xu m 80 (v1 : Int32).toNatClampNeg (m.1 81 (((124 * (m.1 70 25)) + v1) : Int32).toNatClampNeg))) H (pc := 46) rfl (by decide) c2 rfl ?_
      refine q_inc (i := 1) (n := 1) (q := (.iinc 1 1, 3, 0, 0, .null)) rfl (fun _ => rfl) l1 (by decide) ?_
      have l0_3 : zld (zs1 lv 1 (.int (v1 + Int32.ofInt 1))) 0 = some (.ref 70) := x_o1 l0 rfl rfl
      have l1_3 : zld (zs1 lv 1 (.int (v1 + Int32.ofInt 1))) 1 = some (.int (v1 + Int32.ofInt 1)) := zs1_ld _ _ _
      generalize (zs1 lv 1 (.int (v1 + Int32.ofInt 1))) = lv3 at *
      refine r_s (fr' := (21, lv3, [])) (hp' := xW B (xu m 80 (v1 : Int32).toNatClampNeg (m.1 81 (((124 * (m.1 70 25)) + v1) : Int32).toNatClampNeg))) (q := (.goto (-29), 3, 21, 0, .null)) rfl (fun _ => rfl) (Nat.le_refl _) ?_
      exact ih l0_3 l1_3 h
def D221 (F : Nat) (m : xS) : Option (Int32 × xS) :=
  if zcmp .ne (m.1 70 25) 0 = true then
    D221_21 F F 0 (xu m 70 25 ((m.1 70 25) - 1))
  else
    some ((-1), m)
set_option maxRecDepth 20000 in
theorem T221 {B : zHp} (H : yH0 B) {e : Nat} (he : 1 ≤ e + 1) (F : Nat) {lv : List (Nat × Value)} {m : xS} {x : Int32 × xS} (l0 : zld lv 0 = some (.ref 70)) (h : D221 F m = some x) : zR none e 2 (some .int) zc221 (0, lv, []) (xW B m) (some (.int x.1), xW B x.2) := by
  unfold D221 at h
  refine q_lr (k := 1) (i := 0) (q := (.aload_n 0, 1, 0, 0, .null)) rfl (fun _ => rfl) l0 ?_
  refine r_gi (v := (m.1 70 25)) H (pc := 1) (i := _) rfl (by decide) (by decide) rfl ?_
  refine r_if (len := 3) (a := 9) (b := 0) (v0 := .null) (cn := .ne) (off := 5) rfl (fun c => ?_) (fun c => ?_)
  · rw [if_pos c] at h
    refine q_lr (k := 1) (i := 0) (q := (.aload_n 0, 1, 0, 0, .null)) rfl (fun _ => rfl) l0 ?_
    refine r_s (fr' := (11, lv, [.ref 70, .ref 70])) (hp' := xW B m) (q := (.dup, 1, 0, 0, .null)) rfl (fun _ => rfl) (Nat.le_refl _) ?_
    refine r_gi (v := (m.1 70 25)) H (pc := 11) (i := _) rfl (by decide) (by decide) rfl ?_
    refine r_s (fr' := (15, lv, [.int 1, .int (m.1 70 25), .ref 70])) (hp' := xW B m) (q := (.iconst 1, 1, 0, 0, .null)) rfl (fun _ => rfl) (Nat.le_refl _) ?_
    refine r_s (fr' := (16, lv, [.int ((m.1 70 25) - 1), .ref 70])) (hp' := xW B m) (q := (.isub, 1, 0, 0, .null)) rfl (fun _ => rfl) (Nat.le_refl _) ?_
    refine r_pi (s2 := (xu m 70 25 ((m.1 70 25) - 1))) H (pc := 16) rfl (by decide) rfl rfl ?_
    refine r_s (fr' := (20, lv, [.int 0])) (hp' := xW B (xu m 70 25 ((m.1 70 25) - 1))) (q := (.iconst 0, 1, 0, 0, .null)) rfl (fun _ => rfl) (Nat.le_refl _) ?_
    refine q_si (k := 1) (i := 1) (q := (.istore_n 1, 1, 0, 0, .null)) rfl (fun _ => rfl) (by decide) ?_
    have l0_1 : zld (zs1 lv 1 (.int 0)) 0 = some (.ref 70) := x_o1 l0 rfl rfl
    have l1_1 : zld (zs1 lv 1 (.int 0)) 1 = some (.int 0) := zs1_ld _ _ _
    generalize (zs1 lv 1 (.int 0)) = lv1 at *
    exact T221_21 H he F F l0_1 l1_1 h
  · rw [if_neg (by rw [c]; decide)] at h
    refine r_s (fr' := (8, lv, [.int (-1)])) (hp' := xW B m) (q := (.iconst (-1), 1, 0, 0, .null)) rfl (fun _ => rfl) (Nat.le_refl _) ?_
    obtain rfl := Option.some.inj h
    exact q_ri (q := (.ireturn, 1, 0, 0, .null)) rfl (fun _ => rfl) rfl rfl
set_option maxRecDepth 20000 in
theorem Z221 {B : zHp} (H : yH0 B) {F : Nat} {m : xS} {x : Int32 × xS} (h : D221 F m = some x) {d : Nat} (hd : 1 ≤ d) : zCan d 221 [.ref 70] (xW B m) (some (.int x.1), xW B x.2) := by
  obtain ⟨e, rfl⟩ : ∃ e, d = e + 1 := ⟨d - 1, by omega⟩
  refine zCan_body (nL := 2) (rt := (some .int)) (cd := zc221) (xg221) ⟨Nat.le_of_ble_eq_true rfl, by decide⟩ (Nat.le_refl _) ?_
  exact T221 H hd F rfl h
/-- LentToolsModel.canLend -/
def D222_35 (F : Nat) (v1 : Int32) (v2 : Int32) (v3 : Int32) (m : xS) : Option (Int32 × xS) :=
  some (0, m)
set_option maxRecDepth 20000 in
theorem T222_35 {B : zHp} (H : yH0 B) {e : Nat} (he : 2 ≤ e + 1) (F : Nat) {v1 : Int32} {v2 : Int32} {v3 : Int32} {lv : List (Nat × Value)} {m : xS} {x : Int32 × xS} (l0 : zld lv 0 = some (.ref 70)) (l1 : zld lv 1 = some (.int v1)) (l2 : zld lv 2 = some (.int v2)) (l3 : zld lv 3 = some (.int v3)) (h : D222_35 F v1 v2 v3 m = some x) : zR none e 4 (some .boolean) zc222 (35, lv, []) (xW B m) (some (.int x.1), xW B x.2) := by
  unfold D222_35 at h
  refine r_s (fr' := (36, lv, [.int 0])) (hp' := xW B m) (q := (.iconst 0, 1, 0, 0, .null)) rfl (fun _ => rfl) (Nat.le_refl _) ?_
  obtain rfl := Option.some.inj h
  exact q_ri (q := (.ireturn, 1, 0, 0, .null)) rfl (fun _ => rfl) rfl rfl
def D222 (F : Nat) (v1 : Int32) (v2 : Int32) (m : xS) : Option (Int32 × xS) :=
  (D208 F v1 3 m).bind fun q3 =>
    if zcmp .eq q3.1 v2 = true then
      D222_35 F v1 v2 q3.1 q3.2
    else
      (D208 F v1 0 q3.2).bind fun q15 =>
        if zcmp .eq q15.1 v2 = true then
          D222_35 F v1 v2 q3.1 q15.2
        else
          (D210 F q3.1 v2 q15.2).bind fun q25 =>
            if zcmp .eq q25.1 0 = true then
              D222_35 F v1 v2 q3.1 q25.2
            else
              some (1, q25.2)
set_option maxRecDepth 20000 in
theorem T222 {B : zHp} (H : yH0 B) {e : Nat} (he : 2 ≤ e + 1) (F : Nat) {v1 : Int32} {v2 : Int32} {lv : List (Nat × Value)} {m : xS} {x : Int32 × xS} (l0 : zld lv 0 = some (.ref 70)) (l1 : zld lv 1 = some (.int v1)) (l2 : zld lv 2 = some (.int v2)) (h : D222 F v1 v2 m = some x) : zR none e 4 (some .boolean) zc222 (0, lv, []) (xW B m) (some (.int x.1), xW B x.2) := by
  unfold D222 at h
  refine q_lr (k := 1) (i := 0) (q := (.aload_n 0, 1, 0, 0, .null)) rfl (fun _ => rfl) l0 ?_
  refine q_li (k := 1) (i := 1) (q := (.iload_n 1, 1, 0, 0, .null)) rfl (fun _ => rfl) l1 ?_
  refine r_s (fr' := (3, lv, [.int 3, .int v1, .ref 70])) (hp' := xW B m) (q := (.iconst 3, 1, 0, 0, .null)) rfl (fun _ => rfl) (Nat.le_refl _) ?_
  obtain ⟨q3, h3, h⟩ := xbind h
  refine r_call (ix := 70) (as := [.int v1, .int 3]) (rest := []) (rv := some (.int q3.1)) (hp' := xW B q3.2) (pc := 3) rfl xr208 rfl rfl rfl (xkd H (by decide)) (Nat.le_of_ble_eq_true rfl) (Z208 H h3 (by omega)) (Nat.le_refl _) ?_
  refine q_si (k := 1) (i := 3) (q := (.istore_n 3, 1, 0, 0, .null)) rfl (fun _ => rfl) (by decide) ?_
  have l0_1 : zld (zs1 lv 3 (.int q3.1)) 0 = some (.ref 70) := x_o1 l0 rfl rfl
  have l1_1 : zld (zs1 lv 3 (.int q3.1)) 1 = some (.int v1) := x_o1 l1 rfl rfl
  have l2_1 : zld (zs1 lv 3 (.int q3.1)) 2 = some (.int v2) := x_o1 l2 rfl rfl
  have l3_1 : zld (zs1 lv 3 (.int q3.1)) 3 = some (.int q3.1) := zs1_ld _ _ _
  generalize (zs1 lv 3 (.int q3.1)) = lv1 at *
  refine q_li (k := 1) (i := 3) (q := (.iload_n 3, 1, 0, 0, .null)) rfl (fun _ => rfl) l3_1 ?_
  refine q_li (k := 1) (i := 2) (q := (.iload_n 2, 1, 0, 0, .null)) rfl (fun _ => rfl) l2_1 ?_
  refine r_ifc (len := 3) (a := 35) (b := 0) (v0 := .null) (cn := .eq) (off := 26) rfl (fun c => ?_) (fun c => ?_)
  · rw [if_pos c] at h
    exact T222_35 H he F l0_1 l1_1 l2_1 l3_1 h
  · rw [if_neg (by rw [c]; decide)] at h
    refine q_lr (k := 1) (i := 0) (q := (.aload_n 0, 1, 0, 0, .null)) rfl (fun _ => rfl) l0_1 ?_
    refine q_li (k := 1) (i := 1) (q := (.iload_n 1, 1, 0, 0, .null)) rfl (fun _ => rfl) l1_1 ?_
    refine r_s (fr' := (15, lv1, [.int 0, .int v1, .ref 70])) (hp' := xW B q3.2) (q := (.iconst 0, 1, 0, 0, .null)) rfl (fun _ => rfl) (Nat.le_refl _) ?_
    obtain ⟨q15, h15, h⟩ := xbind h
    refine r_call (ix := 70) (as := [.int v1, .int 0]) (rest := []) (rv := some (.int q15.1)) (hp' := xW B q15.2) (pc := 15) rfl xr208 rfl rfl rfl (xkd H (by decide)) (Nat.le_of_ble_eq_true rfl) (Z208 H h15 (by omega)) (Nat.le_refl _) ?_
    refine q_li (k := 1) (i := 2) (q := (.iload_n 2, 1, 0, 0, .null)) rfl (fun _ => rfl) l2_1 ?_
    refine r_ifc (len := 3) (a := 35) (b := 0) (v0 := .null) (cn := .eq) (off := 16) rfl (fun c => ?_) (fun c => ?_)
    · rw [if_pos c] at h
      exact T222_35 H he F l0_1 l1_1 l2_1 l3_1 h
    · rw [if_neg (by rw [c]; decide)] at h
      refine q_lr (k := 1) (i := 0) (q := (.aload_n 0, 1, 0, 0, .null)) rfl (fun _ => rfl) l0_1 ?_
      refine q_li (k := 1) (i := 3) (q := (.iload_n 3, 1, 0, 0, .null)) rfl (fun _ => rfl) l3_1 ?_
      refine q_li (k := 1) (i := 2) (q := (.iload_n 2, 1, 0, 0, .null)) rfl (fun _ => rfl) l2_1 ?_
      obtain ⟨q25, h25, h⟩ := xbind h
      refine r_call (ix := 70) (as := [.int q3.1, .int v2]) (rest := []) (rv := some (.int q25.1)) (hp' := xW B q25.2) (pc := 25) rfl xr210 rfl rfl rfl (xkd H (by decide)) (Nat.le_of_ble_eq_true rfl) (Z210 H h25 (by omega)) (Nat.le_refl _) ?_
      refine r_if (len := 3) (a := 35) (b := 0) (v0 := .null) (cn := .eq) (off := 7) rfl (fun c => ?_) (fun c => ?_)
      · rw [if_pos c] at h
        exact T222_35 H he F l0_1 l1_1 l2_1 l3_1 h
      · rw [if_neg (by rw [c]; decide)] at h
        refine r_s (fr' := (32, lv1, [.int 1])) (hp' := xW B q25.2) (q := (.iconst 1, 1, 0, 0, .null)) rfl (fun _ => rfl) (Nat.le_refl _) ?_
        refine r_s (fr' := (36, lv1, [.int 1])) (hp' := xW B q25.2) (q := (.goto 4, 3, 36, 0, .null)) rfl (fun _ => rfl) (Nat.le_refl _) ?_
        obtain rfl := Option.some.inj h
        exact q_ri (q := (.ireturn, 1, 0, 0, .null)) rfl (fun _ => rfl) rfl rfl
set_option maxRecDepth 20000 in
theorem Z222 {B : zHp} (H : yH0 B) {F : Nat} {a1 : Int32} {a2 : Int32} {m : xS} {x : Int32 × xS} (h : D222 F a1 a2 m = some x) {d : Nat} (hd : 2 ≤ d) : zCan d 222 [.ref 70, .int a1, .int a2] (xW B m) (some (.int x.1), xW B x.2) := by
  obtain ⟨e, rfl⟩ : ∃ e, d = e + 1 := ⟨d - 1, by omega⟩
  refine zCan_body (nL := 4) (rt := (some .boolean)) (cd := zc222) (xg222) ⟨Nat.le_of_ble_eq_true rfl, by decide⟩ (Nat.le_refl _) ?_
  exact T222 H hd F rfl rfl rfl h
/-- LentToolsModel.lends -/
def D223_36 (F : Nat) (v1 : Int32) (v2 : Int32) (v3 : Int32) (m : xS) : Option (Unit × xS) :=
  if xib ((10 + (6 * v1)) + 3) 148 = true then
    if xib ((10 + (6 * v1)) + 4) 148 = true then
      if xib ((10 + (6 * v1)) + 4) 148 = true then
        some ((), (xu (xu m 80 (((10 + (6 * v1)) + 3) : Int32).toNatClampNeg v2) 80 (((10 + (6 * v1)) + 4) : Int32).toNatClampNeg (((xu m 80 (((10 + (6 * v1)) + 3) : Int32).toNatClampNeg v2).1 80 (((10 + (6 * v1)) + 4) : Int32).toNatClampNeg) + 1)))
      else none
    else none
  else none
set_option maxRecDepth 20000 in
theorem T223_36 {B : zHp} (H : yH0 B) {e : Nat} (he : 2 ≤ e + 1) (F : Nat) {v1 : Int32} {v2 : Int32} {v3 : Int32} {lv : List (Nat × Value)} {m : xS} {x : Unit × xS} (l0 : zld lv 0 = some (.ref 70)) (l1 : zld lv 1 = some (.int v1)) (l2 : zld lv 2 = some (.int v2)) (l3 : zld lv 3 = some (.int v3)) (h : D223_36 F v1 v2 v3 m = some x) : zR none e 4 none zc223 (36, lv, []) (xW B m) (none, xW B x.2) := by
  unfold D223_36 at h
  refine q_lr (k := 1) (i := 0) (q := (.aload_n 0, 1, 0, 0, .null)) rfl (fun _ => rfl) l0 ?_
  refine r_gr (c := 80) H (pc := 37) rfl (by decide) (by decide) ?_
  refine r_s (fr' := (42, lv, [.int 10, .ref 80])) (hp' := xW B m) (q := (.bipush 10, 2, 0, 0, .null)) rfl (fun _ => rfl) (Nat.le_refl _) ?_
  refine r_s (fr' := (44, lv, [.int 6, .int 10, .ref 80])) (hp' := xW B m) (q := (.bipush 6, 2, 0, 0, .null)) rfl (fun _ => rfl) (Nat.le_refl _) ?_
  refine q_li (k := 1) (i := 1) (q := (.iload_n 1, 1, 0, 0, .null)) rfl (fun _ => rfl) l1 ?_
  refine r_s (fr' := (46, lv, [.int (6 * v1), .int 10, .ref 80])) (hp' := xW B m) (q := (.imul, 1, 0, 0, .null)) rfl (fun _ => rfl) (Nat.le_refl _) ?_
  refine r_s (fr' := (47, lv, [.int (10 + (6 * v1)), .ref 80])) (hp' := xW B m) (q := (.iadd, 1, 0, 0, .null)) rfl (fun _ => rfl) (Nat.le_refl _) ?_
  refine r_s (fr' := (48, lv, [.int 3, .int (10 + (6 * v1)), .ref 80])) (hp' := xW B m) (q := (.iconst 3, 1, 0, 0, .null)) rfl (fun _ => rfl) (Nat.le_refl _) ?_
  refine r_s (fr' := (49, lv, [.int ((10 + (6 * v1)) + 3), .ref 80])) (hp' := xW B m) (q := (.iadd, 1, 0, 0, .null)) rfl (fun _ => rfl) (Nat.le_refl _) ?_
  refine q_li (k := 1) (i := 2) (q := (.iload_n 2, 1, 0, 0, .null)) rfl (fun _ => rfl) l2 ?_
  obtain ⟨c1, h⟩ := xif h
  refine q_as (n := 148) (s2 := (xu m 80 (((10 + (6 * v1)) + 3) : Int32).toNatClampNeg v2)) H (pc := 50) rfl (by decide) c1 rfl ?_
  refine q_lr (k := 1) (i := 0) (q := (.aload_n 0, 1, 0, 0, .null)) rfl (fun _ => rfl) l0 ?_
  refine r_gr (c := 80) H (pc := 52) rfl (by decide) (by decide) ?_
  refine r_s (fr' := (57, lv, [.int 10, .ref 80])) (hp' := xW B (xu m 80 (((10 + (6 * v1)) + 3) : Int32).toNatClampNeg v2)) (q := (.bipush 10, 2, 0, 0, .null)) rfl (fun _ => rfl) (Nat.le_refl _) ?_
  refine r_s (fr' := (59, lv, [.int 6, .int 10, .ref 80])) (hp' := xW B (xu m 80 (((10 + (6 * v1)) + 3) : Int32).toNatClampNeg v2)) (q := (.bipush 6, 2, 0, 0, .null)) rfl (fun _ => rfl) (Nat.le_refl _) ?_
  refine q_li (k := 1) (i := 1) (q := (.iload_n 1, 1, 0, 0, .null)) rfl (fun _ => rfl) l1 ?_
  refine r_s (fr' := (61, lv, [.int (6 * v1), .int 10, .ref 80])) (hp' := xW B (xu m 80 (((10 + (6 * v1)) + 3) : Int32).toNatClampNeg v2)) (q := (.imul, 1, 0, 0, .null)) rfl (fun _ => rfl) (Nat.le_refl _) ?_
  refine r_s (fr' := (62, lv, [.int (10 + (6 * v1)), .ref 80])) (hp' := xW B (xu m 80 (((10 + (6 * v1)) + 3) : Int32).toNatClampNeg v2)) (q := (.iadd, 1, 0, 0, .null)) rfl (fun _ => rfl) (Nat.le_refl _) ?_
  refine r_s (fr' := (63, lv, [.int 4, .int (10 + (6 * v1)), .ref 80])) (hp' := xW B (xu m 80 (((10 + (6 * v1)) + 3) : Int32).toNatClampNeg v2)) (q := (.iconst 4, 1, 0, 0, .null)) rfl (fun _ => rfl) (Nat.le_refl _) ?_
  refine r_s (fr' := (64, lv, [.int ((10 + (6 * v1)) + 4), .ref 80])) (hp' := xW B (xu m 80 (((10 + (6 * v1)) + 3) : Int32).toNatClampNeg v2)) (q := (.iadd, 1, 0, 0, .null)) rfl (fun _ => rfl) (Nat.le_refl _) ?_
  refine r_s (fr' := (65, lv, [.int ((10 + (6 * v1)) + 4), .ref 80, .int ((10 + (6 * v1)) + 4), .ref 80])) (hp' := xW B (xu m 80 (((10 + (6 * v1)) + 3) : Int32).toNatClampNeg v2)) (q := (.dup2, 1, 0, 0, .null)) rfl (fun _ => rfl) (Nat.le_refl _) ?_
  obtain ⟨c2, h⟩ := xif h
  refine q_al (n := 148) (v := ((xu m 80 (((10 + (6 * v1)) + 3) : Int32).toNatClampNeg v2).1 80 (((10 + (6 * v1)) + 4) : Int32).toNatClampNeg)) H (pc := 65) rfl (by decide) c2 rfl ?_
  refine r_s (fr' := (67, lv, [.int 1, .int ((xu m 80 (((10 + (6 * v1)) + 3) : Int32).toNatClampNeg v2).1 80 (((10 + (6 * v1)) + 4) : Int32).toNatClampNeg), .int ((10 + (6 * v1)) + 4), .ref 80])) (hp' := xW B (xu m 80 (((10 + (6 * v1)) + 3) : Int32).toNatClampNeg v2)) (q := (.iconst 1, 1, 0, 0, .null)) rfl (fun _ => rfl) (Nat.le_refl _) ?_
  refine r_s (fr' := (68, lv, [.int (((xu m 80 (((10 + (6 * v1)) + 3) : Int32).toNatClampNeg v2).1 80 (((10 + (6 * v1)) + 4) : Int32).toNatClampNeg) + 1), .int ((10 + (6 * v1)) + 4), .ref 80])) (hp' := xW B (xu m 80 (((10 + (6 * v1)) + 3) : Int32).toNatClampNeg v2)) (q := (.iadd, 1, 0, 0, .null)) rfl (fun _ => rfl) (Nat.le_refl _) ?_
  obtain ⟨c3, h⟩ := xif h
  refine q_as (n := 148) (s2 := (xu (xu m 80 (((10 + (6 * v1)) + 3) : Int32).toNatClampNeg v2) 80 (((10 + (6 * v1)) + 4) : Int32).toNatClampNeg (((xu m 80 (((10 + (6 * v1)) + 3) : Int32).toNatClampNeg v2).1 80 (((10 + (6 * v1)) + 4) : Int32).toNatClampNeg) + 1))) H (pc := 68) rfl (by decide) c3 rfl ?_
  obtain rfl := Option.some.inj h
  exact r_ret (q := (.return_, 1, 0, 0, .null)) rfl rfl (fun _ => rfl)
def D223 (F : Nat) (v1 : Int32) (v2 : Int32) (m : xS) : Option (Unit × xS) :=
  (D208 F v1 3 m).bind fun q10 =>
    if xib ((82 + (6 * v2)) + q10.1) 148 = true then
      if zcmp .ge (q10.2.1 80 (((82 + (6 * v2)) + q10.1) : Int32).toNatClampNeg) 99 = true then
        D223_36 F v1 v2 ((82 + (6 * v2)) + q10.1) q10.2
      else
        if xib ((82 + (6 * v2)) + q10.1) 148 = true then
          if xib ((82 + (6 * v2)) + q10.1) 148 = true then
            D223_36 F v1 v2 ((82 + (6 * v2)) + q10.1) (xu q10.2 80 (((82 + (6 * v2)) + q10.1) : Int32).toNatClampNeg ((q10.2.1 80 (((82 + (6 * v2)) + q10.1) : Int32).toNatClampNeg) + 1))
          else none
        else none
    else none
set_option maxRecDepth 20000 in
theorem T223 {B : zHp} (H : yH0 B) {e : Nat} (he : 2 ≤ e + 1) (F : Nat) {v1 : Int32} {v2 : Int32} {lv : List (Nat × Value)} {m : xS} {x : Unit × xS} (l0 : zld lv 0 = some (.ref 70)) (l1 : zld lv 1 = some (.int v1)) (l2 : zld lv 2 = some (.int v2)) (h : D223 F v1 v2 m = some x) : zR none e 4 none zc223 (0, lv, []) (xW B m) (none, xW B x.2) := by
  unfold D223 at h
  refine r_s (fr' := (2, lv, [.int 82])) (hp' := xW B m) (q := (.bipush 82, 2, 0, 0, .null)) rfl (fun _ => rfl) (Nat.le_refl _) ?_
  refine r_s (fr' := (4, lv, [.int 6, .int 82])) (hp' := xW B m) (q := (.bipush 6, 2, 0, 0, .null)) rfl (fun _ => rfl) (Nat.le_refl _) ?_
  refine q_li (k := 1) (i := 2) (q := (.iload_n 2, 1, 0, 0, .null)) rfl (fun _ => rfl) l2 ?_
  refine r_s (fr' := (6, lv, [.int (6 * v2), .int 82])) (hp' := xW B m) (q := (.imul, 1, 0, 0, .null)) rfl (fun _ => rfl) (Nat.le_refl _) ?_
  refine r_s (fr' := (7, lv, [.int (82 + (6 * v2))])) (hp' := xW B m) (q := (.iadd, 1, 0, 0, .null)) rfl (fun _ => rfl) (Nat.le_refl _) ?_
  refine q_lr (k := 1) (i := 0) (q := (.aload_n 0, 1, 0, 0, .null)) rfl (fun _ => rfl) l0 ?_
  refine q_li (k := 1) (i := 1) (q := (.iload_n 1, 1, 0, 0, .null)) rfl (fun _ => rfl) l1 ?_
  refine r_s (fr' := (10, lv, [.int 3, .int v1, .ref 70, .int (82 + (6 * v2))])) (hp' := xW B m) (q := (.iconst 3, 1, 0, 0, .null)) rfl (fun _ => rfl) (Nat.le_refl _) ?_
  obtain ⟨q10, h10, h⟩ := xbind h
  refine r_call (ix := 70) (as := [.int v1, .int 3]) (rest := [.int (82 + (6 * v2))]) (rv := some (.int q10.1)) (hp' := xW B q10.2) (pc := 10) rfl xr208 rfl rfl rfl (xkd H (by decide)) (Nat.le_of_ble_eq_true rfl) (Z208 H h10 (by omega)) (Nat.le_refl _) ?_
  refine r_s (fr' := (14, lv, [.int ((82 + (6 * v2)) + q10.1)])) (hp' := xW B q10.2) (q := (.iadd, 1, 0, 0, .null)) rfl (fun _ => rfl) (Nat.le_refl _) ?_
  refine q_si (k := 1) (i := 3) (q := (.istore_n 3, 1, 0, 0, .null)) rfl (fun _ => rfl) (by decide) ?_
  have l0_1 : zld (zs1 lv 3 (.int ((82 + (6 * v2)) + q10.1))) 0 = some (.ref 70) := x_o1 l0 rfl rfl
  have l1_1 : zld (zs1 lv 3 (.int ((82 + (6 * v2)) + q10.1))) 1 = some (.int v1) := x_o1 l1 rfl rfl
  have l2_1 : zld (zs1 lv 3 (.int ((82 + (6 * v2)) + q10.1))) 2 = some (.int v2) := x_o1 l2 rfl rfl
  have l3_1 : zld (zs1 lv 3 (.int ((82 + (6 * v2)) + q10.1))) 3 = some (.int ((82 + (6 * v2)) + q10.1)) := zs1_ld _ _ _
  generalize (zs1 lv 3 (.int ((82 + (6 * v2)) + q10.1))) = lv1 at *
  refine q_lr (k := 1) (i := 0) (q := (.aload_n 0, 1, 0, 0, .null)) rfl (fun _ => rfl) l0_1 ?_
  refine r_gr (c := 80) H (pc := 16) rfl (by decide) (by decide) ?_
  refine q_li (k := 1) (i := 3) (q := (.iload_n 3, 1, 0, 0, .null)) rfl (fun _ => rfl) l3_1 ?_
  obtain ⟨c2, h⟩ := xif h
  refine q_al (n := 148) (v := (q10.2.1 80 (((82 + (6 * v2)) + q10.1) : Int32).toNatClampNeg)) H (pc := 20) rfl (by decide) c2 rfl ?_
  refine r_s (fr' := (23, lv1, [.int 99, .int (q10.2.1 80 (((82 + (6 * v2)) + q10.1) : Int32).toNatClampNeg)])) (hp' := xW B q10.2) (q := (.bipush 99, 2, 0, 0, .null)) rfl (fun _ => rfl) (Nat.le_refl _) ?_
  refine r_ifc (len := 3) (a := 36) (b := 0) (v0 := .null) (cn := .ge) (off := 13) rfl (fun c => ?_) (fun c => ?_)
  · rw [if_pos c] at h
    exact T223_36 H he F l0_1 l1_1 l2_1 l3_1 h
  · rw [if_neg (by rw [c]; decide)] at h
    refine q_lr (k := 1) (i := 0) (q := (.aload_n 0, 1, 0, 0, .null)) rfl (fun _ => rfl) l0_1 ?_
    refine r_gr (c := 80) H (pc := 27) rfl (by decide) (by decide) ?_
    refine q_li (k := 1) (i := 3) (q := (.iload_n 3, 1, 0, 0, .null)) rfl (fun _ => rfl) l3_1 ?_
    refine r_s (fr' := (32, lv1, [.int ((82 + (6 * v2)) + q10.1), .ref 80, .int ((82 + (6 * v2)) + q10.1), .ref 80])) (hp' := xW B q10.2) (q := (.dup2, 1, 0, 0, .null)) rfl (fun _ => rfl) (Nat.le_refl _) ?_
    obtain ⟨c3, h⟩ := xif h
    refine q_al (n := 148) (v := (q10.2.1 80 (((82 + (6 * v2)) + q10.1) : Int32).toNatClampNeg)) H (pc := 32) rfl (by decide) c3 rfl ?_
    refine r_s (fr' := (34, lv1, [.int 1, .int (q10.2.1 80 (((82 + (6 * v2)) + q10.1) : Int32).toNatClampNeg), .int ((82 + (6 * v2)) + q10.1), .ref 80])) (hp' := xW B q10.2) (q := (.iconst 1, 1, 0, 0, .null)) rfl (fun _ => rfl) (Nat.le_refl _) ?_
    refine r_s (fr' := (35, lv1, [.int ((q10.2.1 80 (((82 + (6 * v2)) + q10.1) : Int32).toNatClampNeg) + 1), .int ((82 + (6 * v2)) + q10.1), .ref 80])) (hp' := xW B q10.2) (q := (.iadd, 1, 0, 0, .null)) rfl (fun _ => rfl) (Nat.le_refl _) ?_
    obtain ⟨c4, h⟩ := xif h
    refine q_as (n := 148) (s2 := (xu q10.2 80 (((82 + (6 * v2)) + q10.1) : Int32).toNatClampNeg ((q10.2.1 80 (((82 + (6 * v2)) + q10.1) : Int32).toNatClampNeg) + 1))) H (pc := 35) rfl (by decide) c4 rfl ?_
    exact T223_36 H he F l0_1 l1_1 l2_1 l3_1 h
set_option maxRecDepth 20000 in
theorem Z223 {B : zHp} (H : yH0 B) {F : Nat} {a1 : Int32} {a2 : Int32} {m : xS} {x : Unit × xS} (h : D223 F a1 a2 m = some x) {d : Nat} (hd : 2 ≤ d) : zCan d 223 [.ref 70, .int a1, .int a2] (xW B m) (none, xW B x.2) := by
  obtain ⟨e, rfl⟩ : ∃ e, d = e + 1 := ⟨d - 1, by omega⟩
  refine zCan_body (nL := 4) (rt := none) (cd := zc223) (xg223) ⟨Nat.le_of_ble_eq_true rfl, by decide⟩ (Nat.le_refl _) ?_
  exact T223 H hd F rfl rfl rfl h
/-- LentToolsModel.lend -/
def D226_25 (F : Nat) (v1 : Int32) (v2 : Int32) (m : xS) : Option (Int32 × xS) :=
  some ((-1), m)
set_option maxRecDepth 20000 in
theorem T226_25 {B : zHp} (H : yH0 B) {e : Nat} (he : 5 ≤ e + 1) (F : Nat) {v1 : Int32} {v2 : Int32} {lv : List (Nat × Value)} {m : xS} {x : Int32 × xS} (l0 : zld lv 0 = some (.ref 70)) (l1 : zld lv 1 = some (.int v1)) (l2 : zld lv 2 = some (.int v2)) (h : D226_25 F v1 v2 m = some x) : zR none e 3 (some .int) zc226 (25, lv, []) (xW B m) (some (.int x.1), xW B x.2) := by
  unfold D226_25 at h
  refine r_s (fr' := (26, lv, [.int (-1)])) (hp' := xW B m) (q := (.iconst (-1), 1, 0, 0, .null)) rfl (fun _ => rfl) (Nat.le_refl _) ?_
  obtain rfl := Option.some.inj h
  exact q_ri (q := (.ireturn, 1, 0, 0, .null)) rfl (fun _ => rfl) rfl rfl
def D226 (F : Nat) (v1 : Int32) (v2 : Int32) (m : xS) : Option (Int32 × xS) :=
  (D206 F v1 m).bind fun q2 =>
    if zcmp .eq q2.1 0 = true then
      D226_25 F v1 v2 q2.2
    else
      (D205 F v2 q2.2).bind fun q10 =>
        if zcmp .eq q10.1 0 = true then
          D226_25 F v1 v2 q10.2
        else
          (D222 F v1 v2 q10.2).bind fun q19 =>
            if zcmp .ne q19.1 0 = true then
              (D220 F q19.2).bind fun q28 =>
                (D223 F v1 v2 q28.2).bind fun q34 =>
                  (D214 F v1 0 q34.2).bind fun q40 =>
                    some (q40.1, q40.2)
            else
              D226_25 F v1 v2 q19.2
set_option maxRecDepth 20000 in
theorem T226 {B : zHp} (H : yH0 B) {e : Nat} (he : 5 ≤ e + 1) (F : Nat) {v1 : Int32} {v2 : Int32} {lv : List (Nat × Value)} {m : xS} {x : Int32 × xS} (l0 : zld lv 0 = some (.ref 70)) (l1 : zld lv 1 = some (.int v1)) (l2 : zld lv 2 = some (.int v2)) (h : D226 F v1 v2 m = some x) : zR none e 3 (some .int) zc226 (0, lv, []) (xW B m) (some (.int x.1), xW B x.2) := by
  unfold D226 at h
  refine q_lr (k := 1) (i := 0) (q := (.aload_n 0, 1, 0, 0, .null)) rfl (fun _ => rfl) l0 ?_
  refine q_li (k := 1) (i := 1) (q := (.iload_n 1, 1, 0, 0, .null)) rfl (fun _ => rfl) l1 ?_
  obtain ⟨q2, h2, h⟩ := xbind h
  refine r_call (ix := 70) (as := [.int v1]) (rest := []) (rv := some (.int q2.1)) (hp' := xW B q2.2) (pc := 2) rfl xr206 rfl rfl rfl (xkd H (by decide)) (Nat.le_of_ble_eq_true rfl) (Z206 H h2 (by omega)) (Nat.le_refl _) ?_
  refine r_if (len := 3) (a := 25) (b := 0) (v0 := .null) (cn := .eq) (off := 20) rfl (fun c => ?_) (fun c => ?_)
  · rw [if_pos c] at h
    exact T226_25 H he F l0 l1 l2 h
  · rw [if_neg (by rw [c]; decide)] at h
    refine q_lr (k := 1) (i := 0) (q := (.aload_n 0, 1, 0, 0, .null)) rfl (fun _ => rfl) l0 ?_
    refine q_li (k := 1) (i := 2) (q := (.iload_n 2, 1, 0, 0, .null)) rfl (fun _ => rfl) l2 ?_
    obtain ⟨q10, h10, h⟩ := xbind h
    refine r_call (ix := 70) (as := [.int v2]) (rest := []) (rv := some (.int q10.1)) (hp' := xW B q10.2) (pc := 10) rfl xr205 rfl rfl rfl (xkd H (by decide)) (Nat.le_of_ble_eq_true rfl) (Z205 H h10 (by omega)) (Nat.le_refl _) ?_
    refine r_if (len := 3) (a := 25) (b := 0) (v0 := .null) (cn := .eq) (off := 12) rfl (fun c => ?_) (fun c => ?_)
    · rw [if_pos c] at h
      exact T226_25 H he F l0 l1 l2 h
    · rw [if_neg (by rw [c]; decide)] at h
      refine q_lr (k := 1) (i := 0) (q := (.aload_n 0, 1, 0, 0, .null)) rfl (fun _ => rfl) l0 ?_
      refine q_li (k := 1) (i := 1) (q := (.iload_n 1, 1, 0, 0, .null)) rfl (fun _ => rfl) l1 ?_
      refine q_li (k := 1) (i := 2) (q := (.iload_n 2, 1, 0, 0, .null)) rfl (fun _ => rfl) l2 ?_
      obtain ⟨q19, h19, h⟩ := xbind h
      refine r_call (ix := 70) (as := [.int v1, .int v2]) (rest := []) (rv := some (.int q19.1)) (hp' := xW B q19.2) (pc := 19) rfl xr222 rfl rfl rfl (xkd H (by decide)) (Nat.le_of_ble_eq_true rfl) (Z222 H h19 (by omega)) (Nat.le_refl _) ?_
      refine r_if (len := 3) (a := 27) (b := 0) (v0 := .null) (cn := .ne) (off := 5) rfl (fun c => ?_) (fun c => ?_)
      · rw [if_pos c] at h
        refine q_lr (k := 1) (i := 0) (q := (.aload_n 0, 1, 0, 0, .null)) rfl (fun _ => rfl) l0 ?_
        obtain ⟨q28, h28, h⟩ := xbind h
        refine r_call (ix := 70) (as := []) (rest := []) (rv := none) (hp' := xW B q28.2) (pc := 28) rfl xr220 rfl rfl rfl (xkd H (by decide)) (Nat.le_of_ble_eq_true rfl) (Z220 H h28 (by omega)) (Nat.le_refl _) ?_
        refine q_lr (k := 1) (i := 0) (q := (.aload_n 0, 1, 0, 0, .null)) rfl (fun _ => rfl) l0 ?_
        refine q_li (k := 1) (i := 1) (q := (.iload_n 1, 1, 0, 0, .null)) rfl (fun _ => rfl) l1 ?_
        refine q_li (k := 1) (i := 2) (q := (.iload_n 2, 1, 0, 0, .null)) rfl (fun _ => rfl) l2 ?_
        obtain ⟨q34, h34, h⟩ := xbind h
        refine r_call (ix := 70) (as := [.int v1, .int v2]) (rest := []) (rv := none) (hp' := xW B q34.2) (pc := 34) rfl xr223 rfl rfl rfl (xkd H (by decide)) (Nat.le_of_ble_eq_true rfl) (Z223 H h34 (by omega)) (Nat.le_refl _) ?_
        refine q_lr (k := 1) (i := 0) (q := (.aload_n 0, 1, 0, 0, .null)) rfl (fun _ => rfl) l0 ?_
        refine q_li (k := 1) (i := 1) (q := (.iload_n 1, 1, 0, 0, .null)) rfl (fun _ => rfl) l1 ?_
        refine r_s (fr' := (40, lv, [.int 0, .int v1, .ref 70])) (hp' := xW B q34.2) (q := (.iconst 0, 1, 0, 0, .null)) rfl (fun _ => rfl) (Nat.le_refl _) ?_
        obtain ⟨q40, h40, h⟩ := xbind h
        refine r_call (ix := 70) (as := [.int v1, .int 0]) (rest := []) (rv := some (.int q40.1)) (hp' := xW B q40.2) (pc := 40) rfl xr214 rfl rfl rfl (xkd H (by decide)) (Nat.le_of_ble_eq_true rfl) (Z214 H h40 (by omega)) (Nat.le_refl _) ?_
        obtain rfl := Option.some.inj h
        exact q_ri (q := (.ireturn, 1, 0, 0, .null)) rfl (fun _ => rfl) rfl rfl
      · rw [if_neg (by rw [c]; decide)] at h
        exact T226_25 H he F l0 l1 l2 h
set_option maxRecDepth 20000 in
theorem Z226 {B : zHp} (H : yH0 B) {F : Nat} {a1 : Int32} {a2 : Int32} {m : xS} {x : Int32 × xS} (h : D226 F a1 a2 m = some x) {d : Nat} (hd : 5 ≤ d) : zCan d 226 [.ref 70, .int a1, .int a2] (xW B m) (some (.int x.1), xW B x.2) := by
  obtain ⟨e, rfl⟩ : ∃ e, d = e + 1 := ⟨d - 1, by omega⟩
  refine zCan_body (nL := 3) (rt := (some .int)) (cd := zc226) (xg226) ⟨Nat.le_of_ble_eq_true rfl, by decide⟩ (Nat.le_refl _) ?_
  exact T226 H hd F rfl rfl rfl h
/-- LentToolsModel.goesHome -/
def D224 (F : Nat) (v1 : Int32) (m : xS) : Option (Unit × xS) :=
  (D208 F v1 0 m).bind fun q16 =>
    if xib ((10 + (6 * v1)) + 3) 148 = true then
      if xib ((10 + (6 * v1)) + 4) 148 = true then
        if xib ((10 + (6 * v1)) + 5) 148 = true then
          some ((), (xu (xu (xu q16.2 80 (((10 + (6 * v1)) + 3) : Int32).toNatClampNeg q16.1) 80 (((10 + (6 * v1)) + 4) : Int32).toNatClampNeg 0) 80 (((10 + (6 * v1)) + 5) : Int32).toNatClampNeg 0))
        else none
      else none
    else none
set_option maxRecDepth 20000 in
theorem T224 {B : zHp} (H : yH0 B) {e : Nat} (he : 2 ≤ e + 1) (F : Nat) {v1 : Int32} {lv : List (Nat × Value)} {m : xS} {x : Unit × xS} (l0 : zld lv 0 = some (.ref 70)) (l1 : zld lv 1 = some (.int v1)) (h : D224 F v1 m = some x) : zR none e 2 none zc224 (0, lv, []) (xW B m) (none, xW B x.2) := by
  unfold D224 at h
  refine q_lr (k := 1) (i := 0) (q := (.aload_n 0, 1, 0, 0, .null)) rfl (fun _ => rfl) l0 ?_
  refine r_gr (c := 80) H (pc := 1) rfl (by decide) (by decide) ?_
  refine r_s (fr' := (6, lv, [.int 10, .ref 80])) (hp' := xW B m) (q := (.bipush 10, 2, 0, 0, .null)) rfl (fun _ => rfl) (Nat.le_refl _) ?_
  refine r_s (fr' := (8, lv, [.int 6, .int 10, .ref 80])) (hp' := xW B m) (q := (.bipush 6, 2, 0, 0, .null)) rfl (fun _ => rfl) (Nat.le_refl _) ?_
  refine q_li (k := 1) (i := 1) (q := (.iload_n 1, 1, 0, 0, .null)) rfl (fun _ => rfl) l1 ?_
  refine r_s (fr' := (10, lv, [.int (6 * v1), .int 10, .ref 80])) (hp' := xW B m) (q := (.imul, 1, 0, 0, .null)) rfl (fun _ => rfl) (Nat.le_refl _) ?_
  refine r_s (fr' := (11, lv, [.int (10 + (6 * v1)), .ref 80])) (hp' := xW B m) (q := (.iadd, 1, 0, 0, .null)) rfl (fun _ => rfl) (Nat.le_refl _) ?_
  refine r_s (fr' := (12, lv, [.int 3, .int (10 + (6 * v1)), .ref 80])) (hp' := xW B m) (q := (.iconst 3, 1, 0, 0, .null)) rfl (fun _ => rfl) (Nat.le_refl _) ?_
  refine r_s (fr' := (13, lv, [.int ((10 + (6 * v1)) + 3), .ref 80])) (hp' := xW B m) (q := (.iadd, 1, 0, 0, .null)) rfl (fun _ => rfl) (Nat.le_refl _) ?_
  refine q_lr (k := 1) (i := 0) (q := (.aload_n 0, 1, 0, 0, .null)) rfl (fun _ => rfl) l0 ?_
  refine q_li (k := 1) (i := 1) (q := (.iload_n 1, 1, 0, 0, .null)) rfl (fun _ => rfl) l1 ?_
  refine r_s (fr' := (16, lv, [.int 0, .int v1, .ref 70, .int ((10 + (6 * v1)) + 3), .ref 80])) (hp' := xW B m) (q := (.iconst 0, 1, 0, 0, .null)) rfl (fun _ => rfl) (Nat.le_refl _) ?_
  obtain ⟨q16, h16, h⟩ := xbind h
  refine r_call (ix := 70) (as := [.int v1, .int 0]) (rest := [.int ((10 + (6 * v1)) + 3), .ref 80]) (rv := some (.int q16.1)) (hp' := xW B q16.2) (pc := 16) rfl xr208 rfl rfl rfl (xkd H (by decide)) (Nat.le_of_ble_eq_true rfl) (Z208 H h16 (by omega)) (Nat.le_refl _) ?_
  obtain ⟨c1, h⟩ := xif h
  refine q_as (n := 148) (s2 := (xu q16.2 80 (((10 + (6 * v1)) + 3) : Int32).toNatClampNeg q16.1)) H (pc := 19) rfl (by decide) c1 rfl ?_
  refine q_lr (k := 1) (i := 0) (q := (.aload_n 0, 1, 0, 0, .null)) rfl (fun _ => rfl) l0 ?_
  refine r_gr (c := 80) H (pc := 21) rfl (by decide) (by decide) ?_
  refine r_s (fr' := (26, lv, [.int 10, .ref 80])) (hp' := xW B (xu q16.2 80 (((10 + (6 * v1)) + 3) : Int32).toNatClampNeg q16.1)) (q := (.bipush 10, 2, 0, 0, .null)) rfl (fun _ => rfl) (Nat.le_refl _) ?_
  refine r_s (fr' := (28, lv, [.int 6, .int 10, .ref 80])) (hp' := xW B (xu q16.2 80 (((10 + (6 * v1)) + 3) : Int32).toNatClampNeg q16.1)) (q := (.bipush 6, 2, 0, 0, .null)) rfl (fun _ => rfl) (Nat.le_refl _) ?_
  refine q_li (k := 1) (i := 1) (q := (.iload_n 1, 1, 0, 0, .null)) rfl (fun _ => rfl) l1 ?_
  refine r_s (fr' := (30, lv, [.int (6 * v1), .int 10, .ref 80])) (hp' := xW B (xu q16.2 80 (((10 + (6 * v1)) + 3) : Int32).toNatClampNeg q16.1)) (q := (.imul, 1, 0, 0, .null)) rfl (fun _ => rfl) (Nat.le_refl _) ?_
  refine r_s (fr' := (31, lv, [.int (10 + (6 * v1)), .ref 80])) (hp' := xW B (xu q16.2 80 (((10 + (6 * v1)) + 3) : Int32).toNatClampNeg q16.1)) (q := (.iadd, 1, 0, 0, .null)) rfl (fun _ => rfl) (Nat.le_refl _) ?_
  refine r_s (fr' := (32, lv, [.int 4, .int (10 + (6 * v1)), .ref 80])) (hp' := xW B (xu q16.2 80 (((10 + (6 * v1)) + 3) : Int32).toNatClampNeg q16.1)) (q := (.iconst 4, 1, 0, 0, .null)) rfl (fun _ => rfl) (Nat.le_refl _) ?_
  refine r_s (fr' := (33, lv, [.int ((10 + (6 * v1)) + 4), .ref 80])) (hp' := xW B (xu q16.2 80 (((10 + (6 * v1)) + 3) : Int32).toNatClampNeg q16.1)) (q := (.iadd, 1, 0, 0, .null)) rfl (fun _ => rfl) (Nat.le_refl _) ?_
  refine r_s (fr' := (34, lv, [.int 0, .int ((10 + (6 * v1)) + 4), .ref 80])) (hp' := xW B (xu q16.2 80 (((10 + (6 * v1)) + 3) : Int32).toNatClampNeg q16.1)) (q := (.iconst 0, 1, 0, 0, .null)) rfl (fun _ => rfl) (Nat.le_refl _) ?_
  obtain ⟨c2, h⟩ := xif h
  refine q_as (n := 148) (s2 := (xu (xu q16.2 80 (((10 + (6 * v1)) + 3) : Int32).toNatClampNeg q16.1) 80 (((10 + (6 * v1)) + 4) : Int32).toNatClampNeg 0)) H (pc := 34) rfl (by decide) c2 rfl ?_
  refine q_lr (k := 1) (i := 0) (q := (.aload_n 0, 1, 0, 0, .null)) rfl (fun _ => rfl) l0 ?_
  refine r_gr (c := 80) H (pc := 36) rfl (by decide) (by decide) ?_
  refine r_s (fr' := (41, lv, [.int 10, .ref 80])) (hp' := xW B (xu (xu q16.2 80 (((10 + (6 * v1)) + 3) : Int32).toNatClampNeg q16.1) 80 (((10 + (6 * v1)) + 4) : Int32).toNatClampNeg 0)) (q := (.bipush 10, 2, 0, 0, .null)) rfl (fun _ => rfl) (Nat.le_refl _) ?_
  refine r_s (fr' := (43, lv, [.int 6, .int 10, .ref 80])) (hp' := xW B (xu (xu q16.2 80 (((10 + (6 * v1)) + 3) : Int32).toNatClampNeg q16.1) 80 (((10 + (6 * v1)) + 4) : Int32).toNatClampNeg 0)) (q := (.bipush 6, 2, 0, 0, .null)) rfl (fun _ => rfl) (Nat.le_refl _) ?_
  refine q_li (k := 1) (i := 1) (q := (.iload_n 1, 1, 0, 0, .null)) rfl (fun _ => rfl) l1 ?_
  refine r_s (fr' := (45, lv, [.int (6 * v1), .int 10, .ref 80])) (hp' := xW B (xu (xu q16.2 80 (((10 + (6 * v1)) + 3) : Int32).toNatClampNeg q16.1) 80 (((10 + (6 * v1)) + 4) : Int32).toNatClampNeg 0)) (q := (.imul, 1, 0, 0, .null)) rfl (fun _ => rfl) (Nat.le_refl _) ?_
  refine r_s (fr' := (46, lv, [.int (10 + (6 * v1)), .ref 80])) (hp' := xW B (xu (xu q16.2 80 (((10 + (6 * v1)) + 3) : Int32).toNatClampNeg q16.1) 80 (((10 + (6 * v1)) + 4) : Int32).toNatClampNeg 0)) (q := (.iadd, 1, 0, 0, .null)) rfl (fun _ => rfl) (Nat.le_refl _) ?_
  refine r_s (fr' := (47, lv, [.int 5, .int (10 + (6 * v1)), .ref 80])) (hp' := xW B (xu (xu q16.2 80 (((10 + (6 * v1)) + 3) : Int32).toNatClampNeg q16.1) 80 (((10 + (6 * v1)) + 4) : Int32).toNatClampNeg 0)) (q := (.iconst 5, 1, 0, 0, .null)) rfl (fun _ => rfl) (Nat.le_refl _) ?_
  refine r_s (fr' := (48, lv, [.int ((10 + (6 * v1)) + 5), .ref 80])) (hp' := xW B (xu (xu q16.2 80 (((10 + (6 * v1)) + 3) : Int32).toNatClampNeg q16.1) 80 (((10 + (6 * v1)) + 4) : Int32).toNatClampNeg 0)) (q := (.iadd, 1, 0, 0, .null)) rfl (fun _ => rfl) (Nat.le_refl _) ?_
  refine r_s (fr' := (49, lv, [.int 0, .int ((10 + (6 * v1)) + 5), .ref 80])) (hp' := xW B (xu (xu q16.2 80 (((10 + (6 * v1)) + 3) : Int32).toNatClampNeg q16.1) 80 (((10 + (6 * v1)) + 4) : Int32).toNatClampNeg 0)) (q := (.iconst 0, 1, 0, 0, .null)) rfl (fun _ => rfl) (Nat.le_refl _) ?_
  obtain ⟨c3, h⟩ := xif h
  refine q_as (n := 148) (s2 := (xu (xu (xu q16.2 80 (((10 + (6 * v1)) + 3) : Int32).toNatClampNeg q16.1) 80 (((10 + (6 * v1)) + 4) : Int32).toNatClampNeg 0) 80 (((10 + (6 * v1)) + 5) : Int32).toNatClampNeg 0)) H (pc := 49) rfl (by decide) c3 rfl ?_
  obtain rfl := Option.some.inj h
  exact r_ret (q := (.return_, 1, 0, 0, .null)) rfl rfl (fun _ => rfl)
set_option maxRecDepth 20000 in
theorem Z224 {B : zHp} (H : yH0 B) {F : Nat} {a1 : Int32} {m : xS} {x : Unit × xS} (h : D224 F a1 m = some x) {d : Nat} (hd : 2 ≤ d) : zCan d 224 [.ref 70, .int a1] (xW B m) (none, xW B x.2) := by
  obtain ⟨e, rfl⟩ : ∃ e, d = e + 1 := ⟨d - 1, by omega⟩
  refine zCan_body (nL := 2) (rt := none) (cd := zc224) (xg224) ⟨Nat.le_of_ble_eq_true rfl, by decide⟩ (Nat.le_refl _) ?_
  exact T224 H hd F rfl rfl h
/-- LentToolsModel.giveBack -/
def D227_16 (F : Nat) (v1 : Int32) (m : xS) : Option (Int32 × xS) :=
  some ((-1), m)
set_option maxRecDepth 20000 in
theorem T227_16 {B : zHp} (H : yH0 B) {e : Nat} (he : 3 ≤ e + 1) (F : Nat) {v1 : Int32} {lv : List (Nat × Value)} {m : xS} {x : Int32 × xS} (l0 : zld lv 0 = some (.ref 70)) (l1 : zld lv 1 = some (.int v1)) (h : D227_16 F v1 m = some x) : zR none e 2 (some .int) zc227 (16, lv, []) (xW B m) (some (.int x.1), xW B x.2) := by
  unfold D227_16 at h
  refine r_s (fr' := (17, lv, [.int (-1)])) (hp' := xW B m) (q := (.iconst (-1), 1, 0, 0, .null)) rfl (fun _ => rfl) (Nat.le_refl _) ?_
  obtain rfl := Option.some.inj h
  exact q_ri (q := (.ireturn, 1, 0, 0, .null)) rfl (fun _ => rfl) rfl rfl
def D227 (F : Nat) (v1 : Int32) (m : xS) : Option (Int32 × xS) :=
  (D206 F v1 m).bind fun q2 =>
    if zcmp .eq q2.1 0 = true then
      D227_16 F v1 q2.2
    else
      (D212 F v1 q2.2).bind fun q10 =>
        if zcmp .eq q10.1 0 = true then
          (D220 F q10.2).bind fun q19 =>
            (D224 F v1 q19.2).bind fun q24 =>
              (D208 F v1 0 q24.2).bind fun q30 =>
                some (q30.1, q30.2)
        else
          D227_16 F v1 q10.2
set_option maxRecDepth 20000 in
theorem T227 {B : zHp} (H : yH0 B) {e : Nat} (he : 3 ≤ e + 1) (F : Nat) {v1 : Int32} {lv : List (Nat × Value)} {m : xS} {x : Int32 × xS} (l0 : zld lv 0 = some (.ref 70)) (l1 : zld lv 1 = some (.int v1)) (h : D227 F v1 m = some x) : zR none e 2 (some .int) zc227 (0, lv, []) (xW B m) (some (.int x.1), xW B x.2) := by
  unfold D227 at h
  refine q_lr (k := 1) (i := 0) (q := (.aload_n 0, 1, 0, 0, .null)) rfl (fun _ => rfl) l0 ?_
  refine q_li (k := 1) (i := 1) (q := (.iload_n 1, 1, 0, 0, .null)) rfl (fun _ => rfl) l1 ?_
  obtain ⟨q2, h2, h⟩ := xbind h
  refine r_call (ix := 70) (as := [.int v1]) (rest := []) (rv := some (.int q2.1)) (hp' := xW B q2.2) (pc := 2) rfl xr206 rfl rfl rfl (xkd H (by decide)) (Nat.le_of_ble_eq_true rfl) (Z206 H h2 (by omega)) (Nat.le_refl _) ?_
  refine r_if (len := 3) (a := 16) (b := 0) (v0 := .null) (cn := .eq) (off := 11) rfl (fun c => ?_) (fun c => ?_)
  · rw [if_pos c] at h
    exact T227_16 H he F l0 l1 h
  · rw [if_neg (by rw [c]; decide)] at h
    refine q_lr (k := 1) (i := 0) (q := (.aload_n 0, 1, 0, 0, .null)) rfl (fun _ => rfl) l0 ?_
    refine q_li (k := 1) (i := 1) (q := (.iload_n 1, 1, 0, 0, .null)) rfl (fun _ => rfl) l1 ?_
    obtain ⟨q10, h10, h⟩ := xbind h
    refine r_call (ix := 70) (as := [.int v1]) (rest := []) (rv := some (.int q10.1)) (hp' := xW B q10.2) (pc := 10) rfl xr212 rfl rfl rfl (xkd H (by decide)) (Nat.le_of_ble_eq_true rfl) (Z212 H h10 (by omega)) (Nat.le_refl _) ?_
    refine r_if (len := 3) (a := 18) (b := 0) (v0 := .null) (cn := .eq) (off := 5) rfl (fun c => ?_) (fun c => ?_)
    · rw [if_pos c] at h
      refine q_lr (k := 1) (i := 0) (q := (.aload_n 0, 1, 0, 0, .null)) rfl (fun _ => rfl) l0 ?_
      obtain ⟨q19, h19, h⟩ := xbind h
      refine r_call (ix := 70) (as := []) (rest := []) (rv := none) (hp' := xW B q19.2) (pc := 19) rfl xr220 rfl rfl rfl (xkd H (by decide)) (Nat.le_of_ble_eq_true rfl) (Z220 H h19 (by omega)) (Nat.le_refl _) ?_
      refine q_lr (k := 1) (i := 0) (q := (.aload_n 0, 1, 0, 0, .null)) rfl (fun _ => rfl) l0 ?_
      refine q_li (k := 1) (i := 1) (q := (.iload_n 1, 1, 0, 0, .null)) rfl (fun _ => rfl) l1 ?_
      obtain ⟨q24, h24, h⟩ := xbind h
      refine r_call (ix := 70) (as := [.int v1]) (rest := []) (rv := none) (hp' := xW B q24.2) (pc := 24) rfl xr224 rfl rfl rfl (xkd H (by decide)) (Nat.le_of_ble_eq_true rfl) (Z224 H h24 (by omega)) (Nat.le_refl _) ?_
      refine q_lr (k := 1) (i := 0) (q := (.aload_n 0, 1, 0, 0, .null)) rfl (fun _ => rfl) l0 ?_
      refine q_li (k := 1) (i := 1) (q := (.iload_n 1, 1, 0, 0, .null)) rfl (fun _ => rfl) l1 ?_
      refine r_s (fr' := (30, lv, [.int 0, .int v1, .ref 70])) (hp' := xW B q24.2) (q := (.iconst 0, 1, 0, 0, .null)) rfl (fun _ => rfl) (Nat.le_refl _) ?_
      obtain ⟨q30, h30, h⟩ := xbind h
      refine r_call (ix := 70) (as := [.int v1, .int 0]) (rest := []) (rv := some (.int q30.1)) (hp' := xW B q30.2) (pc := 30) rfl xr208 rfl rfl rfl (xkd H (by decide)) (Nat.le_of_ble_eq_true rfl) (Z208 H h30 (by omega)) (Nat.le_refl _) ?_
      obtain rfl := Option.some.inj h
      exact q_ri (q := (.ireturn, 1, 0, 0, .null)) rfl (fun _ => rfl) rfl rfl
    · rw [if_neg (by rw [c]; decide)] at h
      exact T227_16 H he F l0 l1 h
set_option maxRecDepth 20000 in
theorem Z227 {B : zHp} (H : yH0 B) {F : Nat} {a1 : Int32} {m : xS} {x : Int32 × xS} (h : D227 F a1 m = some x) {d : Nat} (hd : 3 ≤ d) : zCan d 227 [.ref 70, .int a1] (xW B m) (some (.int x.1), xW B x.2) := by
  obtain ⟨e, rfl⟩ : ∃ e, d = e + 1 := ⟨d - 1, by omega⟩
  refine zCan_body (nL := 2) (rt := (some .int)) (cd := zc227) (xg227) ⟨Nat.le_of_ble_eq_true rfl, by decide⟩ (Nat.le_refl _) ?_
  exact T227 H hd F rfl rfl h
/-- LentToolsModel.works -/
def D225 (F : Nat) (v1 : Int32) (m : xS) : Option (Int32 × xS) :=
  if xib (118 + v1) 148 = true then
    (D209 F v1 3 (xu m 80 ((118 + v1) : Int32).toNatClampNeg (m.1 80 4))).bind fun q25 =>
      (D209 F v1 3 (xu q25.2 80 5 (((xu m 80 ((118 + v1) : Int32).toNatClampNeg (m.1 80 4)).1 80 5) + q25.1))).bind fun q33 =>
        some (q33.1, q33.2)
  else none
set_option maxRecDepth 20000 in
theorem T225 {B : zHp} (H : yH0 B) {e : Nat} (he : 2 ≤ e + 1) (F : Nat) {v1 : Int32} {lv : List (Nat × Value)} {m : xS} {x : Int32 × xS} (l0 : zld lv 0 = some (.ref 70)) (l1 : zld lv 1 = some (.int v1)) (h : D225 F v1 m = some x) : zR none e 2 (some .int) zc225 (0, lv, []) (xW B m) (some (.int x.1), xW B x.2) := by
  unfold D225 at h
  refine q_lr (k := 1) (i := 0) (q := (.aload_n 0, 1, 0, 0, .null)) rfl (fun _ => rfl) l0 ?_
  refine r_gr (c := 80) H (pc := 1) rfl (by decide) (by decide) ?_
  refine r_s (fr' := (6, lv, [.int 118, .ref 80])) (hp' := xW B m) (q := (.bipush 118, 2, 0, 0, .null)) rfl (fun _ => rfl) (Nat.le_refl _) ?_
  refine q_li (k := 1) (i := 1) (q := (.iload_n 1, 1, 0, 0, .null)) rfl (fun _ => rfl) l1 ?_
  refine r_s (fr' := (8, lv, [.int (118 + v1), .ref 80])) (hp' := xW B m) (q := (.iadd, 1, 0, 0, .null)) rfl (fun _ => rfl) (Nat.le_refl _) ?_
  refine q_lr (k := 1) (i := 0) (q := (.aload_n 0, 1, 0, 0, .null)) rfl (fun _ => rfl) l0 ?_
  refine r_gr (c := 80) H (pc := 9) rfl (by decide) (by decide) ?_
  refine r_s (fr' := (13, lv, [.int 4, .ref 80, .int (118 + v1), .ref 80])) (hp' := xW B m) (q := (.iconst 4, 1, 0, 0, .null)) rfl (fun _ => rfl) (Nat.le_refl _) ?_
  refine q_al (n := 148) (v := (m.1 80 4)) H (pc := 13) rfl (by decide) (by decide) rfl ?_
  obtain ⟨c1, h⟩ := xif h
  refine q_as (n := 148) (s2 := (xu m 80 ((118 + v1) : Int32).toNatClampNeg (m.1 80 4))) H (pc := 14) rfl (by decide) c1 rfl ?_
  refine q_lr (k := 1) (i := 0) (q := (.aload_n 0, 1, 0, 0, .null)) rfl (fun _ => rfl) l0 ?_
  refine r_gr (c := 80) H (pc := 16) rfl (by decide) (by decide) ?_
  refine r_s (fr' := (20, lv, [.int 5, .ref 80])) (hp' := xW B (xu m 80 ((118 + v1) : Int32).toNatClampNeg (m.1 80 4))) (q := (.iconst 5, 1, 0, 0, .null)) rfl (fun _ => rfl) (Nat.le_refl _) ?_
  refine r_s (fr' := (21, lv, [.int 5, .ref 80, .int 5, .ref 80])) (hp' := xW B (xu m 80 ((118 + v1) : Int32).toNatClampNeg (m.1 80 4))) (q := (.dup2, 1, 0, 0, .null)) rfl (fun _ => rfl) (Nat.le_refl _) ?_
  refine q_al (n := 148) (v := ((xu m 80 ((118 + v1) : Int32).toNatClampNeg (m.1 80 4)).1 80 5)) H (pc := 21) rfl (by decide) (by decide) rfl ?_
  refine q_lr (k := 1) (i := 0) (q := (.aload_n 0, 1, 0, 0, .null)) rfl (fun _ => rfl) l0 ?_
  refine q_li (k := 1) (i := 1) (q := (.iload_n 1, 1, 0, 0, .null)) rfl (fun _ => rfl) l1 ?_
  refine r_s (fr' := (25, lv, [.int 3, .int v1, .ref 70, .int ((xu m 80 ((118 + v1) : Int32).toNatClampNeg (m.1 80 4)).1 80 5), .int 5, .ref 80])) (hp' := xW B (xu m 80 ((118 + v1) : Int32).toNatClampNeg (m.1 80 4))) (q := (.iconst 3, 1, 0, 0, .null)) rfl (fun _ => rfl) (Nat.le_refl _) ?_
  obtain ⟨q25, h25, h⟩ := xbind h
  refine r_call (ix := 70) (as := [.int v1, .int 3]) (rest := [.int ((xu m 80 ((118 + v1) : Int32).toNatClampNeg (m.1 80 4)).1 80 5), .int 5, .ref 80]) (rv := some (.int q25.1)) (hp' := xW B q25.2) (pc := 25) rfl xr209 rfl rfl rfl (xkd H (by decide)) (Nat.le_of_ble_eq_true rfl) (Z209 H h25 (by omega)) (Nat.le_refl _) ?_
  refine r_s (fr' := (29, lv, [.int (((xu m 80 ((118 + v1) : Int32).toNatClampNeg (m.1 80 4)).1 80 5) + q25.1), .int 5, .ref 80])) (hp' := xW B q25.2) (q := (.iadd, 1, 0, 0, .null)) rfl (fun _ => rfl) (Nat.le_refl _) ?_
  refine q_as (n := 148) (s2 := (xu q25.2 80 5 (((xu m 80 ((118 + v1) : Int32).toNatClampNeg (m.1 80 4)).1 80 5) + q25.1))) H (pc := 29) rfl (by decide) (by decide) rfl ?_
  refine q_lr (k := 1) (i := 0) (q := (.aload_n 0, 1, 0, 0, .null)) rfl (fun _ => rfl) l0 ?_
  refine q_li (k := 1) (i := 1) (q := (.iload_n 1, 1, 0, 0, .null)) rfl (fun _ => rfl) l1 ?_
  refine r_s (fr' := (33, lv, [.int 3, .int v1, .ref 70])) (hp' := xW B (xu q25.2 80 5 (((xu m 80 ((118 + v1) : Int32).toNatClampNeg (m.1 80 4)).1 80 5) + q25.1))) (q := (.iconst 3, 1, 0, 0, .null)) rfl (fun _ => rfl) (Nat.le_refl _) ?_
  obtain ⟨q33, h33, h⟩ := xbind h
  refine r_call (ix := 70) (as := [.int v1, .int 3]) (rest := []) (rv := some (.int q33.1)) (hp' := xW B q33.2) (pc := 33) rfl xr209 rfl rfl rfl (xkd H (by decide)) (Nat.le_of_ble_eq_true rfl) (Z209 H h33 (by omega)) (Nat.le_refl _) ?_
  obtain rfl := Option.some.inj h
  exact q_ri (q := (.ireturn, 1, 0, 0, .null)) rfl (fun _ => rfl) rfl rfl
set_option maxRecDepth 20000 in
theorem Z225 {B : zHp} (H : yH0 B) {F : Nat} {a1 : Int32} {m : xS} {x : Int32 × xS} (h : D225 F a1 m = some x) {d : Nat} (hd : 2 ≤ d) : zCan d 225 [.ref 70, .int a1] (xW B m) (some (.int x.1), xW B x.2) := by
  obtain ⟨e, rfl⟩ : ∃ e, d = e + 1 := ⟨d - 1, by omega⟩
  refine zCan_body (nL := 2) (rt := (some .int)) (cd := zc225) (xg225) ⟨Nat.le_of_ble_eq_true rfl, by decide⟩ (Nat.le_refl _) ?_
  exact T225 H hd F rfl rfl h
/-- LentToolsModel.does -/
def D228_16 (F : Nat) (v1 : Int32) (m : xS) : Option (Int32 × xS) :=
  some ((-1), m)
set_option maxRecDepth 20000 in
theorem T228_16 {B : zHp} (H : yH0 B) {e : Nat} (he : 6 ≤ e + 1) (F : Nat) {v1 : Int32} {lv : List (Nat × Value)} {m : xS} {x : Int32 × xS} (l0 : zld lv 0 = some (.ref 70)) (l1 : zld lv 1 = some (.int v1)) (h : D228_16 F v1 m = some x) : zR none e 2 (some .int) zc228 (16, lv, []) (xW B m) (some (.int x.1), xW B x.2) := by
  unfold D228_16 at h
  refine r_s (fr' := (17, lv, [.int (-1)])) (hp' := xW B m) (q := (.iconst (-1), 1, 0, 0, .null)) rfl (fun _ => rfl) (Nat.le_refl _) ?_
  obtain rfl := Option.some.inj h
  exact q_ri (q := (.ireturn, 1, 0, 0, .null)) rfl (fun _ => rfl) rfl rfl
def D228 (F : Nat) (v1 : Int32) (m : xS) : Option (Int32 × xS) :=
  (D207 F v1 m).bind fun q2 =>
    if zcmp .eq q2.1 0 = true then
      D228_16 F v1 q2.2
    else
      (D216 F v1 q2.2).bind fun q10 =>
        if zcmp .ne q10.1 0 = true then
          (D220 F q10.2).bind fun q19 =>
            (D225 F v1 q19.2).bind fun q24 =>
              some (q24.1, q24.2)
        else
          D228_16 F v1 q10.2
set_option maxRecDepth 20000 in
theorem T228 {B : zHp} (H : yH0 B) {e : Nat} (he : 6 ≤ e + 1) (F : Nat) {v1 : Int32} {lv : List (Nat × Value)} {m : xS} {x : Int32 × xS} (l0 : zld lv 0 = some (.ref 70)) (l1 : zld lv 1 = some (.int v1)) (h : D228 F v1 m = some x) : zR none e 2 (some .int) zc228 (0, lv, []) (xW B m) (some (.int x.1), xW B x.2) := by
  unfold D228 at h
  refine q_lr (k := 1) (i := 0) (q := (.aload_n 0, 1, 0, 0, .null)) rfl (fun _ => rfl) l0 ?_
  refine q_li (k := 1) (i := 1) (q := (.iload_n 1, 1, 0, 0, .null)) rfl (fun _ => rfl) l1 ?_
  obtain ⟨q2, h2, h⟩ := xbind h
  refine r_call (ix := 70) (as := [.int v1]) (rest := []) (rv := some (.int q2.1)) (hp' := xW B q2.2) (pc := 2) rfl xr207 rfl rfl rfl (xkd H (by decide)) (Nat.le_of_ble_eq_true rfl) (Z207 H h2 (by omega)) (Nat.le_refl _) ?_
  refine r_if (len := 3) (a := 16) (b := 0) (v0 := .null) (cn := .eq) (off := 11) rfl (fun c => ?_) (fun c => ?_)
  · rw [if_pos c] at h
    exact T228_16 H he F l0 l1 h
  · rw [if_neg (by rw [c]; decide)] at h
    refine q_lr (k := 1) (i := 0) (q := (.aload_n 0, 1, 0, 0, .null)) rfl (fun _ => rfl) l0 ?_
    refine q_li (k := 1) (i := 1) (q := (.iload_n 1, 1, 0, 0, .null)) rfl (fun _ => rfl) l1 ?_
    obtain ⟨q10, h10, h⟩ := xbind h
    refine r_call (ix := 70) (as := [.int v1]) (rest := []) (rv := some (.int q10.1)) (hp' := xW B q10.2) (pc := 10) rfl xr216 rfl rfl rfl (xkd H (by decide)) (Nat.le_of_ble_eq_true rfl) (Z216 H h10 (by omega)) (Nat.le_refl _) ?_
    refine r_if (len := 3) (a := 18) (b := 0) (v0 := .null) (cn := .ne) (off := 5) rfl (fun c => ?_) (fun c => ?_)
    · rw [if_pos c] at h
      refine q_lr (k := 1) (i := 0) (q := (.aload_n 0, 1, 0, 0, .null)) rfl (fun _ => rfl) l0 ?_
      obtain ⟨q19, h19, h⟩ := xbind h
      refine r_call (ix := 70) (as := []) (rest := []) (rv := none) (hp' := xW B q19.2) (pc := 19) rfl xr220 rfl rfl rfl (xkd H (by decide)) (Nat.le_of_ble_eq_true rfl) (Z220 H h19 (by omega)) (Nat.le_refl _) ?_
      refine q_lr (k := 1) (i := 0) (q := (.aload_n 0, 1, 0, 0, .null)) rfl (fun _ => rfl) l0 ?_
      refine q_li (k := 1) (i := 1) (q := (.iload_n 1, 1, 0, 0, .null)) rfl (fun _ => rfl) l1 ?_
      obtain ⟨q24, h24, h⟩ := xbind h
      refine r_call (ix := 70) (as := [.int v1]) (rest := []) (rv := some (.int q24.1)) (hp' := xW B q24.2) (pc := 24) rfl xr225 rfl rfl rfl (xkd H (by decide)) (Nat.le_of_ble_eq_true rfl) (Z225 H h24 (by omega)) (Nat.le_refl _) ?_
      obtain rfl := Option.some.inj h
      exact q_ri (q := (.ireturn, 1, 0, 0, .null)) rfl (fun _ => rfl) rfl rfl
    · rw [if_neg (by rw [c]; decide)] at h
      exact T228_16 H he F l0 l1 h
set_option maxRecDepth 20000 in
theorem Z228 {B : zHp} (H : yH0 B) {F : Nat} {a1 : Int32} {m : xS} {x : Int32 × xS} (h : D228 F a1 m = some x) {d : Nat} (hd : 6 ≤ d) : zCan d 228 [.ref 70, .int a1] (xW B m) (some (.int x.1), xW B x.2) := by
  obtain ⟨e, rfl⟩ : ∃ e, d = e + 1 := ⟨d - 1, by omega⟩
  refine zCan_body (nL := 2) (rt := (some .int)) (cd := zc228) (xg228) ⟨Nat.le_of_ble_eq_true rfl, by decide⟩ (Nat.le_refl _) ?_
  exact T228 H hd F rfl rfl h
/-- LentToolsModel.parts -/
def D229 (F : Nat) (v1 : Int32) (v2 : Int32) (m : xS) : Option (Unit × xS) :=
  if xib ((46 + (6 * v1)) + v2) 148 = true then
    if xib ((46 + (6 * v2)) + v1) 148 = true then
      some ((), (xu (xu m 80 (((46 + (6 * v1)) + v2) : Int32).toNatClampNeg 0) 80 (((46 + (6 * v2)) + v1) : Int32).toNatClampNeg 0))
    else none
  else none
set_option maxRecDepth 20000 in
theorem T229 {B : zHp} (H : yH0 B) {e : Nat} (he : 1 ≤ e + 1) (F : Nat) {v1 : Int32} {v2 : Int32} {lv : List (Nat × Value)} {m : xS} {x : Unit × xS} (l0 : zld lv 0 = some (.ref 70)) (l1 : zld lv 1 = some (.int v1)) (l2 : zld lv 2 = some (.int v2)) (h : D229 F v1 v2 m = some x) : zR none e 3 none zc229 (0, lv, []) (xW B m) (none, xW B x.2) := by
  unfold D229 at h
  refine q_lr (k := 1) (i := 0) (q := (.aload_n 0, 1, 0, 0, .null)) rfl (fun _ => rfl) l0 ?_
  refine r_gr (c := 80) H (pc := 1) rfl (by decide) (by decide) ?_
  refine r_s (fr' := (6, lv, [.int 46, .ref 80])) (hp' := xW B m) (q := (.bipush 46, 2, 0, 0, .null)) rfl (fun _ => rfl) (Nat.le_refl _) ?_
  refine r_s (fr' := (8, lv, [.int 6, .int 46, .ref 80])) (hp' := xW B m) (q := (.bipush 6, 2, 0, 0, .null)) rfl (fun _ => rfl) (Nat.le_refl _) ?_
  refine q_li (k := 1) (i := 1) (q := (.iload_n 1, 1, 0, 0, .null)) rfl (fun _ => rfl) l1 ?_
  refine r_s (fr' := (10, lv, [.int (6 * v1), .int 46, .ref 80])) (hp' := xW B m) (q := (.imul, 1, 0, 0, .null)) rfl (fun _ => rfl) (Nat.le_refl _) ?_
  refine r_s (fr' := (11, lv, [.int (46 + (6 * v1)), .ref 80])) (hp' := xW B m) (q := (.iadd, 1, 0, 0, .null)) rfl (fun _ => rfl) (Nat.le_refl _) ?_
  refine q_li (k := 1) (i := 2) (q := (.iload_n 2, 1, 0, 0, .null)) rfl (fun _ => rfl) l2 ?_
  refine r_s (fr' := (13, lv, [.int ((46 + (6 * v1)) + v2), .ref 80])) (hp' := xW B m) (q := (.iadd, 1, 0, 0, .null)) rfl (fun _ => rfl) (Nat.le_refl _) ?_
  refine r_s (fr' := (14, lv, [.int 0, .int ((46 + (6 * v1)) + v2), .ref 80])) (hp' := xW B m) (q := (.iconst 0, 1, 0, 0, .null)) rfl (fun _ => rfl) (Nat.le_refl _) ?_
  obtain ⟨c1, h⟩ := xif h
  refine q_as (n := 148) (s2 := (xu m 80 (((46 + (6 * v1)) + v2) : Int32).toNatClampNeg 0)) H (pc := 14) rfl (by decide) c1 rfl ?_
  refine q_lr (k := 1) (i := 0) (q := (.aload_n 0, 1, 0, 0, .null)) rfl (fun _ => rfl) l0 ?_
  refine r_gr (c := 80) H (pc := 16) rfl (by decide) (by decide) ?_
  refine r_s (fr' := (21, lv, [.int 46, .ref 80])) (hp' := xW B (xu m 80 (((46 + (6 * v1)) + v2) : Int32).toNatClampNeg 0)) (q := (.bipush 46, 2, 0, 0, .null)) rfl (fun _ => rfl) (Nat.le_refl _) ?_
  refine r_s (fr' := (23, lv, [.int 6, .int 46, .ref 80])) (hp' := xW B (xu m 80 (((46 + (6 * v1)) + v2) : Int32).toNatClampNeg 0)) (q := (.bipush 6, 2, 0, 0, .null)) rfl (fun _ => rfl) (Nat.le_refl _) ?_
  refine q_li (k := 1) (i := 2) (q := (.iload_n 2, 1, 0, 0, .null)) rfl (fun _ => rfl) l2 ?_
  refine r_s (fr' := (25, lv, [.int (6 * v2), .int 46, .ref 80])) (hp' := xW B (xu m 80 (((46 + (6 * v1)) + v2) : Int32).toNatClampNeg 0)) (q := (.imul, 1, 0, 0, .null)) rfl (fun _ => rfl) (Nat.le_refl _) ?_
  refine r_s (fr' := (26, lv, [.int (46 + (6 * v2)), .ref 80])) (hp' := xW B (xu m 80 (((46 + (6 * v1)) + v2) : Int32).toNatClampNeg 0)) (q := (.iadd, 1, 0, 0, .null)) rfl (fun _ => rfl) (Nat.le_refl _) ?_
  refine q_li (k := 1) (i := 1) (q := (.iload_n 1, 1, 0, 0, .null)) rfl (fun _ => rfl) l1 ?_
  refine r_s (fr' := (28, lv, [.int ((46 + (6 * v2)) + v1), .ref 80])) (hp' := xW B (xu m 80 (((46 + (6 * v1)) + v2) : Int32).toNatClampNeg 0)) (q := (.iadd, 1, 0, 0, .null)) rfl (fun _ => rfl) (Nat.le_refl _) ?_
  refine r_s (fr' := (29, lv, [.int 0, .int ((46 + (6 * v2)) + v1), .ref 80])) (hp' := xW B (xu m 80 (((46 + (6 * v1)) + v2) : Int32).toNatClampNeg 0)) (q := (.iconst 0, 1, 0, 0, .null)) rfl (fun _ => rfl) (Nat.le_refl _) ?_
  obtain ⟨c2, h⟩ := xif h
  refine q_as (n := 148) (s2 := (xu (xu m 80 (((46 + (6 * v1)) + v2) : Int32).toNatClampNeg 0) 80 (((46 + (6 * v2)) + v1) : Int32).toNatClampNeg 0)) H (pc := 29) rfl (by decide) c2 rfl ?_
  obtain rfl := Option.some.inj h
  exact r_ret (q := (.return_, 1, 0, 0, .null)) rfl rfl (fun _ => rfl)
set_option maxRecDepth 20000 in
theorem Z229 {B : zHp} (H : yH0 B) {F : Nat} {a1 : Int32} {a2 : Int32} {m : xS} {x : Unit × xS} (h : D229 F a1 a2 m = some x) {d : Nat} (hd : 1 ≤ d) : zCan d 229 [.ref 70, .int a1, .int a2] (xW B m) (none, xW B x.2) := by
  obtain ⟨e, rfl⟩ : ∃ e, d = e + 1 := ⟨d - 1, by omega⟩
  refine zCan_body (nL := 3) (rt := none) (cd := zc229) (xg229) ⟨Nat.le_of_ble_eq_true rfl, by decide⟩ (Nat.le_refl _) ?_
  exact T229 H hd F rfl rfl rfl h
/-- LentToolsModel.quarrel -/
def D230_39 (F : Nat) (v1 : Int32) (v2 : Int32) (m : xS) : Option (Int32 × xS) :=
  some (0, m)
set_option maxRecDepth 20000 in
theorem T230_39 {B : zHp} (H : yH0 B) {e : Nat} (he : 2 ≤ e + 1) (F : Nat) {v1 : Int32} {v2 : Int32} {lv : List (Nat × Value)} {m : xS} {x : Int32 × xS} (l0 : zld lv 0 = some (.ref 70)) (l1 : zld lv 1 = some (.int v1)) (l2 : zld lv 2 = some (.int v2)) (h : D230_39 F v1 v2 m = some x) : zR none e 3 (some .boolean) zc230 (39, lv, []) (xW B m) (some (.int x.1), xW B x.2) := by
  unfold D230_39 at h
  refine r_s (fr' := (40, lv, [.int 0])) (hp' := xW B m) (q := (.iconst 0, 1, 0, 0, .null)) rfl (fun _ => rfl) (Nat.le_refl _) ?_
  obtain rfl := Option.some.inj h
  exact q_ri (q := (.ireturn, 1, 0, 0, .null)) rfl (fun _ => rfl) rfl rfl
def D230_41 (F : Nat) (v1 : Int32) (v2 : Int32) (m : xS) : Option (Int32 × xS) :=
  (D220 F m).bind fun q42 =>
    (D229 F v1 v2 q42.2).bind fun q48 =>
      some (1, q48.2)
set_option maxRecDepth 20000 in
theorem T230_41 {B : zHp} (H : yH0 B) {e : Nat} (he : 2 ≤ e + 1) (F : Nat) {v1 : Int32} {v2 : Int32} {lv : List (Nat × Value)} {m : xS} {x : Int32 × xS} (l0 : zld lv 0 = some (.ref 70)) (l1 : zld lv 1 = some (.int v1)) (l2 : zld lv 2 = some (.int v2)) (h : D230_41 F v1 v2 m = some x) : zR none e 3 (some .boolean) zc230 (41, lv, []) (xW B m) (some (.int x.1), xW B x.2) := by
  unfold D230_41 at h
  refine q_lr (k := 1) (i := 0) (q := (.aload_n 0, 1, 0, 0, .null)) rfl (fun _ => rfl) l0 ?_
  obtain ⟨q42, h42, h⟩ := xbind h
  refine r_call (ix := 70) (as := []) (rest := []) (rv := none) (hp' := xW B q42.2) (pc := 42) rfl xr220 rfl rfl rfl (xkd H (by decide)) (Nat.le_of_ble_eq_true rfl) (Z220 H h42 (by omega)) (Nat.le_refl _) ?_
  refine q_lr (k := 1) (i := 0) (q := (.aload_n 0, 1, 0, 0, .null)) rfl (fun _ => rfl) l0 ?_
  refine q_li (k := 1) (i := 1) (q := (.iload_n 1, 1, 0, 0, .null)) rfl (fun _ => rfl) l1 ?_
  refine q_li (k := 1) (i := 2) (q := (.iload_n 2, 1, 0, 0, .null)) rfl (fun _ => rfl) l2 ?_
  obtain ⟨q48, h48, h⟩ := xbind h
  refine r_call (ix := 70) (as := [.int v1, .int v2]) (rest := []) (rv := none) (hp' := xW B q48.2) (pc := 48) rfl xr229 rfl rfl rfl (xkd H (by decide)) (Nat.le_of_ble_eq_true rfl) (Z229 H h48 (by omega)) (Nat.le_refl _) ?_
  refine r_s (fr' := (52, lv, [.int 1])) (hp' := xW B q48.2) (q := (.iconst 1, 1, 0, 0, .null)) rfl (fun _ => rfl) (Nat.le_refl _) ?_
  obtain rfl := Option.some.inj h
  exact q_ri (q := (.ireturn, 1, 0, 0, .null)) rfl (fun _ => rfl) rfl rfl
def D230 (F : Nat) (v1 : Int32) (v2 : Int32) (m : xS) : Option (Int32 × xS) :=
  (D205 F v1 m).bind fun q2 =>
    if zcmp .eq q2.1 0 = true then
      D230_39 F v1 v2 q2.2
    else
      (D205 F v2 q2.2).bind fun q10 =>
        if zcmp .eq q10.1 0 = true then
          D230_39 F v1 v2 q10.2
        else
          if zcmp .eq v1 v2 = true then
            D230_39 F v1 v2 q10.2
          else
            (D210 F v1 v2 q10.2).bind fun q24 =>
              if zcmp .ne q24.1 0 = true then
                D230_41 F v1 v2 q24.2
              else
                (D210 F v2 v1 q24.2).bind fun q33 =>
                  if zcmp .ne q33.1 0 = true then
                    D230_41 F v1 v2 q33.2
                  else
                    D230_39 F v1 v2 q33.2
set_option maxRecDepth 20000 in
theorem T230 {B : zHp} (H : yH0 B) {e : Nat} (he : 2 ≤ e + 1) (F : Nat) {v1 : Int32} {v2 : Int32} {lv : List (Nat × Value)} {m : xS} {x : Int32 × xS} (l0 : zld lv 0 = some (.ref 70)) (l1 : zld lv 1 = some (.int v1)) (l2 : zld lv 2 = some (.int v2)) (h : D230 F v1 v2 m = some x) : zR none e 3 (some .boolean) zc230 (0, lv, []) (xW B m) (some (.int x.1), xW B x.2) := by
  unfold D230 at h
  refine q_lr (k := 1) (i := 0) (q := (.aload_n 0, 1, 0, 0, .null)) rfl (fun _ => rfl) l0 ?_
  refine q_li (k := 1) (i := 1) (q := (.iload_n 1, 1, 0, 0, .null)) rfl (fun _ => rfl) l1 ?_
  obtain ⟨q2, h2, h⟩ := xbind h
  refine r_call (ix := 70) (as := [.int v1]) (rest := []) (rv := some (.int q2.1)) (hp' := xW B q2.2) (pc := 2) rfl xr205 rfl rfl rfl (xkd H (by decide)) (Nat.le_of_ble_eq_true rfl) (Z205 H h2 (by omega)) (Nat.le_refl _) ?_
  refine r_if (len := 3) (a := 39) (b := 0) (v0 := .null) (cn := .eq) (off := 34) rfl (fun c => ?_) (fun c => ?_)
  · rw [if_pos c] at h
    exact T230_39 H he F l0 l1 l2 h
  · rw [if_neg (by rw [c]; decide)] at h
    refine q_lr (k := 1) (i := 0) (q := (.aload_n 0, 1, 0, 0, .null)) rfl (fun _ => rfl) l0 ?_
    refine q_li (k := 1) (i := 2) (q := (.iload_n 2, 1, 0, 0, .null)) rfl (fun _ => rfl) l2 ?_
    obtain ⟨q10, h10, h⟩ := xbind h
    refine r_call (ix := 70) (as := [.int v2]) (rest := []) (rv := some (.int q10.1)) (hp' := xW B q10.2) (pc := 10) rfl xr205 rfl rfl rfl (xkd H (by decide)) (Nat.le_of_ble_eq_true rfl) (Z205 H h10 (by omega)) (Nat.le_refl _) ?_
    refine r_if (len := 3) (a := 39) (b := 0) (v0 := .null) (cn := .eq) (off := 26) rfl (fun c => ?_) (fun c => ?_)
    · rw [if_pos c] at h
      exact T230_39 H he F l0 l1 l2 h
    · rw [if_neg (by rw [c]; decide)] at h
      refine q_li (k := 1) (i := 1) (q := (.iload_n 1, 1, 0, 0, .null)) rfl (fun _ => rfl) l1 ?_
      refine q_li (k := 1) (i := 2) (q := (.iload_n 2, 1, 0, 0, .null)) rfl (fun _ => rfl) l2 ?_
      refine r_ifc (len := 3) (a := 39) (b := 0) (v0 := .null) (cn := .eq) (off := 21) rfl (fun c => ?_) (fun c => ?_)
      · rw [if_pos c] at h
        exact T230_39 H he F l0 l1 l2 h
      · rw [if_neg (by rw [c]; decide)] at h
        refine q_lr (k := 1) (i := 0) (q := (.aload_n 0, 1, 0, 0, .null)) rfl (fun _ => rfl) l0 ?_
        refine q_li (k := 1) (i := 1) (q := (.iload_n 1, 1, 0, 0, .null)) rfl (fun _ => rfl) l1 ?_
        refine q_li (k := 1) (i := 2) (q := (.iload_n 2, 1, 0, 0, .null)) rfl (fun _ => rfl) l2 ?_
        obtain ⟨q24, h24, h⟩ := xbind h
        refine r_call (ix := 70) (as := [.int v1, .int v2]) (rest := []) (rv := some (.int q24.1)) (hp' := xW B q24.2) (pc := 24) rfl xr210 rfl rfl rfl (xkd H (by decide)) (Nat.le_of_ble_eq_true rfl) (Z210 H h24 (by omega)) (Nat.le_refl _) ?_
        refine r_if (len := 3) (a := 41) (b := 0) (v0 := .null) (cn := .ne) (off := 14) rfl (fun c => ?_) (fun c => ?_)
        · rw [if_pos c] at h
          exact T230_41 H he F l0 l1 l2 h
        · rw [if_neg (by rw [c]; decide)] at h
          refine q_lr (k := 1) (i := 0) (q := (.aload_n 0, 1, 0, 0, .null)) rfl (fun _ => rfl) l0 ?_
          refine q_li (k := 1) (i := 2) (q := (.iload_n 2, 1, 0, 0, .null)) rfl (fun _ => rfl) l2 ?_
          refine q_li (k := 1) (i := 1) (q := (.iload_n 1, 1, 0, 0, .null)) rfl (fun _ => rfl) l1 ?_
          obtain ⟨q33, h33, h⟩ := xbind h
          refine r_call (ix := 70) (as := [.int v2, .int v1]) (rest := []) (rv := some (.int q33.1)) (hp' := xW B q33.2) (pc := 33) rfl xr210 rfl rfl rfl (xkd H (by decide)) (Nat.le_of_ble_eq_true rfl) (Z210 H h33 (by omega)) (Nat.le_refl _) ?_
          refine r_if (len := 3) (a := 41) (b := 0) (v0 := .null) (cn := .ne) (off := 5) rfl (fun c => ?_) (fun c => ?_)
          · rw [if_pos c] at h
            exact T230_41 H he F l0 l1 l2 h
          · rw [if_neg (by rw [c]; decide)] at h
            exact T230_39 H he F l0 l1 l2 h
set_option maxRecDepth 20000 in
theorem Z230 {B : zHp} (H : yH0 B) {F : Nat} {a1 : Int32} {a2 : Int32} {m : xS} {x : Int32 × xS} (h : D230 F a1 a2 m = some x) {d : Nat} (hd : 2 ≤ d) : zCan d 230 [.ref 70, .int a1, .int a2] (xW B m) (some (.int x.1), xW B x.2) := by
  obtain ⟨e, rfl⟩ : ∃ e, d = e + 1 := ⟨d - 1, by omega⟩
  refine zCan_body (nL := 3) (rt := (some .boolean)) (cd := zc230) (xg230) ⟨Nat.le_of_ble_eq_true rfl, by decide⟩ (Nat.le_refl _) ?_
  exact T230 H hd F rfl rfl rfl h
/-- LentToolsModel.isGiven -/
def D231 (F : Nat) (v1 : Int32) (v2 : Int32) (m : xS) : Option (Unit × xS) :=
  if xib (10 + (6 * v1)) 148 = true then
    (D224 F v1 (xu m 80 ((10 + (6 * v1)) : Int32).toNatClampNeg v2)).bind fun q15 =>
      some ((), q15.2)
  else none
set_option maxRecDepth 20000 in
theorem T231 {B : zHp} (H : yH0 B) {e : Nat} (he : 3 ≤ e + 1) (F : Nat) {v1 : Int32} {v2 : Int32} {lv : List (Nat × Value)} {m : xS} {x : Unit × xS} (l0 : zld lv 0 = some (.ref 70)) (l1 : zld lv 1 = some (.int v1)) (l2 : zld lv 2 = some (.int v2)) (h : D231 F v1 v2 m = some x) : zR none e 3 none zc231 (0, lv, []) (xW B m) (none, xW B x.2) := by
  unfold D231 at h
  refine q_lr (k := 1) (i := 0) (q := (.aload_n 0, 1, 0, 0, .null)) rfl (fun _ => rfl) l0 ?_
  refine r_gr (c := 80) H (pc := 1) rfl (by decide) (by decide) ?_
  refine r_s (fr' := (6, lv, [.int 10, .ref 80])) (hp' := xW B m) (q := (.bipush 10, 2, 0, 0, .null)) rfl (fun _ => rfl) (Nat.le_refl _) ?_
  refine r_s (fr' := (8, lv, [.int 6, .int 10, .ref 80])) (hp' := xW B m) (q := (.bipush 6, 2, 0, 0, .null)) rfl (fun _ => rfl) (Nat.le_refl _) ?_
  refine q_li (k := 1) (i := 1) (q := (.iload_n 1, 1, 0, 0, .null)) rfl (fun _ => rfl) l1 ?_
  refine r_s (fr' := (10, lv, [.int (6 * v1), .int 10, .ref 80])) (hp' := xW B m) (q := (.imul, 1, 0, 0, .null)) rfl (fun _ => rfl) (Nat.le_refl _) ?_
  refine r_s (fr' := (11, lv, [.int (10 + (6 * v1)), .ref 80])) (hp' := xW B m) (q := (.iadd, 1, 0, 0, .null)) rfl (fun _ => rfl) (Nat.le_refl _) ?_
  refine q_li (k := 1) (i := 2) (q := (.iload_n 2, 1, 0, 0, .null)) rfl (fun _ => rfl) l2 ?_
  obtain ⟨c1, h⟩ := xif h
  refine q_as (n := 148) (s2 := (xu m 80 ((10 + (6 * v1)) : Int32).toNatClampNeg v2)) H (pc := 12) rfl (by decide) c1 rfl ?_
  refine q_lr (k := 1) (i := 0) (q := (.aload_n 0, 1, 0, 0, .null)) rfl (fun _ => rfl) l0 ?_
  refine q_li (k := 1) (i := 1) (q := (.iload_n 1, 1, 0, 0, .null)) rfl (fun _ => rfl) l1 ?_
  obtain ⟨q15, h15, h⟩ := xbind h
  refine r_call (ix := 70) (as := [.int v1]) (rest := []) (rv := none) (hp' := xW B q15.2) (pc := 15) rfl xr224 rfl rfl rfl (xkd H (by decide)) (Nat.le_of_ble_eq_true rfl) (Z224 H h15 (by omega)) (Nat.le_refl _) ?_
  obtain rfl := Option.some.inj h
  exact r_ret (q := (.return_, 1, 0, 0, .null)) rfl rfl (fun _ => rfl)
set_option maxRecDepth 20000 in
theorem Z231 {B : zHp} (H : yH0 B) {F : Nat} {a1 : Int32} {a2 : Int32} {m : xS} {x : Unit × xS} (h : D231 F a1 a2 m = some x) {d : Nat} (hd : 3 ≤ d) : zCan d 231 [.ref 70, .int a1, .int a2] (xW B m) (none, xW B x.2) := by
  obtain ⟨e, rfl⟩ : ∃ e, d = e + 1 := ⟨d - 1, by omega⟩
  refine zCan_body (nL := 3) (rt := none) (cd := zc231) (xg231) ⟨Nat.le_of_ble_eq_true rfl, by decide⟩ (Nat.le_refl _) ?_
  exact T231 H hd F rfl rfl rfl h
/-- LentToolsModel.gift -/
def D232_26 (F : Nat) (v1 : Int32) (v2 : Int32) (m : xS) : Option (Int32 × xS) :=
  some ((-1), m)
set_option maxRecDepth 20000 in
theorem T232_26 {B : zHp} (H : yH0 B) {e : Nat} (he : 4 ≤ e + 1) (F : Nat) {v1 : Int32} {v2 : Int32} {lv : List (Nat × Value)} {m : xS} {x : Int32 × xS} (l0 : zld lv 0 = some (.ref 70)) (l1 : zld lv 1 = some (.int v1)) (l2 : zld lv 2 = some (.int v2)) (h : D232_26 F v1 v2 m = some x) : zR none e 4 (some .int) zc232 (26, lv, []) (xW B m) (some (.int x.1), xW B x.2) := by
  unfold D232_26 at h
  refine r_s (fr' := (27, lv, [.int (-1)])) (hp' := xW B m) (q := (.iconst (-1), 1, 0, 0, .null)) rfl (fun _ => rfl) (Nat.le_refl _) ?_
  obtain rfl := Option.some.inj h
  exact q_ri (q := (.ireturn, 1, 0, 0, .null)) rfl (fun _ => rfl) rfl rfl
def D232 (F : Nat) (v1 : Int32) (v2 : Int32) (m : xS) : Option (Int32 × xS) :=
  (D206 F v1 m).bind fun q2 =>
    if zcmp .eq q2.1 0 = true then
      D232_26 F v1 v2 q2.2
    else
      (D205 F v2 q2.2).bind fun q10 =>
        if zcmp .eq q10.1 0 = true then
          D232_26 F v1 v2 q10.2
        else
          (D208 F v1 0 q10.2).bind fun q19 =>
            if zcmp .ne q19.1 v2 = true then
              (D220 F q19.2).bind fun q29 =>
                (D208 F v1 0 q29.2).bind fun q35 =>
                  (D231 F v1 v2 q35.2).bind fun q42 =>
                    some (q35.1, q42.2)
            else
              D232_26 F v1 v2 q19.2
set_option maxRecDepth 20000 in
theorem T232 {B : zHp} (H : yH0 B) {e : Nat} (he : 4 ≤ e + 1) (F : Nat) {v1 : Int32} {v2 : Int32} {lv : List (Nat × Value)} {m : xS} {x : Int32 × xS} (l0 : zld lv 0 = some (.ref 70)) (l1 : zld lv 1 = some (.int v1)) (l2 : zld lv 2 = some (.int v2)) (h : D232 F v1 v2 m = some x) : zR none e 4 (some .int) zc232 (0, lv, []) (xW B m) (some (.int x.1), xW B x.2) := by
  unfold D232 at h
  refine q_lr (k := 1) (i := 0) (q := (.aload_n 0, 1, 0, 0, .null)) rfl (fun _ => rfl) l0 ?_
  refine q_li (k := 1) (i := 1) (q := (.iload_n 1, 1, 0, 0, .null)) rfl (fun _ => rfl) l1 ?_
  obtain ⟨q2, h2, h⟩ := xbind h
  refine r_call (ix := 70) (as := [.int v1]) (rest := []) (rv := some (.int q2.1)) (hp' := xW B q2.2) (pc := 2) rfl xr206 rfl rfl rfl (xkd H (by decide)) (Nat.le_of_ble_eq_true rfl) (Z206 H h2 (by omega)) (Nat.le_refl _) ?_
  refine r_if (len := 3) (a := 26) (b := 0) (v0 := .null) (cn := .eq) (off := 21) rfl (fun c => ?_) (fun c => ?_)
  · rw [if_pos c] at h
    exact T232_26 H he F l0 l1 l2 h
  · rw [if_neg (by rw [c]; decide)] at h
    refine q_lr (k := 1) (i := 0) (q := (.aload_n 0, 1, 0, 0, .null)) rfl (fun _ => rfl) l0 ?_
    refine q_li (k := 1) (i := 2) (q := (.iload_n 2, 1, 0, 0, .null)) rfl (fun _ => rfl) l2 ?_
    obtain ⟨q10, h10, h⟩ := xbind h
    refine r_call (ix := 70) (as := [.int v2]) (rest := []) (rv := some (.int q10.1)) (hp' := xW B q10.2) (pc := 10) rfl xr205 rfl rfl rfl (xkd H (by decide)) (Nat.le_of_ble_eq_true rfl) (Z205 H h10 (by omega)) (Nat.le_refl _) ?_
    refine r_if (len := 3) (a := 26) (b := 0) (v0 := .null) (cn := .eq) (off := 13) rfl (fun c => ?_) (fun c => ?_)
    · rw [if_pos c] at h
      exact T232_26 H he F l0 l1 l2 h
    · rw [if_neg (by rw [c]; decide)] at h
      refine q_lr (k := 1) (i := 0) (q := (.aload_n 0, 1, 0, 0, .null)) rfl (fun _ => rfl) l0 ?_
      refine q_li (k := 1) (i := 1) (q := (.iload_n 1, 1, 0, 0, .null)) rfl (fun _ => rfl) l1 ?_
      refine r_s (fr' := (19, lv, [.int 0, .int v1, .ref 70])) (hp' := xW B q10.2) (q := (.iconst 0, 1, 0, 0, .null)) rfl (fun _ => rfl) (Nat.le_refl _) ?_
      obtain ⟨q19, h19, h⟩ := xbind h
      refine r_call (ix := 70) (as := [.int v1, .int 0]) (rest := []) (rv := some (.int q19.1)) (hp' := xW B q19.2) (pc := 19) rfl xr208 rfl rfl rfl (xkd H (by decide)) (Nat.le_of_ble_eq_true rfl) (Z208 H h19 (by omega)) (Nat.le_refl _) ?_
      refine q_li (k := 1) (i := 2) (q := (.iload_n 2, 1, 0, 0, .null)) rfl (fun _ => rfl) l2 ?_
      refine r_ifc (len := 3) (a := 28) (b := 0) (v0 := .null) (cn := .ne) (off := 5) rfl (fun c => ?_) (fun c => ?_)
      · rw [if_pos c] at h
        refine q_lr (k := 1) (i := 0) (q := (.aload_n 0, 1, 0, 0, .null)) rfl (fun _ => rfl) l0 ?_
        obtain ⟨q29, h29, h⟩ := xbind h
        refine r_call (ix := 70) (as := []) (rest := []) (rv := none) (hp' := xW B q29.2) (pc := 29) rfl xr220 rfl rfl rfl (xkd H (by decide)) (Nat.le_of_ble_eq_true rfl) (Z220 H h29 (by omega)) (Nat.le_refl _) ?_
        refine q_lr (k := 1) (i := 0) (q := (.aload_n 0, 1, 0, 0, .null)) rfl (fun _ => rfl) l0 ?_
        refine q_li (k := 1) (i := 1) (q := (.iload_n 1, 1, 0, 0, .null)) rfl (fun _ => rfl) l1 ?_
        refine r_s (fr' := (35, lv, [.int 0, .int v1, .ref 70])) (hp' := xW B q29.2) (q := (.iconst 0, 1, 0, 0, .null)) rfl (fun _ => rfl) (Nat.le_refl _) ?_
        obtain ⟨q35, h35, h⟩ := xbind h
        refine r_call (ix := 70) (as := [.int v1, .int 0]) (rest := []) (rv := some (.int q35.1)) (hp' := xW B q35.2) (pc := 35) rfl xr208 rfl rfl rfl (xkd H (by decide)) (Nat.le_of_ble_eq_true rfl) (Z208 H h35 (by omega)) (Nat.le_refl _) ?_
        refine q_si (k := 1) (i := 3) (q := (.istore_n 3, 1, 0, 0, .null)) rfl (fun _ => rfl) (by decide) ?_
        have l0_1 : zld (zs1 lv 3 (.int q35.1)) 0 = some (.ref 70) := x_o1 l0 rfl rfl
        have l1_1 : zld (zs1 lv 3 (.int q35.1)) 1 = some (.int v1) := x_o1 l1 rfl rfl
        have l2_1 : zld (zs1 lv 3 (.int q35.1)) 2 = some (.int v2) := x_o1 l2 rfl rfl
        have l3_1 : zld (zs1 lv 3 (.int q35.1)) 3 = some (.int q35.1) := zs1_ld _ _ _
        generalize (zs1 lv 3 (.int q35.1)) = lv1 at *
        refine q_lr (k := 1) (i := 0) (q := (.aload_n 0, 1, 0, 0, .null)) rfl (fun _ => rfl) l0_1 ?_
        refine q_li (k := 1) (i := 1) (q := (.iload_n 1, 1, 0, 0, .null)) rfl (fun _ => rfl) l1_1 ?_
        refine q_li (k := 1) (i := 2) (q := (.iload_n 2, 1, 0, 0, .null)) rfl (fun _ => rfl) l2_1 ?_
        obtain ⟨q42, h42, h⟩ := xbind h
        refine r_call (ix := 70) (as := [.int v1, .int v2]) (rest := []) (rv := none) (hp' := xW B q42.2) (pc := 42) rfl xr231 rfl rfl rfl (xkd H (by decide)) (Nat.le_of_ble_eq_true rfl) (Z231 H h42 (by omega)) (Nat.le_refl _) ?_
        refine q_li (k := 1) (i := 3) (q := (.iload_n 3, 1, 0, 0, .null)) rfl (fun _ => rfl) l3_1 ?_
        obtain rfl := Option.some.inj h
        exact q_ri (q := (.ireturn, 1, 0, 0, .null)) rfl (fun _ => rfl) rfl rfl
      · rw [if_neg (by rw [c]; decide)] at h
        exact T232_26 H he F l0 l1 l2 h
set_option maxRecDepth 20000 in
theorem Z232 {B : zHp} (H : yH0 B) {F : Nat} {a1 : Int32} {a2 : Int32} {m : xS} {x : Int32 × xS} (h : D232 F a1 a2 m = some x) {d : Nat} (hd : 4 ≤ d) : zCan d 232 [.ref 70, .int a1, .int a2] (xW B m) (some (.int x.1), xW B x.2) := by
  obtain ⟨e, rfl⟩ : ∃ e, d = e + 1 := ⟨d - 1, by omega⟩
  refine zCan_body (nL := 4) (rt := (some .int)) (cd := zc232) (xg232) ⟨Nat.le_of_ble_eq_true rfl, by decide⟩ (Nat.le_refl _) ?_
  exact T232 H hd F rfl rfl rfl h
/-- LentToolsModel.isVillage -/
def D204 (F : Nat) (m : xS) : Option (Int32 × xS) :=
  if zcmp .le (m.1 80 0) 0 = true then
    some (0, m)
  else
    some (1, m)
set_option maxRecDepth 20000 in
theorem T204 {B : zHp} (H : yH0 B) {e : Nat} (he : 1 ≤ e + 1) (F : Nat) {lv : List (Nat × Value)} {m : xS} {x : Int32 × xS} (l0 : zld lv 0 = some (.ref 70)) (h : D204 F m = some x) : zR none e 1 (some .boolean) zc204 (0, lv, []) (xW B m) (some (.int x.1), xW B x.2) := by
  unfold D204 at h
  refine q_lr (k := 1) (i := 0) (q := (.aload_n 0, 1, 0, 0, .null)) rfl (fun _ => rfl) l0 ?_
  refine r_gr (c := 80) H (pc := 1) rfl (by decide) (by decide) ?_
  refine r_s (fr' := (5, lv, [.int 0, .ref 80])) (hp' := xW B m) (q := (.iconst 0, 1, 0, 0, .null)) rfl (fun _ => rfl) (Nat.le_refl _) ?_
  refine q_al (n := 148) (v := (m.1 80 0)) H (pc := 5) rfl (by decide) (by decide) rfl ?_
  refine r_if (len := 3) (a := 13) (b := 0) (v0 := .null) (cn := .le) (off := 7) rfl (fun c => ?_) (fun c => ?_)
  · rw [if_pos c] at h
    refine r_s (fr' := (14, lv, [.int 0])) (hp' := xW B m) (q := (.iconst 0, 1, 0, 0, .null)) rfl (fun _ => rfl) (Nat.le_refl _) ?_
    obtain rfl := Option.some.inj h
    exact q_ri (q := (.ireturn, 1, 0, 0, .null)) rfl (fun _ => rfl) rfl rfl
  · rw [if_neg (by rw [c]; decide)] at h
    refine r_s (fr' := (10, lv, [.int 1])) (hp' := xW B m) (q := (.iconst 1, 1, 0, 0, .null)) rfl (fun _ => rfl) (Nat.le_refl _) ?_
    refine r_s (fr' := (14, lv, [.int 1])) (hp' := xW B m) (q := (.goto 4, 3, 14, 0, .null)) rfl (fun _ => rfl) (Nat.le_refl _) ?_
    obtain rfl := Option.some.inj h
    exact q_ri (q := (.ireturn, 1, 0, 0, .null)) rfl (fun _ => rfl) rfl rfl
set_option maxRecDepth 20000 in
theorem Z204 {B : zHp} (H : yH0 B) {F : Nat} {m : xS} {x : Int32 × xS} (h : D204 F m = some x) {d : Nat} (hd : 1 ≤ d) : zCan d 204 [.ref 70] (xW B m) (some (.int x.1), xW B x.2) := by
  obtain ⟨e, rfl⟩ : ∃ e, d = e + 1 := ⟨d - 1, by omega⟩
  refine zCan_body (nL := 1) (rt := (some .boolean)) (cd := zc204) (xg204) ⟨Nat.le_of_ble_eq_true rfl, by decide⟩ (Nat.le_refl _) ?_
  exact T204 H hd F rfl h
/-- LentToolsModel.passes -/
def D233_66 (F : Nat) (g4 : Int32 → Int32 → xS → Option (Int32 × xS)) (v1 : Int32) (v2 : Int32) (m : xS) : Option (Int32 × xS) :=
  g4 v1 (v2 + Int32.ofInt 1) m
set_option maxRecDepth 20000 in
theorem T233_66 {B : zHp} (H : yH0 B) {e : Nat} (he : 3 ≤ e + 1) (F : Nat) (g4 : Int32 → Int32 → xS → Option (Int32 × xS)) (k4 : ∀ {v1 : Int32} {v2 : Int32} {lv : List (Nat × Value)} {m : xS} {x : Int32 × xS}, zld lv 0 = some (.ref 70) → zld lv 1 = some (.int v1) → zld lv 2 = some (.int v2) → g4 v1 v2 m = some x → zR none e 3 (some .int) zc233 (4, lv, []) (xW B m) (some (.int x.1), xW B x.2)) {v1 : Int32} {v2 : Int32} {lv : List (Nat × Value)} {m : xS} {x : Int32 × xS} (l0 : zld lv 0 = some (.ref 70)) (l1 : zld lv 1 = some (.int v1)) (l2 : zld lv 2 = some (.int v2)) (h : D233_66 F g4 v1 v2 m = some x) : zR none e 3 (some .int) zc233 (66, lv, []) (xW B m) (some (.int x.1), xW B x.2) := by
  unfold D233_66 at h
  refine q_inc (i := 2) (n := 1) (q := (.iinc 2 1, 3, 0, 0, .null)) rfl (fun _ => rfl) l2 (by decide) ?_
  have l0_1 : zld (zs1 lv 2 (.int (v2 + Int32.ofInt 1))) 0 = some (.ref 70) := x_o1 l0 rfl rfl
  have l1_1 : zld (zs1 lv 2 (.int (v2 + Int32.ofInt 1))) 1 = some (.int v1) := x_o1 l1 rfl rfl
  have l2_1 : zld (zs1 lv 2 (.int (v2 + Int32.ofInt 1))) 2 = some (.int (v2 + Int32.ofInt 1)) := zs1_ld _ _ _
  generalize (zs1 lv 2 (.int (v2 + Int32.ofInt 1))) = lv1 at *
  refine r_s (fr' := (4, lv1, [])) (hp' := xW B m) (q := (.goto (-65), 3, 4, 0, .null)) rfl (fun _ => rfl) (Nat.le_refl _) ?_
  exact k4 l0_1 l1_1 l2_1 h
def D233_64 (F : Nat) (g4 : Int32 → Int32 → xS → Option (Int32 × xS)) (v1 : Int32) (v2 : Int32) (w0 : Int32) (w1 : Int32) (m : xS) : Option (Int32 × xS) :=
  D233_66 F g4 (w1 + w0) v2 m
set_option maxRecDepth 20000 in
theorem T233_64 {B : zHp} (H : yH0 B) {e : Nat} (he : 3 ≤ e + 1) (F : Nat) (g4 : Int32 → Int32 → xS → Option (Int32 × xS)) (k4 : ∀ {v1 : Int32} {v2 : Int32} {lv : List (Nat × Value)} {m : xS} {x : Int32 × xS}, zld lv 0 = some (.ref 70) → zld lv 1 = some (.int v1) → zld lv 2 = some (.int v2) → g4 v1 v2 m = some x → zR none e 3 (some .int) zc233 (4, lv, []) (xW B m) (some (.int x.1), xW B x.2)) {v1 : Int32} {v2 : Int32} {w0 : Int32} {w1 : Int32} {lv : List (Nat × Value)} {m : xS} {x : Int32 × xS} (l0 : zld lv 0 = some (.ref 70)) (l1 : zld lv 1 = some (.int v1)) (l2 : zld lv 2 = some (.int v2)) (h : D233_64 F g4 v1 v2 w0 w1 m = some x) : zR none e 3 (some .int) zc233 (64, lv, [.int w0, .int w1]) (xW B m) (some (.int x.1), xW B x.2) := by
  unfold D233_64 at h
  refine r_s (fr' := (65, lv, [.int (w1 + w0)])) (hp' := xW B m) (q := (.iadd, 1, 0, 0, .null)) rfl (fun _ => rfl) (Nat.le_refl _) ?_
  refine q_si (k := 1) (i := 1) (q := (.istore_n 1, 1, 0, 0, .null)) rfl (fun _ => rfl) (by decide) ?_
  have l0_1 : zld (zs1 lv 1 (.int (w1 + w0))) 0 = some (.ref 70) := x_o1 l0 rfl rfl
  have l1_1 : zld (zs1 lv 1 (.int (w1 + w0))) 1 = some (.int (w1 + w0)) := zs1_ld _ _ _
  have l2_1 : zld (zs1 lv 1 (.int (w1 + w0))) 2 = some (.int v2) := x_o1 l2 rfl rfl
  generalize (zs1 lv 1 (.int (w1 + w0))) = lv1 at *
  exact T233_66 H he F _ k4 l0_1 l1_1 l2_1 h
def D233_4 (F : Nat) : Nat → Int32 → Int32 → xS → Option (Int32 × xS)
  | 0, _, _, _ => none
  | f + 1, v1, v2, m =>
    if zcmp .ge v2 (m.1 80 2) = true then
      some (v1, (xu m 80 4 ((m.1 80 4) + 1)))
    else
      (D212 F v2 m).bind fun q16 =>
        if zcmp .eq q16.1 0 = true then
          if xib ((10 + (6 * v2)) + 5) 148 = true then
            if xib ((10 + (6 * v2)) + 5) 148 = true then
              (D208 F v2 5 (xu q16.2 80 (((10 + (6 * v2)) + 5) : Int32).toNatClampNeg ((q16.2.1 80 (((10 + (6 * v2)) + 5) : Int32).toNatClampNeg) + 1))).bind fun q47 =>
                if zcmp .le q47.1 (q47.2.1 80 1) = true then
                  D233_64 F (D233_4 F f) v1 v2 0 v1 q47.2
                else
                  D233_64 F (D233_4 F f) v1 v2 1 v1 q47.2
            else none
          else none
        else
          D233_66 F (D233_4 F f) v1 v2 q16.2
set_option maxRecDepth 20000 in
theorem T233_4 {B : zHp} (H : yH0 B) {e : Nat} (he : 3 ≤ e + 1) (F : Nat) : ∀ (f : Nat) {v1 : Int32} {v2 : Int32} {lv : List (Nat × Value)} {m : xS} {x : Int32 × xS}, zld lv 0 = some (.ref 70) → zld lv 1 = some (.int v1) → zld lv 2 = some (.int v2) → D233_4 F f v1 v2 m = some x → zR none e 3 (some .int) zc233 (4, lv, []) (xW B m) (some (.int x.1), xW B x.2) := by
  intro f
  induction f with
  | zero => intro v1 v2 lv m x l0 l1 l2 h; cases h
  | succ f ih =>
    intro v1 v2 lv m x l0 l1 l2 h
    unfold D233_4 at h
    refine q_li (k := 1) (i := 2) (q := (.iload_n 2, 1, 0, 0, .null)) rfl (fun _ => rfl) l2 ?_
    refine q_lr (k := 1) (i := 0) (q := (.aload_n 0, 1, 0, 0, .null)) rfl (fun _ => rfl) l0 ?_
    refine r_gr (c := 80) H (pc := 6) rfl (by decide) (by decide) ?_
    refine r_s (fr' := (10, lv, [.int 2, .ref 80, .int v2])) (hp' := xW B m) (q := (.iconst 2, 1, 0, 0, .null)) rfl (fun _ => rfl) (Nat.le_refl _) ?_
    refine q_al (n := 148) (v := (m.1 80 2)) H (pc := 10) rfl (by decide) (by decide) rfl ?_
    refine r_ifc (len := 3) (a := 72) (b := 0) (v0 := .null) (cn := .ge) (off := 61) rfl (fun c => ?_) (fun c => ?_)
    · rw [if_pos c] at h
      refine q_lr (k := 1) (i := 0) (q := (.aload_n 0, 1, 0, 0, .null)) rfl (fun _ => rfl) l0 ?_
      refine r_gr (c := 80) H (pc := 73) rfl (by decide) (by decide) ?_
      refine r_s (fr' := (77, lv, [.int 4, .ref 80])) (hp' := xW B m) (q := (.iconst 4, 1, 0, 0, .null)) rfl (fun _ => rfl) (Nat.le_refl _) ?_
      refine r_s (fr' := (78, lv, [.int 4, .ref 80, .int 4, .ref 80])) (hp' := xW B m) (q := (.dup2, 1, 0, 0, .null)) rfl (fun _ => rfl) (Nat.le_refl _) ?_
      refine q_al (n := 148) (v := (m.1 80 4)) H (pc := 78) rfl (by decide) (by decide) rfl ?_
      refine r_s (fr' := (80, lv, [.int 1, .int (m.1 80 4), .int 4, .ref 80])) (hp' := xW B m) (q := (.iconst 1, 1, 0, 0, .null)) rfl (fun _ => rfl) (Nat.le_refl _) ?_
      refine r_s (fr' := (81, lv, [.int ((m.1 80 4) + 1), .int 4, .ref 80])) (hp' := xW B m) (q := (.iadd, 1, 0, 0, .null)) rfl (fun _ => rfl) (Nat.le_refl _) ?_
      refine q_as (n := 148) (s2 := (xu m 80 4 ((m.1 80 4) + 1))) H (pc := 81) rfl (by decide) (by decide) rfl ?_
      refine q_li (k := 1) (i := 1) (q := (.iload_n 1, 1, 0, 0, .null)) rfl (fun _ => rfl) l1 ?_
      obtain rfl := Option.some.inj h
      exact q_ri (q := (.ireturn, 1, 0, 0, .null)) rfl (fun _ => rfl) rfl rfl
    · rw [if_neg (by rw [c]; decide)] at h
      refine q_lr (k := 1) (i := 0) (q := (.aload_n 0, 1, 0, 0, .null)) rfl (fun _ => rfl) l0 ?_
      refine q_li (k := 1) (i := 2) (q := (.iload_n 2, 1, 0, 0, .null)) rfl (fun _ => rfl) l2 ?_
      obtain ⟨q16, h16, h⟩ := xbind h
      refine r_call (ix := 70) (as := [.int v2]) (rest := []) (rv := some (.int q16.1)) (hp' := xW B q16.2) (pc := 16) rfl xr212 rfl rfl rfl (xkd H (by decide)) (Nat.le_of_ble_eq_true rfl) (Z212 H h16 (by omega)) (Nat.le_refl _) ?_
      refine r_if (len := 3) (a := 25) (b := 0) (v0 := .null) (cn := .eq) (off := 6) rfl (fun c => ?_) (fun c => ?_)
      · rw [if_pos c] at h
        refine q_lr (k := 1) (i := 0) (q := (.aload_n 0, 1, 0, 0, .null)) rfl (fun _ => rfl) l0 ?_
        refine r_gr (c := 80) H (pc := 26) rfl (by decide) (by decide) ?_
        refine r_s (fr' := (31, lv, [.int 10, .ref 80])) (hp' := xW B q16.2) (q := (.bipush 10, 2, 0, 0, .null)) rfl (fun _ => rfl) (Nat.le_refl _) ?_
        refine r_s (fr' := (33, lv, [.int 6, .int 10, .ref 80])) (hp' := xW B q16.2) (q := (.bipush 6, 2, 0, 0, .null)) rfl (fun _ => rfl) (Nat.le_refl _) ?_
        refine q_li (k := 1) (i := 2) (q := (.iload_n 2, 1, 0, 0, .null)) rfl (fun _ => rfl) l2 ?_
        refine r_s (fr' := (35, lv, [.int (6 * v2), .int 10, .ref 80])) (hp' := xW B q16.2) (q := (.imul, 1, 0, 0, .null)) rfl (fun _ => rfl) (Nat.le_refl _) ?_
        refine r_s (fr' := (36, lv, [.int (10 + (6 * v2)), .ref 80])) (hp' := xW B q16.2) (q := (.iadd, 1, 0, 0, .null)) rfl (fun _ => rfl) (Nat.le_refl _) ?_
        refine r_s (fr' := (37, lv, [.int 5, .int (10 + (6 * v2)), .ref 80])) (hp' := xW B q16.2) (q := (.iconst 5, 1, 0, 0, .null)) rfl (fun _ => rfl) (Nat.le_refl _) ?_
        refine r_s (fr' := (38, lv, [.int ((10 + (6 * v2)) + 5), .ref 80])) (hp' := xW B q16.2) (q := (.iadd, 1, 0, 0, .null)) rfl (fun _ => rfl) (Nat.le_refl _) ?_
        refine r_s (fr' := (39, lv, [.int ((10 + (6 * v2)) + 5), .ref 80, .int ((10 + (6 * v2)) + 5), .ref 80])) (hp' := xW B q16.2) (q := (.dup2, 1, 0, 0, .null)) rfl (fun _ => rfl) (Nat.le_refl _) ?_
        obtain ⟨c1, h⟩ := xif h
        refine q_al (n := 148) (v := (q16.2.1 80 (((10 + (6 * v2)) + 5) : Int32).toNatClampNeg)) H (pc := 39) rfl (by decide) c1 rfl ?_
        refine r_s (fr' := (41, lv, [.int 1, .int (q16.2.1 80 (((10 + (6 * v2)) + 5) : Int32).toNatClampNeg), .int ((10 + (6 * v2)) + 5), .ref 80])) (hp' := xW B q16.2) (q := (.iconst 1, 1, 0, 0, .null)) rfl (fun _ => rfl) (Nat.le_refl _) ?_
        refine r_s (fr' := (42, lv, [.int ((q16.2.1 80 (((10 + (6 * v2)) + 5) : Int32).toNatClampNeg) + 1), .int ((10 + (6 * v2)) + 5), .ref 80])) (hp' := xW B q16.2) (q := (.iadd, 1, 0, 0, .null)) rfl (fun _ => rfl) (Nat.le_refl _) ?_
        obtain ⟨c2, h⟩ := xif h
        refine q_as (n := 148) (s2 := (xu q16.2 80 (((10 + (6 * v2)) + 5) : Int32).toNatClampNeg ((q16.2.1 80 (((10 + (6 * v2)) + 5) : Int32).toNatClampNeg) + 1))) H (pc := 42) rfl (by decide) c2 rfl ?_
        refine q_li (k := 1) (i := 1) (q := (.iload_n 1, 1, 0, 0, .null)) rfl (fun _ => rfl) l1 ?_
        refine q_lr (k := 1) (i := 0) (q := (.aload_n 0, 1, 0, 0, .null)) rfl (fun _ => rfl) l0 ?_
        refine q_li (k := 1) (i := 2) (q := (.iload_n 2, 1, 0, 0, .null)) rfl (fun _ => rfl) l2 ?_
        refine r_s (fr' := (47, lv, [.int 5, .int v2, .ref 70, .int v1])) (hp' := xW B (xu q16.2 80 (((10 + (6 * v2)) + 5) : Int32).toNatClampNeg ((q16.2.1 80 (((10 + (6 * v2)) + 5) : Int32).toNatClampNeg) + 1))) (q := (.iconst 5, 1, 0, 0, .null)) rfl (fun _ => rfl) (Nat.le_refl _) ?_
        obtain ⟨q47, h47, h⟩ := xbind h
        refine r_call (ix := 70) (as := [.int v2, .int 5]) (rest := [.int v1]) (rv := some (.int q47.1)) (hp' := xW B q47.2) (pc := 47) rfl xr208 rfl rfl rfl (xkd H (by decide)) (Nat.le_of_ble_eq_true rfl) (Z208 H h47 (by omega)) (Nat.le_refl _) ?_
        refine q_lr (k := 1) (i := 0) (q := (.aload_n 0, 1, 0, 0, .null)) rfl (fun _ => rfl) l0 ?_
        refine r_gr (c := 80) H (pc := 51) rfl (by decide) (by decide) ?_
        refine r_s (fr' := (55, lv, [.int 1, .ref 80, .int q47.1, .int v1])) (hp' := xW B q47.2) (q := (.iconst 1, 1, 0, 0, .null)) rfl (fun _ => rfl) (Nat.le_refl _) ?_
        refine q_al (n := 148) (v := (q47.2.1 80 1)) H (pc := 55) rfl (by decide) (by decide) rfl ?_
        refine r_ifc (len := 3) (a := 63) (b := 0) (v0 := .null) (cn := .le) (off := 7) rfl (fun c => ?_) (fun c => ?_)
        · rw [if_pos c] at h
          refine r_s (fr' := (64, lv, [.int 0, .int v1])) (hp' := xW B q47.2) (q := (.iconst 0, 1, 0, 0, .null)) rfl (fun _ => rfl) (Nat.le_refl _) ?_
          exact T233_64 H he F _ ih l0 l1 l2 h
        · rw [if_neg (by rw [c]; decide)] at h
          refine r_s (fr' := (60, lv, [.int 1, .int v1])) (hp' := xW B q47.2) (q := (.iconst 1, 1, 0, 0, .null)) rfl (fun _ => rfl) (Nat.le_refl _) ?_
          refine r_s (fr' := (64, lv, [.int 1, .int v1])) (hp' := xW B q47.2) (q := (.goto 4, 3, 64, 0, .null)) rfl (fun _ => rfl) (Nat.le_refl _) ?_
          exact T233_64 H he F _ ih l0 l1 l2 h
      · rw [if_neg (by rw [c]; decide)] at h
        refine r_s (fr' := (66, lv, [])) (hp' := xW B q16.2) (q := (.goto 44, 3, 66, 0, .null)) rfl (fun _ => rfl) (Nat.le_refl _) ?_
        exact T233_66 H he F _ ih l0 l1 l2 h
def D233 (F : Nat) (m : xS) : Option (Int32 × xS) :=
  D233_4 F F 0 0 m
set_option maxRecDepth 20000 in
theorem T233 {B : zHp} (H : yH0 B) {e : Nat} (he : 3 ≤ e + 1) (F : Nat) {lv : List (Nat × Value)} {m : xS} {x : Int32 × xS} (l0 : zld lv 0 = some (.ref 70)) (h : D233 F m = some x) : zR none e 3 (some .int) zc233 (0, lv, []) (xW B m) (some (.int x.1), xW B x.2) := by
  unfold D233 at h
  refine r_s (fr' := (1, lv, [.int 0])) (hp' := xW B m) (q := (.iconst 0, 1, 0, 0, .null)) rfl (fun _ => rfl) (Nat.le_refl _) ?_
  refine q_si (k := 1) (i := 1) (q := (.istore_n 1, 1, 0, 0, .null)) rfl (fun _ => rfl) (by decide) ?_
  have l0_1 : zld (zs1 lv 1 (.int 0)) 0 = some (.ref 70) := x_o1 l0 rfl rfl
  have l1_1 : zld (zs1 lv 1 (.int 0)) 1 = some (.int 0) := zs1_ld _ _ _
  generalize (zs1 lv 1 (.int 0)) = lv1 at *
  refine r_s (fr' := (3, lv1, [.int 0])) (hp' := xW B m) (q := (.iconst 0, 1, 0, 0, .null)) rfl (fun _ => rfl) (Nat.le_refl _) ?_
  refine q_si (k := 1) (i := 2) (q := (.istore_n 2, 1, 0, 0, .null)) rfl (fun _ => rfl) (by decide) ?_
  have l0_2 : zld (zs1 lv1 2 (.int 0)) 0 = some (.ref 70) := x_o1 l0_1 rfl rfl
  have l1_2 : zld (zs1 lv1 2 (.int 0)) 1 = some (.int 0) := x_o1 l1_1 rfl rfl
  have l2_2 : zld (zs1 lv1 2 (.int 0)) 2 = some (.int 0) := zs1_ld _ _ _
  generalize (zs1 lv1 2 (.int 0)) = lv2 at *
  exact T233_4 H he F F l0_2 l1_2 l2_2 h
set_option maxRecDepth 20000 in
theorem Z233 {B : zHp} (H : yH0 B) {F : Nat} {m : xS} {x : Int32 × xS} (h : D233 F m = some x) {d : Nat} (hd : 3 ≤ d) : zCan d 233 [.ref 70] (xW B m) (some (.int x.1), xW B x.2) := by
  obtain ⟨e, rfl⟩ : ∃ e, d = e + 1 := ⟨d - 1, by omega⟩
  refine zCan_body (nL := 3) (rt := (some .int)) (cd := zc233) (xg233) ⟨Nat.le_of_ble_eq_true rfl, by decide⟩ (Nat.le_refl _) ?_
  exact T233 H hd F rfl h
/-- LentToolsModel.day -/
def D234_19 (F : Nat) (m : xS) : Option (Int32 × xS) :=
  some ((-1), m)
set_option maxRecDepth 20000 in
theorem T234_19 {B : zHp} (H : yH0 B) {e : Nat} (he : 4 ≤ e + 1) (F : Nat) {lv : List (Nat × Value)} {m : xS} {x : Int32 × xS} (l0 : zld lv 0 = some (.ref 70)) (h : D234_19 F m = some x) : zR none e 1 (some .int) zc234 (19, lv, []) (xW B m) (some (.int x.1), xW B x.2) := by
  unfold D234_19 at h
  refine r_s (fr' := (20, lv, [.int (-1)])) (hp' := xW B m) (q := (.iconst (-1), 1, 0, 0, .null)) rfl (fun _ => rfl) (Nat.le_refl _) ?_
  obtain rfl := Option.some.inj h
  exact q_ri (q := (.ireturn, 1, 0, 0, .null)) rfl (fun _ => rfl) rfl rfl
def D234 (F : Nat) (m : xS) : Option (Int32 × xS) :=
  (D204 F m).bind fun q1 =>
    if zcmp .eq q1.1 0 = true then
      D234_19 F q1.2
    else
      if zcmp .ne (q1.2.1 80 4) 999 = true then
        (D220 F q1.2).bind fun q22 =>
          (D233 F q22.2).bind fun q26 =>
            some (q26.1, q26.2)
      else
        D234_19 F q1.2
set_option maxRecDepth 20000 in
theorem T234 {B : zHp} (H : yH0 B) {e : Nat} (he : 4 ≤ e + 1) (F : Nat) {lv : List (Nat × Value)} {m : xS} {x : Int32 × xS} (l0 : zld lv 0 = some (.ref 70)) (h : D234 F m = some x) : zR none e 1 (some .int) zc234 (0, lv, []) (xW B m) (some (.int x.1), xW B x.2) := by
  unfold D234 at h
  refine q_lr (k := 1) (i := 0) (q := (.aload_n 0, 1, 0, 0, .null)) rfl (fun _ => rfl) l0 ?_
  obtain ⟨q1, h1, h⟩ := xbind h
  refine r_call (ix := 70) (as := []) (rest := []) (rv := some (.int q1.1)) (hp' := xW B q1.2) (pc := 1) rfl xr204 rfl rfl rfl (xkd H (by decide)) (Nat.le_of_ble_eq_true rfl) (Z204 H h1 (by omega)) (Nat.le_refl _) ?_
  refine r_if (len := 3) (a := 19) (b := 0) (v0 := .null) (cn := .eq) (off := 15) rfl (fun c => ?_) (fun c => ?_)
  · rw [if_pos c] at h
    exact T234_19 H he F l0 h
  · rw [if_neg (by rw [c]; decide)] at h
    refine q_lr (k := 1) (i := 0) (q := (.aload_n 0, 1, 0, 0, .null)) rfl (fun _ => rfl) l0 ?_
    refine r_gr (c := 80) H (pc := 8) rfl (by decide) (by decide) ?_
    refine r_s (fr' := (12, lv, [.int 4, .ref 80])) (hp' := xW B q1.2) (q := (.iconst 4, 1, 0, 0, .null)) rfl (fun _ => rfl) (Nat.le_refl _) ?_
    refine q_al (n := 148) (v := (q1.2.1 80 4)) H (pc := 12) rfl (by decide) (by decide) rfl ?_
    refine r_s (fr' := (16, lv, [.int 999, .int (q1.2.1 80 4)])) (hp' := xW B q1.2) (q := (.sipush 999, 3, 0, 0, .null)) rfl (fun _ => rfl) (Nat.le_refl _) ?_
    refine r_ifc (len := 3) (a := 21) (b := 0) (v0 := .null) (cn := .ne) (off := 5) rfl (fun c => ?_) (fun c => ?_)
    · rw [if_pos c] at h
      refine q_lr (k := 1) (i := 0) (q := (.aload_n 0, 1, 0, 0, .null)) rfl (fun _ => rfl) l0 ?_
      obtain ⟨q22, h22, h⟩ := xbind h
      refine r_call (ix := 70) (as := []) (rest := []) (rv := none) (hp' := xW B q22.2) (pc := 22) rfl xr220 rfl rfl rfl (xkd H (by decide)) (Nat.le_of_ble_eq_true rfl) (Z220 H h22 (by omega)) (Nat.le_refl _) ?_
      refine q_lr (k := 1) (i := 0) (q := (.aload_n 0, 1, 0, 0, .null)) rfl (fun _ => rfl) l0 ?_
      obtain ⟨q26, h26, h⟩ := xbind h
      refine r_call (ix := 70) (as := []) (rest := []) (rv := some (.int q26.1)) (hp' := xW B q26.2) (pc := 26) rfl xr233 rfl rfl rfl (xkd H (by decide)) (Nat.le_of_ble_eq_true rfl) (Z233 H h26 (by omega)) (Nat.le_refl _) ?_
      obtain rfl := Option.some.inj h
      exact q_ri (q := (.ireturn, 1, 0, 0, .null)) rfl (fun _ => rfl) rfl rfl
    · rw [if_neg (by rw [c]; decide)] at h
      exact T234_19 H he F l0 h
set_option maxRecDepth 20000 in
theorem Z234 {B : zHp} (H : yH0 B) {F : Nat} {m : xS} {x : Int32 × xS} (h : D234 F m = some x) {d : Nat} (hd : 4 ≤ d) : zCan d 234 [.ref 70] (xW B m) (some (.int x.1), xW B x.2) := by
  obtain ⟨e, rfl⟩ : ∃ e, d = e + 1 := ⟨d - 1, by omega⟩
  refine zCan_body (nL := 1) (rt := (some .int)) (cd := zc234) (xg234) ⟨Nat.le_of_ble_eq_true rfl, by decide⟩ (Nat.le_refl _) ?_
  exact T234 H hd F rfl h
/-- LentToolsModel.isRing -/
def D240_59 (F : Nat) (v1 : Int32) (v2 : Int32) (v3 : Int32) (v4 : Int32) (m : xS) : Option (Int32 × xS) :=
  some (0, m)
set_option maxRecDepth 20000 in
theorem T240_59 {B : zHp} (H : yH0 B) {e : Nat} (he : 4 ≤ e + 1) (F : Nat) {v1 : Int32} {v2 : Int32} {v3 : Int32} {v4 : Int32} {lv : List (Nat × Value)} {m : xS} {x : Int32 × xS} (l0 : zld lv 0 = some (.ref 70)) (l1 : zld lv 1 = some (.int v1)) (l2 : zld lv 2 = some (.int v2)) (l3 : zld lv 3 = some (.int v3)) (l4 : zld lv 4 = some (.int v4)) (h : D240_59 F v1 v2 v3 v4 m = some x) : zR none e 5 (some .boolean) zc240 (59, lv, []) (xW B m) (some (.int x.1), xW B x.2) := by
  unfold D240_59 at h
  refine r_s (fr' := (60, lv, [.int 0])) (hp' := xW B m) (q := (.iconst 0, 1, 0, 0, .null)) rfl (fun _ => rfl) (Nat.le_refl _) ?_
  obtain rfl := Option.some.inj h
  exact q_ri (q := (.ireturn, 1, 0, 0, .null)) rfl (fun _ => rfl) rfl rfl
def D240_13 (F : Nat) : Nat → Int32 → Int32 → Int32 → xS → Option (Int32 × xS)
  | 0, _, _, _, _ => none
  | f + 1, v1, v2, v3, m =>
    if zcmp .ge v3 v2 = true then
      some (1, m)
    else
      (D236 F v1 v2 v3 m).bind fun q22 =>
        (D236 F v1 v2 0 q22.2).bind fun q33 =>
          if zcmp .lt q22.1 q33.1 = true then
            D240_59 F v1 v2 v3 q22.1 q33.2
          else
            if (!(v2 == 0)) = true then
              (D236 F v1 v2 ((v3 + 1) - (v3 + 1) / v2 * v2) q33.2).bind fun q50 =>
                (D211 F q22.1 q50.1 q50.2).bind fun q53 =>
                  if zcmp .ne q53.1 0 = true then
                    D240_13 F f v1 v2 (v3 + Int32.ofInt 1) q53.2
                  else
                    D240_59 F v1 v2 v3 q22.1 q53.2
            else none
set_option maxRecDepth 20000 in
theorem T240_13 {B : zHp} (H : yH0 B) {e : Nat} (he : 4 ≤ e + 1) (F : Nat) : ∀ (f : Nat) {v1 : Int32} {v2 : Int32} {v3 : Int32} {lv : List (Nat × Value)} {m : xS} {x : Int32 × xS}, zld lv 0 = some (.ref 70) → zld lv 1 = some (.int v1) → zld lv 2 = some (.int v2) → zld lv 3 = some (.int v3) → D240_13 F f v1 v2 v3 m = some x → zR none e 5 (some .boolean) zc240 (13, lv, []) (xW B m) (some (.int x.1), xW B x.2) := by
  intro f
  induction f with
  | zero => intro v1 v2 v3 lv m x l0 l1 l2 l3 h; cases h
  | succ f ih =>
    intro v1 v2 v3 lv m x l0 l1 l2 l3 h
    unfold D240_13 at h
    refine q_li (k := 1) (i := 3) (q := (.iload_n 3, 1, 0, 0, .null)) rfl (fun _ => rfl) l3 ?_
    refine q_li (k := 1) (i := 2) (q := (.iload_n 2, 1, 0, 0, .null)) rfl (fun _ => rfl) l2 ?_
    refine r_ifc (len := 3) (a := 67) (b := 0) (v0 := .null) (cn := .ge) (off := 52) rfl (fun c => ?_) (fun c => ?_)
    · rw [if_pos c] at h
      refine r_s (fr' := (68, lv, [.int 1])) (hp' := xW B m) (q := (.iconst 1, 1, 0, 0, .null)) rfl (fun _ => rfl) (Nat.le_refl _) ?_
      obtain rfl := Option.some.inj h
      exact q_ri (q := (.ireturn, 1, 0, 0, .null)) rfl (fun _ => rfl) rfl rfl
    · rw [if_neg (by rw [c]; decide)] at h
      refine q_lr (k := 1) (i := 0) (q := (.aload_n 0, 1, 0, 0, .null)) rfl (fun _ => rfl) l0 ?_
      refine q_li (k := 1) (i := 1) (q := (.iload_n 1, 1, 0, 0, .null)) rfl (fun _ => rfl) l1 ?_
      refine q_li (k := 1) (i := 2) (q := (.iload_n 2, 1, 0, 0, .null)) rfl (fun _ => rfl) l2 ?_
      refine q_li (k := 1) (i := 3) (q := (.iload_n 3, 1, 0, 0, .null)) rfl (fun _ => rfl) l3 ?_
      obtain ⟨q22, h22, h⟩ := xbind h
      refine r_call (ix := 70) (as := [.int v1, .int v2, .int v3]) (rest := []) (rv := some (.int q22.1)) (hp' := xW B q22.2) (pc := 22) rfl xr236 rfl rfl rfl (xkd H (by decide)) (Nat.le_of_ble_eq_true rfl) (Z236 H h22 (by omega)) (Nat.le_refl _) ?_
      refine q_si (k := 2) (i := 4) (q := (.istore 4, 2, 0, 0, .null)) rfl (fun _ => rfl) (by decide) ?_
      have l0_1 : zld (zs1 lv 4 (.int q22.1)) 0 = some (.ref 70) := x_o1 l0 rfl rfl
      have l1_1 : zld (zs1 lv 4 (.int q22.1)) 1 = some (.int v1) := x_o1 l1 rfl rfl
      have l2_1 : zld (zs1 lv 4 (.int q22.1)) 2 = some (.int v2) := x_o1 l2 rfl rfl
      have l3_1 : zld (zs1 lv 4 (.int q22.1)) 3 = some (.int v3) := x_o1 l3 rfl rfl
      have l4_1 : zld (zs1 lv 4 (.int q22.1)) 4 = some (.int q22.1) := zs1_ld _ _ _
      generalize (zs1 lv 4 (.int q22.1)) = lv1 at *
      refine q_li (k := 2) (i := 4) (q := (.iload 4, 2, 0, 0, .null)) rfl (fun _ => rfl) l4_1 ?_
      refine q_lr (k := 1) (i := 0) (q := (.aload_n 0, 1, 0, 0, .null)) rfl (fun _ => rfl) l0_1 ?_
      refine q_li (k := 1) (i := 1) (q := (.iload_n 1, 1, 0, 0, .null)) rfl (fun _ => rfl) l1_1 ?_
      refine q_li (k := 1) (i := 2) (q := (.iload_n 2, 1, 0, 0, .null)) rfl (fun _ => rfl) l2_1 ?_
      refine r_s (fr' := (33, lv1, [.int 0, .int v2, .int v1, .ref 70, .int q22.1])) (hp' := xW B q22.2) (q := (.iconst 0, 1, 0, 0, .null)) rfl (fun _ => rfl) (Nat.le_refl _) ?_
      obtain ⟨q33, h33, h⟩ := xbind h
      refine r_call (ix := 70) (as := [.int v1, .int v2, .int 0]) (rest := [.int q22.1]) (rv := some (.int q33.1)) (hp' := xW B q33.2) (pc := 33) rfl xr236 rfl rfl rfl (xkd H (by decide)) (Nat.le_of_ble_eq_true rfl) (Z236 H h33 (by omega)) (Nat.le_refl _) ?_
      refine r_ifc (len := 3) (a := 59) (b := 0) (v0 := .null) (cn := .lt) (off := 23) rfl (fun c => ?_) (fun c => ?_)
      · rw [if_pos c] at h
        exact T240_59 H he F l0_1 l1_1 l2_1 l3_1 l4_1 h
      · rw [if_neg (by rw [c]; decide)] at h
        refine q_lr (k := 1) (i := 0) (q := (.aload_n 0, 1, 0, 0, .null)) rfl (fun _ => rfl) l0_1 ?_
        refine q_li (k := 2) (i := 4) (q := (.iload 4, 2, 0, 0, .null)) rfl (fun _ => rfl) l4_1 ?_
        refine q_lr (k := 1) (i := 0) (q := (.aload_n 0, 1, 0, 0, .null)) rfl (fun _ => rfl) l0_1 ?_
        refine q_li (k := 1) (i := 1) (q := (.iload_n 1, 1, 0, 0, .null)) rfl (fun _ => rfl) l1_1 ?_
        refine q_li (k := 1) (i := 2) (q := (.iload_n 2, 1, 0, 0, .null)) rfl (fun _ => rfl) l2_1 ?_
        refine q_li (k := 1) (i := 3) (q := (.iload_n 3, 1, 0, 0, .null)) rfl (fun _ => rfl) l3_1 ?_
        refine r_s (fr' := (47, lv1, [.int 1, .int v3, .int v2, .int v1, .ref 70, .int q22.1, .ref 70])) (hp' := xW B q33.2) (q := (.iconst 1, 1, 0, 0, .null)) rfl (fun _ => rfl) (Nat.le_refl _) ?_
        refine r_s (fr' := (48, lv1, [.int (v3 + 1), .int v2, .int v1, .ref 70, .int q22.1, .ref 70])) (hp' := xW B q33.2) (q := (.iadd, 1, 0, 0, .null)) rfl (fun _ => rfl) (Nat.le_refl _) ?_
        refine q_li (k := 1) (i := 2) (q := (.iload_n 2, 1, 0, 0, .null)) rfl (fun _ => rfl) l2_1 ?_
        obtain ⟨c2, h⟩ := xif h
        refine q_div (f := fun x y => x - x / y * y) (q := (.irem, 1, 0, 0, .null)) rfl (fun _ => rfl) c2 ?_
        obtain ⟨q50, h50, h⟩ := xbind h
        refine r_call (ix := 70) (as := [.int v1, .int v2, .int ((v3 + 1) - (v3 + 1) / v2 * v2)]) (rest := [.int q22.1, .ref 70]) (rv := some (.int q50.1)) (hp' := xW B q50.2) (pc := 50) rfl xr236 rfl rfl rfl (xkd H (by decide)) (Nat.le_of_ble_eq_true rfl) (Z236 H h50 (by omega)) (Nat.le_refl _) ?_
        obtain ⟨q53, h53, h⟩ := xbind h
        refine r_call (ix := 70) (as := [.int q22.1, .int q50.1]) (rest := []) (rv := some (.int q53.1)) (hp' := xW B q53.2) (pc := 53) rfl xr211 rfl rfl rfl (xkd H (by decide)) (Nat.le_of_ble_eq_true rfl) (Z211 H h53 (by omega)) (Nat.le_refl _) ?_
        refine r_if (len := 3) (a := 61) (b := 0) (v0 := .null) (cn := .ne) (off := 5) rfl (fun c => ?_) (fun c => ?_)
        · rw [if_pos c] at h
          refine q_inc (i := 3) (n := 1) (q := (.iinc 3 1, 3, 0, 0, .null)) rfl (fun _ => rfl) l3_1 (by decide) ?_
          have l0_3 : zld (zs1 lv1 3 (.int (v3 + Int32.ofInt 1))) 0 = some (.ref 70) := x_o1 l0_1 rfl rfl
          have l1_3 : zld (zs1 lv1 3 (.int (v3 + Int32.ofInt 1))) 1 = some (.int v1) := x_o1 l1_1 rfl rfl
          have l2_3 : zld (zs1 lv1 3 (.int (v3 + Int32.ofInt 1))) 2 = some (.int v2) := x_o1 l2_1 rfl rfl
          have l3_3 : zld (zs1 lv1 3 (.int (v3 + Int32.ofInt 1))) 3 = some (.int (v3 + Int32.ofInt 1)) := zs1_ld _ _ _
          have l4_3 : zld (zs1 lv1 3 (.int (v3 + Int32.ofInt 1))) 4 = some (.int q22.1) := x_o1 l4_1 rfl rfl
          generalize (zs1 lv1 3 (.int (v3 + Int32.ofInt 1))) = lv3 at *
          refine r_s (fr' := (13, lv3, [])) (hp' := xW B q53.2) (q := (.goto (-51), 3, 13, 0, .null)) rfl (fun _ => rfl) (Nat.le_refl _) ?_
          exact ih l0_3 l1_3 l2_3 l3_3 h
        · rw [if_neg (by rw [c]; decide)] at h
          exact T240_59 H he F l0_1 l1_1 l2_1 l3_1 l4_1 h
def D240 (F : Nat) (v1 : Int32) (v2 : Int32) (m : xS) : Option (Int32 × xS) :=
  (D237 F v1 v2 m).bind fun q3 =>
    if zcmp .ne q3.1 0 = true then
      D240_13 F F v1 v2 0 q3.2
    else
      some (0, q3.2)
set_option maxRecDepth 20000 in
theorem T240 {B : zHp} (H : yH0 B) {e : Nat} (he : 4 ≤ e + 1) (F : Nat) {v1 : Int32} {v2 : Int32} {lv : List (Nat × Value)} {m : xS} {x : Int32 × xS} (l0 : zld lv 0 = some (.ref 70)) (l1 : zld lv 1 = some (.int v1)) (l2 : zld lv 2 = some (.int v2)) (h : D240 F v1 v2 m = some x) : zR none e 5 (some .boolean) zc240 (0, lv, []) (xW B m) (some (.int x.1), xW B x.2) := by
  unfold D240 at h
  refine q_lr (k := 1) (i := 0) (q := (.aload_n 0, 1, 0, 0, .null)) rfl (fun _ => rfl) l0 ?_
  refine q_li (k := 1) (i := 1) (q := (.iload_n 1, 1, 0, 0, .null)) rfl (fun _ => rfl) l1 ?_
  refine q_li (k := 1) (i := 2) (q := (.iload_n 2, 1, 0, 0, .null)) rfl (fun _ => rfl) l2 ?_
  obtain ⟨q3, h3, h⟩ := xbind h
  refine r_call (ix := 70) (as := [.int v1, .int v2]) (rest := []) (rv := some (.int q3.1)) (hp' := xW B q3.2) (pc := 3) rfl xr237 rfl rfl rfl (xkd H (by decide)) (Nat.le_of_ble_eq_true rfl) (Z237 H h3 (by omega)) (Nat.le_refl _) ?_
  refine r_if (len := 3) (a := 11) (b := 0) (v0 := .null) (cn := .ne) (off := 5) rfl (fun c => ?_) (fun c => ?_)
  · rw [if_pos c] at h
    refine r_s (fr' := (12, lv, [.int 0])) (hp' := xW B q3.2) (q := (.iconst 0, 1, 0, 0, .null)) rfl (fun _ => rfl) (Nat.le_refl _) ?_
    refine q_si (k := 1) (i := 3) (q := (.istore_n 3, 1, 0, 0, .null)) rfl (fun _ => rfl) (by decide) ?_
    have l0_1 : zld (zs1 lv 3 (.int 0)) 0 = some (.ref 70) := x_o1 l0 rfl rfl
    have l1_1 : zld (zs1 lv 3 (.int 0)) 1 = some (.int v1) := x_o1 l1 rfl rfl
    have l2_1 : zld (zs1 lv 3 (.int 0)) 2 = some (.int v2) := x_o1 l2 rfl rfl
    have l3_1 : zld (zs1 lv 3 (.int 0)) 3 = some (.int 0) := zs1_ld _ _ _
    generalize (zs1 lv 3 (.int 0)) = lv1 at *
    exact T240_13 H he F F l0_1 l1_1 l2_1 l3_1 h
  · rw [if_neg (by rw [c]; decide)] at h
    refine r_s (fr' := (10, lv, [.int 0])) (hp' := xW B q3.2) (q := (.iconst 0, 1, 0, 0, .null)) rfl (fun _ => rfl) (Nat.le_refl _) ?_
    obtain rfl := Option.some.inj h
    exact q_ri (q := (.ireturn, 1, 0, 0, .null)) rfl (fun _ => rfl) rfl rfl
set_option maxRecDepth 20000 in
theorem Z240 {B : zHp} (H : yH0 B) {F : Nat} {a1 : Int32} {a2 : Int32} {m : xS} {x : Int32 × xS} (h : D240 F a1 a2 m = some x) {d : Nat} (hd : 4 ≤ d) : zCan d 240 [.ref 70, .int a1, .int a2] (xW B m) (some (.int x.1), xW B x.2) := by
  obtain ⟨e, rfl⟩ : ∃ e, d = e + 1 := ⟨d - 1, by omega⟩
  refine zCan_body (nL := 5) (rt := (some .boolean)) (cd := zc240) (xg240) ⟨Nat.le_of_ble_eq_true rfl, by decide⟩ (Nat.le_refl _) ?_
  exact T240 H hd F rfl rfl rfl h
/-- LentToolsModel.shortestRing -/
def D241_14 (F : Nat) (g2 : Int32 → xS → Option (Int32 × xS)) : Nat → Int32 → Int32 → xS → Option (Int32 × xS)
  | 0, _, _, _ => none
  | f + 1, v1, v2, m =>
    (D235 F (m.1 80 0) v1 m).bind fun q22 =>
      if zcmp .ge v2 q22.1 = true then
        g2 (v1 + Int32.ofInt 1) q22.2
      else
        (D240 F v2 v1 q22.2).bind fun q31 =>
          if zcmp .ne q31.1 0 = true then
            some (v1, (xu q31.2 70 26 v2))
          else
            D241_14 F g2 f v1 (v2 + Int32.ofInt 1) q31.2
set_option maxRecDepth 20000 in
theorem T241_14 {B : zHp} (H : yH0 B) {e : Nat} (he : 5 ≤ e + 1) (F : Nat) (g2 : Int32 → xS → Option (Int32 × xS)) (k2 : ∀ {v1 : Int32} {lv : List (Nat × Value)} {m : xS} {x : Int32 × xS}, zld lv 0 = some (.ref 70) → zld lv 1 = some (.int v1) → g2 v1 m = some x → zR none e 3 (some .int) zc241 (2, lv, []) (xW B m) (some (.int x.1), xW B x.2)) : ∀ (f : Nat) {v1 : Int32} {v2 : Int32} {lv : List (Nat × Value)} {m : xS} {x : Int32 × xS}, zld lv 0 = some (.ref 70) → zld lv 1 = some (.int v1) → zld lv 2 = some (.int v2) → D241_14 F g2 f v1 v2 m = some x → zR none e 3 (some .int) zc241 (14, lv, []) (xW B m) (some (.int x.1), xW B x.2) := by
  intro f
  induction f with
  | zero => intro v1 v2 lv m x l0 l1 l2 h; cases h
  | succ f ih =>
    intro v1 v2 lv m x l0 l1 l2 h
    unfold D241_14 at h
    refine q_li (k := 1) (i := 2) (q := (.iload_n 2, 1, 0, 0, .null)) rfl (fun _ => rfl) l2 ?_
    refine q_lr (k := 1) (i := 0) (q := (.aload_n 0, 1, 0, 0, .null)) rfl (fun _ => rfl) l0 ?_
    refine r_gr (c := 80) H (pc := 16) rfl (by decide) (by decide) ?_
    refine r_s (fr' := (20, lv, [.int 0, .ref 80, .int v2])) (hp' := xW B m) (q := (.iconst 0, 1, 0, 0, .null)) rfl (fun _ => rfl) (Nat.le_refl _) ?_
    refine q_al (n := 148) (v := (m.1 80 0)) H (pc := 20) rfl (by decide) (by decide) rfl ?_
    refine q_li (k := 1) (i := 1) (q := (.iload_n 1, 1, 0, 0, .null)) rfl (fun _ => rfl) l1 ?_
    obtain ⟨q22, h22, h⟩ := xbind h
    refine r_callS (as := [.int (m.1 80 0), .int v1]) (rest := [.int v2]) (rv := some (.int q22.1)) (hp' := xW B q22.2) (pc := 22) rfl xr235 rfl rfl rfl (Nat.le_of_ble_eq_true rfl) (Z235 H h22 (by omega)) (Nat.le_refl _) ?_
    refine r_ifc (len := 3) (a := 53) (b := 0) (v0 := .null) (cn := .ge) (off := 28) rfl (fun c => ?_) (fun c => ?_)
    · rw [if_pos c] at h
      refine q_inc (i := 1) (n := 1) (q := (.iinc 1 1, 3, 0, 0, .null)) rfl (fun _ => rfl) l1 (by decide) ?_
      have l0_1 : zld (zs1 lv 1 (.int (v1 + Int32.ofInt 1))) 0 = some (.ref 70) := x_o1 l0 rfl rfl
      have l1_1 : zld (zs1 lv 1 (.int (v1 + Int32.ofInt 1))) 1 = some (.int (v1 + Int32.ofInt 1)) := zs1_ld _ _ _
      have l2_1 : zld (zs1 lv 1 (.int (v1 + Int32.ofInt 1))) 2 = some (.int v2) := x_o1 l2 rfl rfl
      generalize (zs1 lv 1 (.int (v1 + Int32.ofInt 1))) = lv1 at *
      refine r_s (fr' := (2, lv1, [])) (hp' := xW B q22.2) (q := (.goto (-54), 3, 2, 0, .null)) rfl (fun _ => rfl) (Nat.le_refl _) ?_
      exact k2 l0_1 l1_1 h
    · rw [if_neg (by rw [c]; decide)] at h
      refine q_lr (k := 1) (i := 0) (q := (.aload_n 0, 1, 0, 0, .null)) rfl (fun _ => rfl) l0 ?_
      refine q_li (k := 1) (i := 2) (q := (.iload_n 2, 1, 0, 0, .null)) rfl (fun _ => rfl) l2 ?_
      refine q_li (k := 1) (i := 1) (q := (.iload_n 1, 1, 0, 0, .null)) rfl (fun _ => rfl) l1 ?_
      obtain ⟨q31, h31, h⟩ := xbind h
      refine r_call (ix := 70) (as := [.int v2, .int v1]) (rest := []) (rv := some (.int q31.1)) (hp' := xW B q31.2) (pc := 31) rfl xr240 rfl rfl rfl (xkd H (by decide)) (Nat.le_of_ble_eq_true rfl) (Z240 H h31 (by omega)) (Nat.le_refl _) ?_
      refine r_if (len := 3) (a := 40) (b := 0) (v0 := .null) (cn := .ne) (off := 6) rfl (fun c => ?_) (fun c => ?_)
      · rw [if_pos c] at h
        refine q_lr (k := 1) (i := 0) (q := (.aload_n 0, 1, 0, 0, .null)) rfl (fun _ => rfl) l0 ?_
        refine q_li (k := 1) (i := 2) (q := (.iload_n 2, 1, 0, 0, .null)) rfl (fun _ => rfl) l2 ?_
        refine r_pi (s2 := (xu q31.2 70 26 v2)) H (pc := 42) rfl (by decide) rfl rfl ?_
        refine q_li (k := 1) (i := 1) (q := (.iload_n 1, 1, 0, 0, .null)) rfl (fun _ => rfl) l1 ?_
        obtain rfl := Option.some.inj h
        exact q_ri (q := (.ireturn, 1, 0, 0, .null)) rfl (fun _ => rfl) rfl rfl
      · rw [if_neg (by rw [c]; decide)] at h
        refine r_s (fr' := (47, lv, [])) (hp' := xW B q31.2) (q := (.goto 10, 3, 47, 0, .null)) rfl (fun _ => rfl) (Nat.le_refl _) ?_
        refine q_inc (i := 2) (n := 1) (q := (.iinc 2 1, 3, 0, 0, .null)) rfl (fun _ => rfl) l2 (by decide) ?_
        have l0_2 : zld (zs1 lv 2 (.int (v2 + Int32.ofInt 1))) 0 = some (.ref 70) := x_o1 l0 rfl rfl
        have l1_2 : zld (zs1 lv 2 (.int (v2 + Int32.ofInt 1))) 1 = some (.int v1) := x_o1 l1 rfl rfl
        have l2_2 : zld (zs1 lv 2 (.int (v2 + Int32.ofInt 1))) 2 = some (.int (v2 + Int32.ofInt 1)) := zs1_ld _ _ _
        generalize (zs1 lv 2 (.int (v2 + Int32.ofInt 1))) = lv2 at *
        refine r_s (fr' := (14, lv2, [])) (hp' := xW B q31.2) (q := (.goto (-36), 3, 14, 0, .null)) rfl (fun _ => rfl) (Nat.le_refl _) ?_
        exact ih l0_2 l1_2 l2_2 h
def D241_2 (F : Nat) : Nat → Int32 → xS → Option (Int32 × xS)
  | 0, _, _ => none
  | f + 1, v1, m =>
    if zcmp .gt v1 (m.1 80 0) = true then
      some (0, m)
    else
      D241_14 F (D241_2 F f) F v1 0 m
set_option maxRecDepth 20000 in
theorem T241_2 {B : zHp} (H : yH0 B) {e : Nat} (he : 5 ≤ e + 1) (F : Nat) : ∀ (f : Nat) {v1 : Int32} {lv : List (Nat × Value)} {m : xS} {x : Int32 × xS}, zld lv 0 = some (.ref 70) → zld lv 1 = some (.int v1) → D241_2 F f v1 m = some x → zR none e 3 (some .int) zc241 (2, lv, []) (xW B m) (some (.int x.1), xW B x.2) := by
  intro f
  induction f with
  | zero => intro v1 lv m x l0 l1 h; cases h
  | succ f ih =>
    intro v1 lv m x l0 l1 h
    unfold D241_2 at h
    refine q_li (k := 1) (i := 1) (q := (.iload_n 1, 1, 0, 0, .null)) rfl (fun _ => rfl) l1 ?_
    refine q_lr (k := 1) (i := 0) (q := (.aload_n 0, 1, 0, 0, .null)) rfl (fun _ => rfl) l0 ?_
    refine r_gr (c := 80) H (pc := 4) rfl (by decide) (by decide) ?_
    refine r_s (fr' := (8, lv, [.int 0, .ref 80, .int v1])) (hp' := xW B m) (q := (.iconst 0, 1, 0, 0, .null)) rfl (fun _ => rfl) (Nat.le_refl _) ?_
    refine q_al (n := 148) (v := (m.1 80 0)) H (pc := 8) rfl (by decide) (by decide) rfl ?_
    refine r_ifc (len := 3) (a := 59) (b := 0) (v0 := .null) (cn := .gt) (off := 50) rfl (fun c => ?_) (fun c => ?_)
    · rw [if_pos c] at h
      refine r_s (fr' := (60, lv, [.int 0])) (hp' := xW B m) (q := (.iconst 0, 1, 0, 0, .null)) rfl (fun _ => rfl) (Nat.le_refl _) ?_
      obtain rfl := Option.some.inj h
      exact q_ri (q := (.ireturn, 1, 0, 0, .null)) rfl (fun _ => rfl) rfl rfl
    · rw [if_neg (by rw [c]; decide)] at h
      refine r_s (fr' := (13, lv, [.int 0])) (hp' := xW B m) (q := (.iconst 0, 1, 0, 0, .null)) rfl (fun _ => rfl) (Nat.le_refl _) ?_
      refine q_si (k := 1) (i := 2) (q := (.istore_n 2, 1, 0, 0, .null)) rfl (fun _ => rfl) (by decide) ?_
      have l0_1 : zld (zs1 lv 2 (.int 0)) 0 = some (.ref 70) := x_o1 l0 rfl rfl
      have l1_1 : zld (zs1 lv 2 (.int 0)) 1 = some (.int v1) := x_o1 l1 rfl rfl
      have l2_1 : zld (zs1 lv 2 (.int 0)) 2 = some (.int 0) := zs1_ld _ _ _
      generalize (zs1 lv 2 (.int 0)) = lv1 at *
      exact T241_14 H he F _ ih F l0_1 l1_1 l2_1 h
def D241 (F : Nat) (m : xS) : Option (Int32 × xS) :=
  D241_2 F F 2 m
set_option maxRecDepth 20000 in
theorem T241 {B : zHp} (H : yH0 B) {e : Nat} (he : 5 ≤ e + 1) (F : Nat) {lv : List (Nat × Value)} {m : xS} {x : Int32 × xS} (l0 : zld lv 0 = some (.ref 70)) (h : D241 F m = some x) : zR none e 3 (some .int) zc241 (0, lv, []) (xW B m) (some (.int x.1), xW B x.2) := by
  unfold D241 at h
  refine r_s (fr' := (1, lv, [.int 2])) (hp' := xW B m) (q := (.iconst 2, 1, 0, 0, .null)) rfl (fun _ => rfl) (Nat.le_refl _) ?_
  refine q_si (k := 1) (i := 1) (q := (.istore_n 1, 1, 0, 0, .null)) rfl (fun _ => rfl) (by decide) ?_
  have l0_1 : zld (zs1 lv 1 (.int 2)) 0 = some (.ref 70) := x_o1 l0 rfl rfl
  have l1_1 : zld (zs1 lv 1 (.int 2)) 1 = some (.int 2) := zs1_ld _ _ _
  generalize (zs1 lv 1 (.int 2)) = lv1 at *
  exact T241_2 H he F F l0_1 l1_1 h
set_option maxRecDepth 20000 in
theorem Z241 {B : zHp} (H : yH0 B) {F : Nat} {m : xS} {x : Int32 × xS} (h : D241 F m = some x) {d : Nat} (hd : 5 ≤ d) : zCan d 241 [.ref 70] (xW B m) (some (.int x.1), xW B x.2) := by
  obtain ⟨e, rfl⟩ : ∃ e, d = e + 1 := ⟨d - 1, by omega⟩
  refine zCan_body (nL := 3) (rt := (some .int)) (cd := zc241) (xg241) ⟨Nat.le_of_ble_eq_true rfl, by decide⟩ (Nat.le_refl _) ?_
  exact T241 H hd F rfl h
/-- LentToolsModel.ring -/
def D242_26 (F : Nat) : Nat → Int32 → Int32 → xS → Option (Int32 × xS)
  | 0, _, _, _ => none
  | f + 1, v1, v2, m =>
    if zcmp .ge v2 v1 = true then
      some (v1, m)
    else
      (D236 F (m.1 70 26) v1 v2 m).bind fun q46 =>
        if (!(v1 == 0)) = true then
          (D236 F (q46.2.1 70 26) v1 ((v2 + 1) - (v2 + 1) / v1 * v1) q46.2).bind fun q62 =>
            if xib ((82 + (6 * q46.1)) + q62.1) 148 = true then
              if xib ((82 + (6 * q46.1)) + q62.1) 148 = true then
                D242_26 F f v1 (v2 + Int32.ofInt 1) (xu q62.2 80 (((82 + (6 * q46.1)) + q62.1) : Int32).toNatClampNeg ((q62.2.1 80 (((82 + (6 * q46.1)) + q62.1) : Int32).toNatClampNeg) - 1))
              else none
            else none
        else none
set_option maxRecDepth 20000 in
theorem T242_26 {B : zHp} (H : yH0 B) {e : Nat} (he : 6 ≤ e + 1) (F : Nat) : ∀ (f : Nat) {v1 : Int32} {v2 : Int32} {lv : List (Nat × Value)} {m : xS} {x : Int32 × xS}, zld lv 0 = some (.ref 70) → zld lv 1 = some (.int v1) → zld lv 2 = some (.int v2) → D242_26 F f v1 v2 m = some x → zR none e 3 (some .int) zc242 (26, lv, []) (xW B m) (some (.int x.1), xW B x.2) := by
  intro f
  induction f with
  | zero => intro v1 v2 lv m x l0 l1 l2 h; cases h
  | succ f ih =>
    intro v1 v2 lv m x l0 l1 l2 h
    unfold D242_26 at h
    refine q_li (k := 1) (i := 2) (q := (.iload_n 2, 1, 0, 0, .null)) rfl (fun _ => rfl) l2 ?_
    refine q_li (k := 1) (i := 1) (q := (.iload_n 1, 1, 0, 0, .null)) rfl (fun _ => rfl) l1 ?_
    refine r_ifc (len := 3) (a := 77) (b := 0) (v0 := .null) (cn := .ge) (off := 49) rfl (fun c => ?_) (fun c => ?_)
    · rw [if_pos c] at h
      refine q_li (k := 1) (i := 1) (q := (.iload_n 1, 1, 0, 0, .null)) rfl (fun _ => rfl) l1 ?_
      obtain rfl := Option.some.inj h
      exact q_ri (q := (.ireturn, 1, 0, 0, .null)) rfl (fun _ => rfl) rfl rfl
    · rw [if_neg (by rw [c]; decide)] at h
      refine q_lr (k := 1) (i := 0) (q := (.aload_n 0, 1, 0, 0, .null)) rfl (fun _ => rfl) l0 ?_
      refine r_gr (c := 80) H (pc := 32) rfl (by decide) (by decide) ?_
      refine r_s (fr' := (37, lv, [.int 82, .ref 80])) (hp' := xW B m) (q := (.bipush 82, 2, 0, 0, .null)) rfl (fun _ => rfl) (Nat.le_refl _) ?_
      refine r_s (fr' := (39, lv, [.int 6, .int 82, .ref 80])) (hp' := xW B m) (q := (.bipush 6, 2, 0, 0, .null)) rfl (fun _ => rfl) (Nat.le_refl _) ?_
      refine q_lr (k := 1) (i := 0) (q := (.aload_n 0, 1, 0, 0, .null)) rfl (fun _ => rfl) l0 ?_
      refine q_lr (k := 1) (i := 0) (q := (.aload_n 0, 1, 0, 0, .null)) rfl (fun _ => rfl) l0 ?_
      refine r_gi (v := (m.1 70 26)) H (pc := 41) (i := _) rfl (by decide) (by decide) rfl ?_
      refine q_li (k := 1) (i := 1) (q := (.iload_n 1, 1, 0, 0, .null)) rfl (fun _ => rfl) l1 ?_
      refine q_li (k := 1) (i := 2) (q := (.iload_n 2, 1, 0, 0, .null)) rfl (fun _ => rfl) l2 ?_
      obtain ⟨q46, h46, h⟩ := xbind h
      refine r_call (ix := 70) (as := [.int (m.1 70 26), .int v1, .int v2]) (rest := [.int 6, .int 82, .ref 80]) (rv := some (.int q46.1)) (hp' := xW B q46.2) (pc := 46) rfl xr236 rfl rfl rfl (xkd H (by decide)) (Nat.le_of_ble_eq_true rfl) (Z236 H h46 (by omega)) (Nat.le_refl _) ?_
      refine r_s (fr' := (50, lv, [.int (6 * q46.1), .int 82, .ref 80])) (hp' := xW B q46.2) (q := (.imul, 1, 0, 0, .null)) rfl (fun _ => rfl) (Nat.le_refl _) ?_
      refine r_s (fr' := (51, lv, [.int (82 + (6 * q46.1)), .ref 80])) (hp' := xW B q46.2) (q := (.iadd, 1, 0, 0, .null)) rfl (fun _ => rfl) (Nat.le_refl _) ?_
      refine q_lr (k := 1) (i := 0) (q := (.aload_n 0, 1, 0, 0, .null)) rfl (fun _ => rfl) l0 ?_
      refine q_lr (k := 1) (i := 0) (q := (.aload_n 0, 1, 0, 0, .null)) rfl (fun _ => rfl) l0 ?_
      refine r_gi (v := (q46.2.1 70 26)) H (pc := 53) (i := _) rfl (by decide) (by decide) rfl ?_
      refine q_li (k := 1) (i := 1) (q := (.iload_n 1, 1, 0, 0, .null)) rfl (fun _ => rfl) l1 ?_
      refine q_li (k := 1) (i := 2) (q := (.iload_n 2, 1, 0, 0, .null)) rfl (fun _ => rfl) l2 ?_
      refine r_s (fr' := (59, lv, [.int 1, .int v2, .int v1, .int (q46.2.1 70 26), .ref 70, .int (82 + (6 * q46.1)), .ref 80])) (hp' := xW B q46.2) (q := (.iconst 1, 1, 0, 0, .null)) rfl (fun _ => rfl) (Nat.le_refl _) ?_
      refine r_s (fr' := (60, lv, [.int (v2 + 1), .int v1, .int (q46.2.1 70 26), .ref 70, .int (82 + (6 * q46.1)), .ref 80])) (hp' := xW B q46.2) (q := (.iadd, 1, 0, 0, .null)) rfl (fun _ => rfl) (Nat.le_refl _) ?_
      refine q_li (k := 1) (i := 1) (q := (.iload_n 1, 1, 0, 0, .null)) rfl (fun _ => rfl) l1 ?_
      obtain ⟨c1, h⟩ := xif h
      refine q_div (f := fun x y => x - x / y * y) (q := (.irem, 1, 0, 0, .null)) rfl (fun _ => rfl) c1 ?_
      obtain ⟨q62, h62, h⟩ := xbind h
      refine r_call (ix := 70) (as := [.int (q46.2.1 70 26), .int v1, .int ((v2 + 1) - (v2 + 1) / v1 * v1)]) (rest := [.int (82 + (6 * q46.1)), .ref 80]) (rv := some (.int q62.1)) (hp' := xW B q62.2) (pc := 62) rfl xr236 rfl rfl rfl (xkd H (by decide)) (Nat.le_of_ble_eq_true rfl) (Z236 H h62 (by omega)) (Nat.le_refl _) ?_
      refine r_s (fr' := (66, lv, [.int ((82 + (6 * q46.1)) + q62.1), .ref 80])) (hp' := xW B q62.2) (q := (.iadd, 1, 0, 0, .null)) rfl (fun _ => rfl) (Nat.le_refl _) ?_
      refine r_s (fr' := (67, lv, [.int ((82 + (6 * q46.1)) + q62.1), .ref 80, .int ((82 + (6 * q46.1)) + q62.1), .ref 80])) (hp' := xW B q62.2) (q := (.dup2, 1, 0, 0, .null)) rfl (fun _ => rfl) (Nat.le_refl _) ?_
      obtain ⟨c2, h⟩ := xif h
      refine q_al (n := 148) (v := (q62.2.1 80 (((82 + (6 * q46.1)) + q62.1) : Int32).toNatClampNeg)) H (pc := 67) rfl (by decide) c2 rfl ?_
      refine r_s (fr' := (69, lv, [.int 1, .int (q62.2.1 80 (((82 + (6 * q46.1)) + q62.1) : Int32).toNatClampNeg), .int ((82 + (6 * q46.1)) + q62.1), .ref 80])) (hp' := xW B q62.2) (q := (.iconst 1, 1, 0, 0, .null)) rfl (fun _ => rfl) (Nat.le_refl _) ?_
      refine r_s (fr' := (70, lv, [.int ((q62.2.1 80 (((82 + (6 * q46.1)) + q62.1) : Int32).toNatClampNeg) - 1), .int ((82 + (6 * q46.1)) + q62.1), .ref 80])) (hp' := xW B q62.2) (q := (.isub, 1, 0, 0, .null)) rfl (fun _ => rfl) (Nat.le_refl _) ?_
      obtain ⟨c3, h⟩ := xif h
      refine q_as (n := 148) (s2 := (xu q62.2 80 (((82 + (6 * q46.1)) + q62.1) : Int32).toNatClampNeg ((q62.2.1 80 (((82 + (6 * q46.1)) + q62.1) : Int32).toNatClampNeg) - 1))) H (pc := 70) rfl (by decide) c3 rfl ?_
      refine q_inc (i := 2) (n := 1) (q := (.iinc 2 1, 3, 0, 0, .null)) rfl (fun _ => rfl) l2 (by decide) ?_
      have l0_4 : zld (zs1 lv 2 (.int (v2 + Int32.ofInt 1))) 0 = some (.ref 70) := x_o1 l0 rfl rfl
      have l1_4 : zld (zs1 lv 2 (.int (v2 + Int32.ofInt 1))) 1 = some (.int v1) := x_o1 l1 rfl rfl
      have l2_4 : zld (zs1 lv 2 (.int (v2 + Int32.ofInt 1))) 2 = some (.int (v2 + Int32.ofInt 1)) := zs1_ld _ _ _
      generalize (zs1 lv 2 (.int (v2 + Int32.ofInt 1))) = lv4 at *
      refine r_s (fr' := (26, lv4, [])) (hp' := xW B (xu q62.2 80 (((82 + (6 * q46.1)) + q62.1) : Int32).toNatClampNeg ((q62.2.1 80 (((82 + (6 * q46.1)) + q62.1) : Int32).toNatClampNeg) - 1))) (q := (.goto (-48), 3, 26, 0, .null)) rfl (fun _ => rfl) (Nat.le_refl _) ?_
      exact ih l0_4 l1_4 l2_4 h
def D242 (F : Nat) (m : xS) : Option (Int32 × xS) :=
  (D204 F m).bind fun q1 =>
    if zcmp .ne q1.1 0 = true then
      (D241 F q1.2).bind fun q10 =>
        if zcmp .ne q10.1 0 = true then
          (D220 F q10.2).bind fun q21 =>
            D242_26 F F q10.1 0 q21.2
        else
          some ((-1), q10.2)
    else
      some ((-1), q1.2)
set_option maxRecDepth 20000 in
theorem T242 {B : zHp} (H : yH0 B) {e : Nat} (he : 6 ≤ e + 1) (F : Nat) {lv : List (Nat × Value)} {m : xS} {x : Int32 × xS} (l0 : zld lv 0 = some (.ref 70)) (h : D242 F m = some x) : zR none e 3 (some .int) zc242 (0, lv, []) (xW B m) (some (.int x.1), xW B x.2) := by
  unfold D242 at h
  refine q_lr (k := 1) (i := 0) (q := (.aload_n 0, 1, 0, 0, .null)) rfl (fun _ => rfl) l0 ?_
  obtain ⟨q1, h1, h⟩ := xbind h
  refine r_call (ix := 70) (as := []) (rest := []) (rv := some (.int q1.1)) (hp' := xW B q1.2) (pc := 1) rfl xr204 rfl rfl rfl (xkd H (by decide)) (Nat.le_of_ble_eq_true rfl) (Z204 H h1 (by omega)) (Nat.le_refl _) ?_
  refine r_if (len := 3) (a := 9) (b := 0) (v0 := .null) (cn := .ne) (off := 5) rfl (fun c => ?_) (fun c => ?_)
  · rw [if_pos c] at h
    refine q_lr (k := 1) (i := 0) (q := (.aload_n 0, 1, 0, 0, .null)) rfl (fun _ => rfl) l0 ?_
    obtain ⟨q10, h10, h⟩ := xbind h
    refine r_call (ix := 70) (as := []) (rest := []) (rv := some (.int q10.1)) (hp' := xW B q10.2) (pc := 10) rfl xr241 rfl rfl rfl (xkd H (by decide)) (Nat.le_of_ble_eq_true rfl) (Z241 H h10 (by omega)) (Nat.le_refl _) ?_
    refine q_si (k := 1) (i := 1) (q := (.istore_n 1, 1, 0, 0, .null)) rfl (fun _ => rfl) (by decide) ?_
    have l0_1 : zld (zs1 lv 1 (.int q10.1)) 0 = some (.ref 70) := x_o1 l0 rfl rfl
    have l1_1 : zld (zs1 lv 1 (.int q10.1)) 1 = some (.int q10.1) := zs1_ld _ _ _
    generalize (zs1 lv 1 (.int q10.1)) = lv1 at *
    refine q_li (k := 1) (i := 1) (q := (.iload_n 1, 1, 0, 0, .null)) rfl (fun _ => rfl) l1_1 ?_
    refine r_if (len := 3) (a := 20) (b := 0) (v0 := .null) (cn := .ne) (off := 5) rfl (fun c => ?_) (fun c => ?_)
    · rw [if_pos c] at h
      refine q_lr (k := 1) (i := 0) (q := (.aload_n 0, 1, 0, 0, .null)) rfl (fun _ => rfl) l0_1 ?_
      obtain ⟨q21, h21, h⟩ := xbind h
      refine r_call (ix := 70) (as := []) (rest := []) (rv := none) (hp' := xW B q21.2) (pc := 21) rfl xr220 rfl rfl rfl (xkd H (by decide)) (Nat.le_of_ble_eq_true rfl) (Z220 H h21 (by omega)) (Nat.le_refl _) ?_
      refine r_s (fr' := (25, lv1, [.int 0])) (hp' := xW B q21.2) (q := (.iconst 0, 1, 0, 0, .null)) rfl (fun _ => rfl) (Nat.le_refl _) ?_
      refine q_si (k := 1) (i := 2) (q := (.istore_n 2, 1, 0, 0, .null)) rfl (fun _ => rfl) (by decide) ?_
      have l0_2 : zld (zs1 lv1 2 (.int 0)) 0 = some (.ref 70) := x_o1 l0_1 rfl rfl
      have l1_2 : zld (zs1 lv1 2 (.int 0)) 1 = some (.int q10.1) := x_o1 l1_1 rfl rfl
      have l2_2 : zld (zs1 lv1 2 (.int 0)) 2 = some (.int 0) := zs1_ld _ _ _
      generalize (zs1 lv1 2 (.int 0)) = lv2 at *
      exact T242_26 H he F F l0_2 l1_2 l2_2 h
    · rw [if_neg (by rw [c]; decide)] at h
      refine r_s (fr' := (19, lv1, [.int (-1)])) (hp' := xW B q10.2) (q := (.iconst (-1), 1, 0, 0, .null)) rfl (fun _ => rfl) (Nat.le_refl _) ?_
      obtain rfl := Option.some.inj h
      exact q_ri (q := (.ireturn, 1, 0, 0, .null)) rfl (fun _ => rfl) rfl rfl
  · rw [if_neg (by rw [c]; decide)] at h
    refine r_s (fr' := (8, lv, [.int (-1)])) (hp' := xW B q1.2) (q := (.iconst (-1), 1, 0, 0, .null)) rfl (fun _ => rfl) (Nat.le_refl _) ?_
    obtain rfl := Option.some.inj h
    exact q_ri (q := (.ireturn, 1, 0, 0, .null)) rfl (fun _ => rfl) rfl rfl
set_option maxRecDepth 20000 in
theorem Z242 {B : zHp} (H : yH0 B) {F : Nat} {m : xS} {x : Int32 × xS} (h : D242 F m = some x) {d : Nat} (hd : 6 ≤ d) : zCan d 242 [.ref 70] (xW B m) (some (.int x.1), xW B x.2) := by
  obtain ⟨e, rfl⟩ : ∃ e, d = e + 1 := ⟨d - 1, by omega⟩
  refine zCan_body (nL := 3) (rt := (some .int)) (cd := zc242) (xg242) ⟨Nat.le_of_ble_eq_true rfl, by decide⟩ (Nat.le_refl _) ?_
  exact T242 H hd F rfl h
/-- LentToolsModel.owedFrom -/
def D263_86 (F : Nat) (g4 : Int32 → Int32 → Int32 → xS → Option (Int32 × xS)) (g26 : Int32 → Int32 → Int32 → Int32 → Int32 → xS → Option (Int32 × xS)) (g40 : Int32 → Int32 → Int32 → Int32 → Int32 → Int32 → xS → Option (Int32 × xS)) (v1 : Int32) (v2 : Int32) (v3 : Int32) (v4 : Int32) (v5 : Int32) (v6 : Int32) (m : xS) : Option (Int32 × xS) :=
  g40 v1 v2 v3 v4 v5 (v6 + Int32.ofInt 1) m
set_option maxRecDepth 20000 in
theorem T263_86 {B : zHp} (H : yH0 B) {e : Nat} (he : 2 ≤ e + 1) (F : Nat) (g4 : Int32 → Int32 → Int32 → xS → Option (Int32 × xS)) (g26 : Int32 → Int32 → Int32 → Int32 → Int32 → xS → Option (Int32 × xS)) (g40 : Int32 → Int32 → Int32 → Int32 → Int32 → Int32 → xS → Option (Int32 × xS)) (k4 : ∀ {v1 : Int32} {v2 : Int32} {v3 : Int32} {lv : List (Nat × Value)} {m : xS} {x : Int32 × xS}, zld lv 0 = some (.ref 70) → zld lv 1 = some (.int v1) → zld lv 2 = some (.int v2) → zld lv 3 = some (.int v3) → g4 v1 v2 v3 m = some x → zR none e 7 (some .int) zc263 (4, lv, []) (xW B m) (some (.int x.1), xW B x.2)) (k26 : ∀ {v1 : Int32} {v2 : Int32} {v3 : Int32} {v4 : Int32} {v5 : Int32} {lv : List (Nat × Value)} {m : xS} {x : Int32 × xS}, zld lv 0 = some (.ref 70) → zld lv 1 = some (.int v1) → zld lv 2 = some (.int v2) → zld lv 3 = some (.int v3) → zld lv 4 = some (.int v4) → zld lv 5 = some (.int v5) → g26 v1 v2 v3 v4 v5 m = some x → zR none e 7 (some .int) zc263 (26, lv, []) (xW B m) (some (.int x.1), xW B x.2)) (k40 : ∀ {v1 : Int32} {v2 : Int32} {v3 : Int32} {v4 : Int32} {v5 : Int32} {v6 : Int32} {lv : List (Nat × Value)} {m : xS} {x : Int32 × xS}, zld lv 0 = some (.ref 70) → zld lv 1 = some (.int v1) → zld lv 2 = some (.int v2) → zld lv 3 = some (.int v3) → zld lv 4 = some (.int v4) → zld lv 5 = some (.int v5) → zld lv 6 = some (.int v6) → g40 v1 v2 v3 v4 v5 v6 m = some x → zR none e 7 (some .int) zc263 (40, lv, []) (xW B m) (some (.int x.1), xW B x.2)) {v1 : Int32} {v2 : Int32} {v3 : Int32} {v4 : Int32} {v5 : Int32} {v6 : Int32} {lv : List (Nat × Value)} {m : xS} {x : Int32 × xS} (l0 : zld lv 0 = some (.ref 70)) (l1 : zld lv 1 = some (.int v1)) (l2 : zld lv 2 = some (.int v2)) (l3 : zld lv 3 = some (.int v3)) (l4 : zld lv 4 = some (.int v4)) (l5 : zld lv 5 = some (.int v5)) (l6 : zld lv 6 = some (.int v6)) (h : D263_86 F g4 g26 g40 v1 v2 v3 v4 v5 v6 m = some x) : zR none e 7 (some .int) zc263 (86, lv, []) (xW B m) (some (.int x.1), xW B x.2) := by
  unfold D263_86 at h
  refine q_inc (i := 6) (n := 1) (q := (.iinc 6 1, 3, 0, 0, .null)) rfl (fun _ => rfl) l6 (by decide) ?_
  have l0_1 : zld (zs1 lv 6 (.int (v6 + Int32.ofInt 1))) 0 = some (.ref 70) := x_o1 l0 rfl rfl
  have l1_1 : zld (zs1 lv 6 (.int (v6 + Int32.ofInt 1))) 1 = some (.int v1) := x_o1 l1 rfl rfl
  have l2_1 : zld (zs1 lv 6 (.int (v6 + Int32.ofInt 1))) 2 = some (.int v2) := x_o1 l2 rfl rfl
  have l3_1 : zld (zs1 lv 6 (.int (v6 + Int32.ofInt 1))) 3 = some (.int v3) := x_o1 l3 rfl rfl
  have l4_1 : zld (zs1 lv 6 (.int (v6 + Int32.ofInt 1))) 4 = some (.int v4) := x_o1 l4 rfl rfl
  have l5_1 : zld (zs1 lv 6 (.int (v6 + Int32.ofInt 1))) 5 = some (.int v5) := x_o1 l5 rfl rfl
  have l6_1 : zld (zs1 lv 6 (.int (v6 + Int32.ofInt 1))) 6 = some (.int (v6 + Int32.ofInt 1)) := zs1_ld _ _ _
  generalize (zs1 lv 6 (.int (v6 + Int32.ofInt 1))) = lv1 at *
  refine r_s (fr' := (40, lv1, [])) (hp' := xW B m) (q := (.goto (-49), 3, 40, 0, .null)) rfl (fun _ => rfl) (Nat.le_refl _) ?_
  exact k40 l0_1 l1_1 l2_1 l3_1 l4_1 l5_1 l6_1 h
def D263_40 (F : Nat) (g4 : Int32 → Int32 → Int32 → xS → Option (Int32 × xS)) (g26 : Int32 → Int32 → Int32 → Int32 → Int32 → xS → Option (Int32 × xS)) : Nat → Int32 → Int32 → Int32 → Int32 → Int32 → Int32 → xS → Option (Int32 × xS)
  | 0, _, _, _, _, _, _, _ => none
  | f + 1, v1, v2, v3, v4, v5, v6, m =>
    if zcmp .ge v6 (m.1 80 0) = true then
      g26 v1 v2 v3 v4 (v5 + Int32.ofInt 1) m
    else
      (D159 F v4 v5 m).bind fun q55 =>
        if zcmp .eq q55.1 0 = true then
          D263_86 F g4 g26 (D263_40 F g4 g26 f) v1 v2 v3 v4 v5 v6 q55.2
        else
          if zcmp .eq v5 v6 = true then
            D263_86 F g4 g26 (D263_40 F g4 g26 f) v1 v2 v3 v4 v5 v6 q55.2
          else
            (D211 F v5 v6 q55.2).bind fun q73 =>
              if zcmp .le q73.1 0 = true then
                D263_86 F g4 g26 (D263_40 F g4 g26 f) v1 v2 v3 v4 v5 v6 q73.2
              else
                D263_86 F g4 g26 (D263_40 F g4 g26 f) v1 (v2 ||| (1 <<< (v6 &&& 31))) v3 v4 v5 v6 q73.2
set_option maxRecDepth 20000 in
theorem T263_40 {B : zHp} (H : yH0 B) {e : Nat} (he : 2 ≤ e + 1) (F : Nat) (g4 : Int32 → Int32 → Int32 → xS → Option (Int32 × xS)) (g26 : Int32 → Int32 → Int32 → Int32 → Int32 → xS → Option (Int32 × xS)) (k4 : ∀ {v1 : Int32} {v2 : Int32} {v3 : Int32} {lv : List (Nat × Value)} {m : xS} {x : Int32 × xS}, zld lv 0 = some (.ref 70) → zld lv 1 = some (.int v1) → zld lv 2 = some (.int v2) → zld lv 3 = some (.int v3) → g4 v1 v2 v3 m = some x → zR none e 7 (some .int) zc263 (4, lv, []) (xW B m) (some (.int x.1), xW B x.2)) (k26 : ∀ {v1 : Int32} {v2 : Int32} {v3 : Int32} {v4 : Int32} {v5 : Int32} {lv : List (Nat × Value)} {m : xS} {x : Int32 × xS}, zld lv 0 = some (.ref 70) → zld lv 1 = some (.int v1) → zld lv 2 = some (.int v2) → zld lv 3 = some (.int v3) → zld lv 4 = some (.int v4) → zld lv 5 = some (.int v5) → g26 v1 v2 v3 v4 v5 m = some x → zR none e 7 (some .int) zc263 (26, lv, []) (xW B m) (some (.int x.1), xW B x.2)) : ∀ (f : Nat) {v1 : Int32} {v2 : Int32} {v3 : Int32} {v4 : Int32} {v5 : Int32} {v6 : Int32} {lv : List (Nat × Value)} {m : xS} {x : Int32 × xS}, zld lv 0 = some (.ref 70) → zld lv 1 = some (.int v1) → zld lv 2 = some (.int v2) → zld lv 3 = some (.int v3) → zld lv 4 = some (.int v4) → zld lv 5 = some (.int v5) → zld lv 6 = some (.int v6) → D263_40 F g4 g26 f v1 v2 v3 v4 v5 v6 m = some x → zR none e 7 (some .int) zc263 (40, lv, []) (xW B m) (some (.int x.1), xW B x.2) := by
  intro f
  induction f with
  | zero => intro v1 v2 v3 v4 v5 v6 lv m x l0 l1 l2 l3 l4 l5 l6 h; cases h
  | succ f ih =>
    intro v1 v2 v3 v4 v5 v6 lv m x l0 l1 l2 l3 l4 l5 l6 h
    unfold D263_40 at h
    refine q_li (k := 2) (i := 6) (q := (.iload 6, 2, 0, 0, .null)) rfl (fun _ => rfl) l6 ?_
    refine q_lr (k := 1) (i := 0) (q := (.aload_n 0, 1, 0, 0, .null)) rfl (fun _ => rfl) l0 ?_
    refine r_gr (c := 80) H (pc := 43) rfl (by decide) (by decide) ?_
    refine r_s (fr' := (47, lv, [.int 0, .ref 80, .int v6])) (hp' := xW B m) (q := (.iconst 0, 1, 0, 0, .null)) rfl (fun _ => rfl) (Nat.le_refl _) ?_
    refine q_al (n := 148) (v := (m.1 80 0)) H (pc := 47) rfl (by decide) (by decide) rfl ?_
    refine r_ifc (len := 3) (a := 92) (b := 0) (v0 := .null) (cn := .ge) (off := 44) rfl (fun c => ?_) (fun c => ?_)
    · rw [if_pos c] at h
      refine q_inc (i := 5) (n := 1) (q := (.iinc 5 1, 3, 0, 0, .null)) rfl (fun _ => rfl) l5 (by decide) ?_
      have l0_1 : zld (zs1 lv 5 (.int (v5 + Int32.ofInt 1))) 0 = some (.ref 70) := x_o1 l0 rfl rfl
      have l1_1 : zld (zs1 lv 5 (.int (v5 + Int32.ofInt 1))) 1 = some (.int v1) := x_o1 l1 rfl rfl
      have l2_1 : zld (zs1 lv 5 (.int (v5 + Int32.ofInt 1))) 2 = some (.int v2) := x_o1 l2 rfl rfl
      have l3_1 : zld (zs1 lv 5 (.int (v5 + Int32.ofInt 1))) 3 = some (.int v3) := x_o1 l3 rfl rfl
      have l4_1 : zld (zs1 lv 5 (.int (v5 + Int32.ofInt 1))) 4 = some (.int v4) := x_o1 l4 rfl rfl
      have l5_1 : zld (zs1 lv 5 (.int (v5 + Int32.ofInt 1))) 5 = some (.int (v5 + Int32.ofInt 1)) := zs1_ld _ _ _
      have l6_1 : zld (zs1 lv 5 (.int (v5 + Int32.ofInt 1))) 6 = some (.int v6) := x_o1 l6 rfl rfl
      generalize (zs1 lv 5 (.int (v5 + Int32.ofInt 1))) = lv1 at *
      refine r_s (fr' := (26, lv1, [])) (hp' := xW B m) (q := (.goto (-69), 3, 26, 0, .null)) rfl (fun _ => rfl) (Nat.le_refl _) ?_
      exact k26 l0_1 l1_1 l2_1 l3_1 l4_1 l5_1 h
    · rw [if_neg (by rw [c]; decide)] at h
      refine q_li (k := 2) (i := 4) (q := (.iload 4, 2, 0, 0, .null)) rfl (fun _ => rfl) l4 ?_
      refine q_li (k := 2) (i := 5) (q := (.iload 5, 2, 0, 0, .null)) rfl (fun _ => rfl) l5 ?_
      obtain ⟨q55, h55, h⟩ := xbind h
      refine r_callS (as := [.int v4, .int v5]) (rest := []) (rv := some (.int q55.1)) (hp' := xW B q55.2) (pc := 55) rfl xr159 rfl rfl rfl (Nat.le_of_ble_eq_true rfl) (Z159 H h55 (by omega)) (Nat.le_refl _) ?_
      refine r_if (len := 3) (a := 86) (b := 0) (v0 := .null) (cn := .eq) (off := 28) rfl (fun c => ?_) (fun c => ?_)
      · rw [if_pos c] at h
        exact T263_86 H he F _ _ _ k4 k26 ih l0 l1 l2 l3 l4 l5 l6 h
      · rw [if_neg (by rw [c]; decide)] at h
        refine q_li (k := 2) (i := 5) (q := (.iload 5, 2, 0, 0, .null)) rfl (fun _ => rfl) l5 ?_
        refine q_li (k := 2) (i := 6) (q := (.iload 6, 2, 0, 0, .null)) rfl (fun _ => rfl) l6 ?_
        refine r_ifc (len := 3) (a := 86) (b := 0) (v0 := .null) (cn := .eq) (off := 21) rfl (fun c => ?_) (fun c => ?_)
        · rw [if_pos c] at h
          exact T263_86 H he F _ _ _ k4 k26 ih l0 l1 l2 l3 l4 l5 l6 h
        · rw [if_neg (by rw [c]; decide)] at h
          refine q_lr (k := 1) (i := 0) (q := (.aload_n 0, 1, 0, 0, .null)) rfl (fun _ => rfl) l0 ?_
          refine q_li (k := 2) (i := 5) (q := (.iload 5, 2, 0, 0, .null)) rfl (fun _ => rfl) l5 ?_
          refine q_li (k := 2) (i := 6) (q := (.iload 6, 2, 0, 0, .null)) rfl (fun _ => rfl) l6 ?_
          obtain ⟨q73, h73, h⟩ := xbind h
          refine r_call (ix := 70) (as := [.int v5, .int v6]) (rest := []) (rv := some (.int q73.1)) (hp' := xW B q73.2) (pc := 73) rfl xr211 rfl rfl rfl (xkd H (by decide)) (Nat.le_of_ble_eq_true rfl) (Z211 H h73 (by omega)) (Nat.le_refl _) ?_
          refine r_if (len := 3) (a := 86) (b := 0) (v0 := .null) (cn := .le) (off := 10) rfl (fun c => ?_) (fun c => ?_)
          · rw [if_pos c] at h
            exact T263_86 H he F _ _ _ k4 k26 ih l0 l1 l2 l3 l4 l5 l6 h
          · rw [if_neg (by rw [c]; decide)] at h
            refine q_li (k := 1) (i := 2) (q := (.iload_n 2, 1, 0, 0, .null)) rfl (fun _ => rfl) l2 ?_
            refine r_s (fr' := (81, lv, [.int 1, .int v2])) (hp' := xW B q73.2) (q := (.iconst 1, 1, 0, 0, .null)) rfl (fun _ => rfl) (Nat.le_refl _) ?_
            refine q_li (k := 2) (i := 6) (q := (.iload 6, 2, 0, 0, .null)) rfl (fun _ => rfl) l6 ?_
            refine r_s (fr' := (84, lv, [.int (1 <<< (v6 &&& 31)), .int v2])) (hp' := xW B q73.2) (q := (.ishl, 1, 0, 0, .null)) rfl (fun _ => rfl) (Nat.le_refl _) ?_
            refine r_s (fr' := (85, lv, [.int (v2 ||| (1 <<< (v6 &&& 31)))])) (hp' := xW B q73.2) (q := (.ior, 1, 0, 0, .null)) rfl (fun _ => rfl) (Nat.le_refl _) ?_
            refine q_si (k := 1) (i := 2) (q := (.istore_n 2, 1, 0, 0, .null)) rfl (fun _ => rfl) (by decide) ?_
            have l0_2 : zld (zs1 lv 2 (.int (v2 ||| (1 <<< (v6 &&& 31))))) 0 = some (.ref 70) := x_o1 l0 rfl rfl
            have l1_2 : zld (zs1 lv 2 (.int (v2 ||| (1 <<< (v6 &&& 31))))) 1 = some (.int v1) := x_o1 l1 rfl rfl
            have l2_2 : zld (zs1 lv 2 (.int (v2 ||| (1 <<< (v6 &&& 31))))) 2 = some (.int (v2 ||| (1 <<< (v6 &&& 31)))) := zs1_ld _ _ _
            have l3_2 : zld (zs1 lv 2 (.int (v2 ||| (1 <<< (v6 &&& 31))))) 3 = some (.int v3) := x_o1 l3 rfl rfl
            have l4_2 : zld (zs1 lv 2 (.int (v2 ||| (1 <<< (v6 &&& 31))))) 4 = some (.int v4) := x_o1 l4 rfl rfl
            have l5_2 : zld (zs1 lv 2 (.int (v2 ||| (1 <<< (v6 &&& 31))))) 5 = some (.int v5) := x_o1 l5 rfl rfl
            have l6_2 : zld (zs1 lv 2 (.int (v2 ||| (1 <<< (v6 &&& 31))))) 6 = some (.int v6) := x_o1 l6 rfl rfl
            generalize (zs1 lv 2 (.int (v2 ||| (1 <<< (v6 &&& 31))))) = lv2 at *
            exact T263_86 H he F _ _ _ k4 k26 ih l0_2 l1_2 l2_2 l3_2 l4_2 l5_2 l6_2 h
def D263_26 (F : Nat) (g4 : Int32 → Int32 → Int32 → xS → Option (Int32 × xS)) : Nat → Int32 → Int32 → Int32 → Int32 → Int32 → xS → Option (Int32 × xS)
  | 0, _, _, _, _, _, _ => none
  | f + 1, v1, v2, v3, v4, v5, m =>
    if zcmp .ge v5 (m.1 80 0) = true then
      g4 v1 v2 (v3 + Int32.ofInt 1) m
    else
      D263_40 F g4 (D263_26 F g4 f) F v1 v2 v3 v4 v5 0 m
set_option maxRecDepth 20000 in
theorem T263_26 {B : zHp} (H : yH0 B) {e : Nat} (he : 2 ≤ e + 1) (F : Nat) (g4 : Int32 → Int32 → Int32 → xS → Option (Int32 × xS)) (k4 : ∀ {v1 : Int32} {v2 : Int32} {v3 : Int32} {lv : List (Nat × Value)} {m : xS} {x : Int32 × xS}, zld lv 0 = some (.ref 70) → zld lv 1 = some (.int v1) → zld lv 2 = some (.int v2) → zld lv 3 = some (.int v3) → g4 v1 v2 v3 m = some x → zR none e 7 (some .int) zc263 (4, lv, []) (xW B m) (some (.int x.1), xW B x.2)) : ∀ (f : Nat) {v1 : Int32} {v2 : Int32} {v3 : Int32} {v4 : Int32} {v5 : Int32} {lv : List (Nat × Value)} {m : xS} {x : Int32 × xS}, zld lv 0 = some (.ref 70) → zld lv 1 = some (.int v1) → zld lv 2 = some (.int v2) → zld lv 3 = some (.int v3) → zld lv 4 = some (.int v4) → zld lv 5 = some (.int v5) → D263_26 F g4 f v1 v2 v3 v4 v5 m = some x → zR none e 7 (some .int) zc263 (26, lv, []) (xW B m) (some (.int x.1), xW B x.2) := by
  intro f
  induction f with
  | zero => intro v1 v2 v3 v4 v5 lv m x l0 l1 l2 l3 l4 l5 h; cases h
  | succ f ih =>
    intro v1 v2 v3 v4 v5 lv m x l0 l1 l2 l3 l4 l5 h
    unfold D263_26 at h
    refine q_li (k := 2) (i := 5) (q := (.iload 5, 2, 0, 0, .null)) rfl (fun _ => rfl) l5 ?_
    refine q_lr (k := 1) (i := 0) (q := (.aload_n 0, 1, 0, 0, .null)) rfl (fun _ => rfl) l0 ?_
    refine r_gr (c := 80) H (pc := 29) rfl (by decide) (by decide) ?_
    refine r_s (fr' := (33, lv, [.int 0, .ref 80, .int v5])) (hp' := xW B m) (q := (.iconst 0, 1, 0, 0, .null)) rfl (fun _ => rfl) (Nat.le_refl _) ?_
    refine q_al (n := 148) (v := (m.1 80 0)) H (pc := 33) rfl (by decide) (by decide) rfl ?_
    refine r_ifc (len := 3) (a := 98) (b := 0) (v0 := .null) (cn := .ge) (off := 64) rfl (fun c => ?_) (fun c => ?_)
    · rw [if_pos c] at h
      refine q_inc (i := 3) (n := 1) (q := (.iinc 3 1, 3, 0, 0, .null)) rfl (fun _ => rfl) l3 (by decide) ?_
      have l0_1 : zld (zs1 lv 3 (.int (v3 + Int32.ofInt 1))) 0 = some (.ref 70) := x_o1 l0 rfl rfl
      have l1_1 : zld (zs1 lv 3 (.int (v3 + Int32.ofInt 1))) 1 = some (.int v1) := x_o1 l1 rfl rfl
      have l2_1 : zld (zs1 lv 3 (.int (v3 + Int32.ofInt 1))) 2 = some (.int v2) := x_o1 l2 rfl rfl
      have l3_1 : zld (zs1 lv 3 (.int (v3 + Int32.ofInt 1))) 3 = some (.int (v3 + Int32.ofInt 1)) := zs1_ld _ _ _
      have l4_1 : zld (zs1 lv 3 (.int (v3 + Int32.ofInt 1))) 4 = some (.int v4) := x_o1 l4 rfl rfl
      have l5_1 : zld (zs1 lv 3 (.int (v3 + Int32.ofInt 1))) 5 = some (.int v5) := x_o1 l5 rfl rfl
      generalize (zs1 lv 3 (.int (v3 + Int32.ofInt 1))) = lv1 at *
      refine r_s (fr' := (4, lv1, [])) (hp' := xW B m) (q := (.goto (-97), 3, 4, 0, .null)) rfl (fun _ => rfl) (Nat.le_refl _) ?_
      exact k4 l0_1 l1_1 l2_1 l3_1 h
    · rw [if_neg (by rw [c]; decide)] at h
      refine r_s (fr' := (38, lv, [.int 0])) (hp' := xW B m) (q := (.iconst 0, 1, 0, 0, .null)) rfl (fun _ => rfl) (Nat.le_refl _) ?_
      refine q_si (k := 2) (i := 6) (q := (.istore 6, 2, 0, 0, .null)) rfl (fun _ => rfl) (by decide) ?_
      have l0_2 : zld (zs1 lv 6 (.int 0)) 0 = some (.ref 70) := x_o1 l0 rfl rfl
      have l1_2 : zld (zs1 lv 6 (.int 0)) 1 = some (.int v1) := x_o1 l1 rfl rfl
      have l2_2 : zld (zs1 lv 6 (.int 0)) 2 = some (.int v2) := x_o1 l2 rfl rfl
      have l3_2 : zld (zs1 lv 6 (.int 0)) 3 = some (.int v3) := x_o1 l3 rfl rfl
      have l4_2 : zld (zs1 lv 6 (.int 0)) 4 = some (.int v4) := x_o1 l4 rfl rfl
      have l5_2 : zld (zs1 lv 6 (.int 0)) 5 = some (.int v5) := x_o1 l5 rfl rfl
      have l6_2 : zld (zs1 lv 6 (.int 0)) 6 = some (.int 0) := zs1_ld _ _ _
      generalize (zs1 lv 6 (.int 0)) = lv2 at *
      exact T263_40 H he F _ _ k4 ih F l0_2 l1_2 l2_2 l3_2 l4_2 l5_2 l6_2 h
def D263_21 (F : Nat) (g4 : Int32 → Int32 → Int32 → xS → Option (Int32 × xS)) (v1 : Int32) (v2 : Int32) (v3 : Int32) (w0 : Int32) (m : xS) : Option (Int32 × xS) :=
  D263_26 F g4 F v1 v2 v3 w0 0 m
set_option maxRecDepth 20000 in
theorem T263_21 {B : zHp} (H : yH0 B) {e : Nat} (he : 2 ≤ e + 1) (F : Nat) (g4 : Int32 → Int32 → Int32 → xS → Option (Int32 × xS)) (k4 : ∀ {v1 : Int32} {v2 : Int32} {v3 : Int32} {lv : List (Nat × Value)} {m : xS} {x : Int32 × xS}, zld lv 0 = some (.ref 70) → zld lv 1 = some (.int v1) → zld lv 2 = some (.int v2) → zld lv 3 = some (.int v3) → g4 v1 v2 v3 m = some x → zR none e 7 (some .int) zc263 (4, lv, []) (xW B m) (some (.int x.1), xW B x.2)) {v1 : Int32} {v2 : Int32} {v3 : Int32} {w0 : Int32} {lv : List (Nat × Value)} {m : xS} {x : Int32 × xS} (l0 : zld lv 0 = some (.ref 70)) (l1 : zld lv 1 = some (.int v1)) (l2 : zld lv 2 = some (.int v2)) (l3 : zld lv 3 = some (.int v3)) (h : D263_21 F g4 v1 v2 v3 w0 m = some x) : zR none e 7 (some .int) zc263 (21, lv, [.int w0]) (xW B m) (some (.int x.1), xW B x.2) := by
  unfold D263_21 at h
  refine q_si (k := 2) (i := 4) (q := (.istore 4, 2, 0, 0, .null)) rfl (fun _ => rfl) (by decide) ?_
  have l0_1 : zld (zs1 lv 4 (.int w0)) 0 = some (.ref 70) := x_o1 l0 rfl rfl
  have l1_1 : zld (zs1 lv 4 (.int w0)) 1 = some (.int v1) := x_o1 l1 rfl rfl
  have l2_1 : zld (zs1 lv 4 (.int w0)) 2 = some (.int v2) := x_o1 l2 rfl rfl
  have l3_1 : zld (zs1 lv 4 (.int w0)) 3 = some (.int v3) := x_o1 l3 rfl rfl
  have l4_1 : zld (zs1 lv 4 (.int w0)) 4 = some (.int w0) := zs1_ld _ _ _
  generalize (zs1 lv 4 (.int w0)) = lv1 at *
  refine r_s (fr' := (24, lv1, [.int 0])) (hp' := xW B m) (q := (.iconst 0, 1, 0, 0, .null)) rfl (fun _ => rfl) (Nat.le_refl _) ?_
  refine q_si (k := 2) (i := 5) (q := (.istore 5, 2, 0, 0, .null)) rfl (fun _ => rfl) (by decide) ?_
  have l0_2 : zld (zs1 lv1 5 (.int 0)) 0 = some (.ref 70) := x_o1 l0_1 rfl rfl
  have l1_2 : zld (zs1 lv1 5 (.int 0)) 1 = some (.int v1) := x_o1 l1_1 rfl rfl
  have l2_2 : zld (zs1 lv1 5 (.int 0)) 2 = some (.int v2) := x_o1 l2_1 rfl rfl
  have l3_2 : zld (zs1 lv1 5 (.int 0)) 3 = some (.int v3) := x_o1 l3_1 rfl rfl
  have l4_2 : zld (zs1 lv1 5 (.int 0)) 4 = some (.int w0) := x_o1 l4_1 rfl rfl
  have l5_2 : zld (zs1 lv1 5 (.int 0)) 5 = some (.int 0) := zs1_ld _ _ _
  generalize (zs1 lv1 5 (.int 0)) = lv2 at *
  exact T263_26 H he F _ k4 F l0_2 l1_2 l2_2 l3_2 l4_2 l5_2 h
def D263_4 (F : Nat) : Nat → Int32 → Int32 → Int32 → xS → Option (Int32 × xS)
  | 0, _, _, _, _ => none
  | f + 1, v1, v2, v3, m =>
    if zcmp .gt v3 6 = true then
      some (v2, m)
    else
      if zcmp .ne v3 0 = true then
        D263_21 F (D263_4 F f) v1 v2 v3 v2 m
      else
        D263_21 F (D263_4 F f) v1 v2 v3 (1 <<< (v1 &&& 31)) m
set_option maxRecDepth 20000 in
theorem T263_4 {B : zHp} (H : yH0 B) {e : Nat} (he : 2 ≤ e + 1) (F : Nat) : ∀ (f : Nat) {v1 : Int32} {v2 : Int32} {v3 : Int32} {lv : List (Nat × Value)} {m : xS} {x : Int32 × xS}, zld lv 0 = some (.ref 70) → zld lv 1 = some (.int v1) → zld lv 2 = some (.int v2) → zld lv 3 = some (.int v3) → D263_4 F f v1 v2 v3 m = some x → zR none e 7 (some .int) zc263 (4, lv, []) (xW B m) (some (.int x.1), xW B x.2) := by
  intro f
  induction f with
  | zero => intro v1 v2 v3 lv m x l0 l1 l2 l3 h; cases h
  | succ f ih =>
    intro v1 v2 v3 lv m x l0 l1 l2 l3 h
    unfold D263_4 at h
    refine q_li (k := 1) (i := 3) (q := (.iload_n 3, 1, 0, 0, .null)) rfl (fun _ => rfl) l3 ?_
    refine r_s (fr' := (7, lv, [.int 6, .int v3])) (hp' := xW B m) (q := (.bipush 6, 2, 0, 0, .null)) rfl (fun _ => rfl) (Nat.le_refl _) ?_
    refine r_ifc (len := 3) (a := 104) (b := 0) (v0 := .null) (cn := .gt) (off := 97) rfl (fun c => ?_) (fun c => ?_)
    · rw [if_pos c] at h
      refine q_li (k := 1) (i := 2) (q := (.iload_n 2, 1, 0, 0, .null)) rfl (fun _ => rfl) l2 ?_
      obtain rfl := Option.some.inj h
      exact q_ri (q := (.ireturn, 1, 0, 0, .null)) rfl (fun _ => rfl) rfl rfl
    · rw [if_neg (by rw [c]; decide)] at h
      refine q_li (k := 1) (i := 3) (q := (.iload_n 3, 1, 0, 0, .null)) rfl (fun _ => rfl) l3 ?_
      refine r_if (len := 3) (a := 20) (b := 0) (v0 := .null) (cn := .ne) (off := 9) rfl (fun c => ?_) (fun c => ?_)
      · rw [if_pos c] at h
        refine q_li (k := 1) (i := 2) (q := (.iload_n 2, 1, 0, 0, .null)) rfl (fun _ => rfl) l2 ?_
        exact T263_21 H he F _ ih l0 l1 l2 l3 h
      · rw [if_neg (by rw [c]; decide)] at h
        refine r_s (fr' := (15, lv, [.int 1])) (hp' := xW B m) (q := (.iconst 1, 1, 0, 0, .null)) rfl (fun _ => rfl) (Nat.le_refl _) ?_
        refine q_li (k := 1) (i := 1) (q := (.iload_n 1, 1, 0, 0, .null)) rfl (fun _ => rfl) l1 ?_
        refine r_s (fr' := (17, lv, [.int (1 <<< (v1 &&& 31))])) (hp' := xW B m) (q := (.ishl, 1, 0, 0, .null)) rfl (fun _ => rfl) (Nat.le_refl _) ?_
        refine r_s (fr' := (21, lv, [.int (1 <<< (v1 &&& 31))])) (hp' := xW B m) (q := (.goto 4, 3, 21, 0, .null)) rfl (fun _ => rfl) (Nat.le_refl _) ?_
        exact T263_21 H he F _ ih l0 l1 l2 l3 h
def D263 (F : Nat) (v1 : Int32) (m : xS) : Option (Int32 × xS) :=
  D263_4 F F v1 0 0 m
set_option maxRecDepth 20000 in
theorem T263 {B : zHp} (H : yH0 B) {e : Nat} (he : 2 ≤ e + 1) (F : Nat) {v1 : Int32} {lv : List (Nat × Value)} {m : xS} {x : Int32 × xS} (l0 : zld lv 0 = some (.ref 70)) (l1 : zld lv 1 = some (.int v1)) (h : D263 F v1 m = some x) : zR none e 7 (some .int) zc263 (0, lv, []) (xW B m) (some (.int x.1), xW B x.2) := by
  unfold D263 at h
  refine r_s (fr' := (1, lv, [.int 0])) (hp' := xW B m) (q := (.iconst 0, 1, 0, 0, .null)) rfl (fun _ => rfl) (Nat.le_refl _) ?_
  refine q_si (k := 1) (i := 2) (q := (.istore_n 2, 1, 0, 0, .null)) rfl (fun _ => rfl) (by decide) ?_
  have l0_1 : zld (zs1 lv 2 (.int 0)) 0 = some (.ref 70) := x_o1 l0 rfl rfl
  have l1_1 : zld (zs1 lv 2 (.int 0)) 1 = some (.int v1) := x_o1 l1 rfl rfl
  have l2_1 : zld (zs1 lv 2 (.int 0)) 2 = some (.int 0) := zs1_ld _ _ _
  generalize (zs1 lv 2 (.int 0)) = lv1 at *
  refine r_s (fr' := (3, lv1, [.int 0])) (hp' := xW B m) (q := (.iconst 0, 1, 0, 0, .null)) rfl (fun _ => rfl) (Nat.le_refl _) ?_
  refine q_si (k := 1) (i := 3) (q := (.istore_n 3, 1, 0, 0, .null)) rfl (fun _ => rfl) (by decide) ?_
  have l0_2 : zld (zs1 lv1 3 (.int 0)) 0 = some (.ref 70) := x_o1 l0_1 rfl rfl
  have l1_2 : zld (zs1 lv1 3 (.int 0)) 1 = some (.int v1) := x_o1 l1_1 rfl rfl
  have l2_2 : zld (zs1 lv1 3 (.int 0)) 2 = some (.int 0) := x_o1 l2_1 rfl rfl
  have l3_2 : zld (zs1 lv1 3 (.int 0)) 3 = some (.int 0) := zs1_ld _ _ _
  generalize (zs1 lv1 3 (.int 0)) = lv2 at *
  exact T263_4 H he F F l0_2 l1_2 l2_2 l3_2 h
set_option maxRecDepth 20000 in
theorem Z263 {B : zHp} (H : yH0 B) {F : Nat} {a1 : Int32} {m : xS} {x : Int32 × xS} (h : D263 F a1 m = some x) {d : Nat} (hd : 2 ≤ d) : zCan d 263 [.ref 70, .int a1] (xW B m) (some (.int x.1), xW B x.2) := by
  obtain ⟨e, rfl⟩ : ∃ e, d = e + 1 := ⟨d - 1, by omega⟩
  refine zCan_body (nL := 7) (rt := (some .int)) (cd := zc263) (xg263) ⟨Nat.le_of_ble_eq_true rfl, by decide⟩ (Nat.le_refl _) ?_
  exact T263 H hd F rfl rfl h
/-- LentToolsModel.rings -/
def D264_19 (F : Nat) (v1 : Int32) (m : xS) : Option (Int32 × xS) :=
  some ((-1), m)
set_option maxRecDepth 20000 in
theorem T264_19 {B : zHp} (H : yH0 B) {e : Nat} (he : 6 ≤ e + 1) (F : Nat) {v1 : Int32} {lv : List (Nat × Value)} {m : xS} {x : Int32 × xS} (l0 : zld lv 0 = some (.ref 70)) (l1 : zld lv 1 = some (.int v1)) (h : D264_19 F v1 m = some x) : zR none e 4 (some .int) zc264 (19, lv, []) (xW B m) (some (.int x.1), xW B x.2) := by
  unfold D264_19 at h
  refine r_s (fr' := (20, lv, [.int (-1)])) (hp' := xW B m) (q := (.iconst (-1), 1, 0, 0, .null)) rfl (fun _ => rfl) (Nat.le_refl _) ?_
  obtain rfl := Option.some.inj h
  exact q_ri (q := (.ireturn, 1, 0, 0, .null)) rfl (fun _ => rfl) rfl rfl
def D264_57 (F : Nat) (g29 : Int32 → Int32 → Int32 → xS → Option (Int32 × xS)) (v1 : Int32) (v2 : Int32) (v3 : Int32) (w0 : Int32) (w1 : Int32) (m : xS) : Option (Int32 × xS) :=
  g29 v1 (w1 + w0) (v3 + Int32.ofInt 1) m
set_option maxRecDepth 20000 in
theorem T264_57 {B : zHp} (H : yH0 B) {e : Nat} (he : 6 ≤ e + 1) (F : Nat) (g29 : Int32 → Int32 → Int32 → xS → Option (Int32 × xS)) (k29 : ∀ {v1 : Int32} {v2 : Int32} {v3 : Int32} {lv : List (Nat × Value)} {m : xS} {x : Int32 × xS}, zld lv 0 = some (.ref 70) → zld lv 1 = some (.int v1) → zld lv 2 = some (.int v2) → zld lv 3 = some (.int v3) → g29 v1 v2 v3 m = some x → zR none e 4 (some .int) zc264 (29, lv, []) (xW B m) (some (.int x.1), xW B x.2)) {v1 : Int32} {v2 : Int32} {v3 : Int32} {w0 : Int32} {w1 : Int32} {lv : List (Nat × Value)} {m : xS} {x : Int32 × xS} (l0 : zld lv 0 = some (.ref 70)) (l1 : zld lv 1 = some (.int v1)) (l2 : zld lv 2 = some (.int v2)) (l3 : zld lv 3 = some (.int v3)) (h : D264_57 F g29 v1 v2 v3 w0 w1 m = some x) : zR none e 4 (some .int) zc264 (57, lv, [.int w0, .int w1]) (xW B m) (some (.int x.1), xW B x.2) := by
  unfold D264_57 at h
  refine r_s (fr' := (58, lv, [.int (w1 + w0)])) (hp' := xW B m) (q := (.iadd, 1, 0, 0, .null)) rfl (fun _ => rfl) (Nat.le_refl _) ?_
  refine q_si (k := 1) (i := 2) (q := (.istore_n 2, 1, 0, 0, .null)) rfl (fun _ => rfl) (by decide) ?_
  have l0_1 : zld (zs1 lv 2 (.int (w1 + w0))) 0 = some (.ref 70) := x_o1 l0 rfl rfl
  have l1_1 : zld (zs1 lv 2 (.int (w1 + w0))) 1 = some (.int v1) := x_o1 l1 rfl rfl
  have l2_1 : zld (zs1 lv 2 (.int (w1 + w0))) 2 = some (.int (w1 + w0)) := zs1_ld _ _ _
  have l3_1 : zld (zs1 lv 2 (.int (w1 + w0))) 3 = some (.int v3) := x_o1 l3 rfl rfl
  generalize (zs1 lv 2 (.int (w1 + w0))) = lv1 at *
  refine q_inc (i := 3) (n := 1) (q := (.iinc 3 1, 3, 0, 0, .null)) rfl (fun _ => rfl) l3_1 (by decide) ?_
  have l0_2 : zld (zs1 lv1 3 (.int (v3 + Int32.ofInt 1))) 0 = some (.ref 70) := x_o1 l0_1 rfl rfl
  have l1_2 : zld (zs1 lv1 3 (.int (v3 + Int32.ofInt 1))) 1 = some (.int v1) := x_o1 l1_1 rfl rfl
  have l2_2 : zld (zs1 lv1 3 (.int (v3 + Int32.ofInt 1))) 2 = some (.int (w1 + w0)) := x_o1 l2_1 rfl rfl
  have l3_2 : zld (zs1 lv1 3 (.int (v3 + Int32.ofInt 1))) 3 = some (.int (v3 + Int32.ofInt 1)) := zs1_ld _ _ _
  generalize (zs1 lv1 3 (.int (v3 + Int32.ofInt 1))) = lv2 at *
  refine r_s (fr' := (29, lv2, [])) (hp' := xW B m) (q := (.goto (-33), 3, 29, 0, .null)) rfl (fun _ => rfl) (Nat.le_refl _) ?_
  exact k29 l0_2 l1_2 l2_2 l3_2 h
def D264_29 (F : Nat) : Nat → Int32 → Int32 → Int32 → xS → Option (Int32 × xS)
  | 0, _, _, _, _ => none
  | f + 1, v1, v2, v3, m =>
    if zcmp .ge v3 (m.1 80 0) = true then
      some (v2, m)
    else
      (D263 F v3 m).bind fun q42 =>
        (D159 F q42.1 v3 q42.2).bind fun q46 =>
          if zcmp .eq q46.1 0 = true then
            D264_57 F (D264_29 F f) v1 v2 v3 0 v2 q46.2
          else
            D264_57 F (D264_29 F f) v1 v2 v3 1 v2 q46.2
set_option maxRecDepth 20000 in
theorem T264_29 {B : zHp} (H : yH0 B) {e : Nat} (he : 6 ≤ e + 1) (F : Nat) : ∀ (f : Nat) {v1 : Int32} {v2 : Int32} {v3 : Int32} {lv : List (Nat × Value)} {m : xS} {x : Int32 × xS}, zld lv 0 = some (.ref 70) → zld lv 1 = some (.int v1) → zld lv 2 = some (.int v2) → zld lv 3 = some (.int v3) → D264_29 F f v1 v2 v3 m = some x → zR none e 4 (some .int) zc264 (29, lv, []) (xW B m) (some (.int x.1), xW B x.2) := by
  intro f
  induction f with
  | zero => intro v1 v2 v3 lv m x l0 l1 l2 l3 h; cases h
  | succ f ih =>
    intro v1 v2 v3 lv m x l0 l1 l2 l3 h
    unfold D264_29 at h
    refine q_li (k := 1) (i := 3) (q := (.iload_n 3, 1, 0, 0, .null)) rfl (fun _ => rfl) l3 ?_
    refine q_lr (k := 1) (i := 0) (q := (.aload_n 0, 1, 0, 0, .null)) rfl (fun _ => rfl) l0 ?_
    refine r_gr (c := 80) H (pc := 31) rfl (by decide) (by decide) ?_
    refine r_s (fr' := (35, lv, [.int 0, .ref 80, .int v3])) (hp' := xW B m) (q := (.iconst 0, 1, 0, 0, .null)) rfl (fun _ => rfl) (Nat.le_refl _) ?_
    refine q_al (n := 148) (v := (m.1 80 0)) H (pc := 35) rfl (by decide) (by decide) rfl ?_
    refine r_ifc (len := 3) (a := 65) (b := 0) (v0 := .null) (cn := .ge) (off := 29) rfl (fun c => ?_) (fun c => ?_)
    · rw [if_pos c] at h
      refine q_li (k := 1) (i := 2) (q := (.iload_n 2, 1, 0, 0, .null)) rfl (fun _ => rfl) l2 ?_
      obtain rfl := Option.some.inj h
      exact q_ri (q := (.ireturn, 1, 0, 0, .null)) rfl (fun _ => rfl) rfl rfl
    · rw [if_neg (by rw [c]; decide)] at h
      refine q_li (k := 1) (i := 2) (q := (.iload_n 2, 1, 0, 0, .null)) rfl (fun _ => rfl) l2 ?_
      refine q_lr (k := 1) (i := 0) (q := (.aload_n 0, 1, 0, 0, .null)) rfl (fun _ => rfl) l0 ?_
      refine q_li (k := 1) (i := 3) (q := (.iload_n 3, 1, 0, 0, .null)) rfl (fun _ => rfl) l3 ?_
      obtain ⟨q42, h42, h⟩ := xbind h
      refine r_call (ix := 70) (as := [.int v3]) (rest := [.int v2]) (rv := some (.int q42.1)) (hp' := xW B q42.2) (pc := 42) rfl xr263 rfl rfl rfl (xkd H (by decide)) (Nat.le_of_ble_eq_true rfl) (Z263 H h42 (by omega)) (Nat.le_refl _) ?_
      refine q_li (k := 1) (i := 3) (q := (.iload_n 3, 1, 0, 0, .null)) rfl (fun _ => rfl) l3 ?_
      obtain ⟨q46, h46, h⟩ := xbind h
      refine r_callS (as := [.int q42.1, .int v3]) (rest := [.int v2]) (rv := some (.int q46.1)) (hp' := xW B q46.2) (pc := 46) rfl xr159 rfl rfl rfl (Nat.le_of_ble_eq_true rfl) (Z159 H h46 (by omega)) (Nat.le_refl _) ?_
      refine r_if (len := 3) (a := 56) (b := 0) (v0 := .null) (cn := .eq) (off := 7) rfl (fun c => ?_) (fun c => ?_)
      · rw [if_pos c] at h
        refine r_s (fr' := (57, lv, [.int 0, .int v2])) (hp' := xW B q46.2) (q := (.iconst 0, 1, 0, 0, .null)) rfl (fun _ => rfl) (Nat.le_refl _) ?_
        exact T264_57 H he F _ ih l0 l1 l2 l3 h
      · rw [if_neg (by rw [c]; decide)] at h
        refine r_s (fr' := (53, lv, [.int 1, .int v2])) (hp' := xW B q46.2) (q := (.iconst 1, 1, 0, 0, .null)) rfl (fun _ => rfl) (Nat.le_refl _) ?_
        refine r_s (fr' := (57, lv, [.int 1, .int v2])) (hp' := xW B q46.2) (q := (.goto 4, 3, 57, 0, .null)) rfl (fun _ => rfl) (Nat.le_refl _) ?_
        exact T264_57 H he F _ ih l0 l1 l2 l3 h
def D264 (F : Nat) (v1 : Int32) (m : xS) : Option (Int32 × xS) :=
  (D204 F m).bind fun q1 =>
    if zcmp .eq q1.1 0 = true then
      D264_19 F v1 q1.2
    else
      (D158 F (v1 : Int32).toInt64 0 7 q1.2).bind fun q13 =>
        if zcmp .ne q13.1 0 = true then
          if zcmp .ne v1 0 = true then
            (D241 F q13.2).bind fun q68 =>
              if zcmp .ne v1 1 = true then
                if zcmp .ge (v1 - 2) q68.1 = true then
                  some ((-2), q68.2)
                else
                  (D236 F (q68.2.1 70 26) q68.1 (v1 - 2) q68.2).bind fun q97 =>
                    some (q97.1, q97.2)
              else
                some (q68.1, q68.2)
          else
            D264_29 F F v1 0 0 q13.2
        else
          D264_19 F v1 q13.2
set_option maxRecDepth 20000 in
theorem T264 {B : zHp} (H : yH0 B) {e : Nat} (he : 6 ≤ e + 1) (F : Nat) {v1 : Int32} {lv : List (Nat × Value)} {m : xS} {x : Int32 × xS} (l0 : zld lv 0 = some (.ref 70)) (l1 : zld lv 1 = some (.int v1)) (h : D264 F v1 m = some x) : zR none e 4 (some .int) zc264 (0, lv, []) (xW B m) (some (.int x.1), xW B x.2) := by
  unfold D264 at h
  refine q_lr (k := 1) (i := 0) (q := (.aload_n 0, 1, 0, 0, .null)) rfl (fun _ => rfl) l0 ?_
  obtain ⟨q1, h1, h⟩ := xbind h
  refine r_call (ix := 70) (as := []) (rest := []) (rv := some (.int q1.1)) (hp' := xW B q1.2) (pc := 1) rfl xr204 rfl rfl rfl (xkd H (by decide)) (Nat.le_of_ble_eq_true rfl) (Z204 H h1 (by omega)) (Nat.le_refl _) ?_
  refine r_if (len := 3) (a := 19) (b := 0) (v0 := .null) (cn := .eq) (off := 15) rfl (fun c => ?_) (fun c => ?_)
  · rw [if_pos c] at h
    exact T264_19 H he F l0 l1 h
  · rw [if_neg (by rw [c]; decide)] at h
    refine q_li (k := 1) (i := 1) (q := (.iload_n 1, 1, 0, 0, .null)) rfl (fun _ => rfl) l1 ?_
    refine r_s (fr' := (9, lv, [.long (v1 : Int32).toInt64])) (hp' := xW B q1.2) (q := (.i2l, 1, 0, 0, .null)) rfl (fun _ => rfl) (Nat.le_refl _) ?_
    refine r_s (fr' := (10, lv, [.long 0, .long (v1 : Int32).toInt64])) (hp' := xW B q1.2) (q := (.lconst 0, 1, 0, 0, .null)) rfl (fun _ => rfl) (Nat.le_refl _) ?_
    refine r_s (fr' := (13, lv, [.long 7, .long 0, .long (v1 : Int32).toInt64])) (hp' := xW B q1.2) (q := (.ldc2_w 304, 3, 0, 0, .long 7)) rfl (fun _ => rfl) (Nat.le_refl _) ?_
    obtain ⟨q13, h13, h⟩ := xbind h
    refine r_callS (as := [.long (v1 : Int32).toInt64, .long 0, .long 7]) (rest := []) (rv := some (.int q13.1)) (hp' := xW B q13.2) (pc := 13) rfl xr158 rfl rfl rfl (Nat.le_of_ble_eq_true rfl) (Z158 H h13 (by omega)) (Nat.le_refl _) ?_
    refine r_if (len := 3) (a := 21) (b := 0) (v0 := .null) (cn := .ne) (off := 5) rfl (fun c => ?_) (fun c => ?_)
    · rw [if_pos c] at h
      refine q_li (k := 1) (i := 1) (q := (.iload_n 1, 1, 0, 0, .null)) rfl (fun _ => rfl) l1 ?_
      refine r_if (len := 3) (a := 67) (b := 0) (v0 := .null) (cn := .ne) (off := 45) rfl (fun c => ?_) (fun c => ?_)
      · rw [if_pos c] at h
        refine q_lr (k := 1) (i := 0) (q := (.aload_n 0, 1, 0, 0, .null)) rfl (fun _ => rfl) l0 ?_
        obtain ⟨q68, h68, h⟩ := xbind h
        refine r_call (ix := 70) (as := []) (rest := []) (rv := some (.int q68.1)) (hp' := xW B q68.2) (pc := 68) rfl xr241 rfl rfl rfl (xkd H (by decide)) (Nat.le_of_ble_eq_true rfl) (Z241 H h68 (by omega)) (Nat.le_refl _) ?_
        refine q_si (k := 1) (i := 2) (q := (.istore_n 2, 1, 0, 0, .null)) rfl (fun _ => rfl) (by decide) ?_
        have l0_1 : zld (zs1 lv 2 (.int q68.1)) 0 = some (.ref 70) := x_o1 l0 rfl rfl
        have l1_1 : zld (zs1 lv 2 (.int q68.1)) 1 = some (.int v1) := x_o1 l1 rfl rfl
        have l2_1 : zld (zs1 lv 2 (.int q68.1)) 2 = some (.int q68.1) := zs1_ld _ _ _
        generalize (zs1 lv 2 (.int q68.1)) = lv1 at *
        refine q_li (k := 1) (i := 1) (q := (.iload_n 1, 1, 0, 0, .null)) rfl (fun _ => rfl) l1_1 ?_
        refine r_s (fr' := (74, lv1, [.int 1, .int v1])) (hp' := xW B q68.2) (q := (.iconst 1, 1, 0, 0, .null)) rfl (fun _ => rfl) (Nat.le_refl _) ?_
        refine r_ifc (len := 3) (a := 81) (b := 0) (v0 := .null) (cn := .ne) (off := 7) rfl (fun c => ?_) (fun c => ?_)
        · rw [if_pos c] at h
          refine q_li (k := 1) (i := 1) (q := (.iload_n 1, 1, 0, 0, .null)) rfl (fun _ => rfl) l1_1 ?_
          refine r_s (fr' := (83, lv1, [.int 2, .int v1])) (hp' := xW B q68.2) (q := (.iconst 2, 1, 0, 0, .null)) rfl (fun _ => rfl) (Nat.le_refl _) ?_
          refine r_s (fr' := (84, lv1, [.int (v1 - 2)])) (hp' := xW B q68.2) (q := (.isub, 1, 0, 0, .null)) rfl (fun _ => rfl) (Nat.le_refl _) ?_
          refine q_li (k := 1) (i := 2) (q := (.iload_n 2, 1, 0, 0, .null)) rfl (fun _ => rfl) l2_1 ?_
          refine r_ifc (len := 3) (a := 103) (b := 0) (v0 := .null) (cn := .ge) (off := 18) rfl (fun c => ?_) (fun c => ?_)
          · rw [if_pos c] at h
            refine r_s (fr' := (105, lv1, [.int (-2)])) (hp' := xW B q68.2) (q := (.bipush (-2), 2, 0, 0, .null)) rfl (fun _ => rfl) (Nat.le_refl _) ?_
            obtain rfl := Option.some.inj h
            exact q_ri (q := (.ireturn, 1, 0, 0, .null)) rfl (fun _ => rfl) rfl rfl
          · rw [if_neg (by rw [c]; decide)] at h
            refine q_lr (k := 1) (i := 0) (q := (.aload_n 0, 1, 0, 0, .null)) rfl (fun _ => rfl) l0_1 ?_
            refine q_lr (k := 1) (i := 0) (q := (.aload_n 0, 1, 0, 0, .null)) rfl (fun _ => rfl) l0_1 ?_
            refine r_gi (v := (q68.2.1 70 26)) H (pc := 90) (i := _) rfl (by decide) (by decide) rfl ?_
            refine q_li (k := 1) (i := 2) (q := (.iload_n 2, 1, 0, 0, .null)) rfl (fun _ => rfl) l2_1 ?_
            refine q_li (k := 1) (i := 1) (q := (.iload_n 1, 1, 0, 0, .null)) rfl (fun _ => rfl) l1_1 ?_
            refine r_s (fr' := (96, lv1, [.int 2, .int v1, .int q68.1, .int (q68.2.1 70 26), .ref 70])) (hp' := xW B q68.2) (q := (.iconst 2, 1, 0, 0, .null)) rfl (fun _ => rfl) (Nat.le_refl _) ?_
            refine r_s (fr' := (97, lv1, [.int (v1 - 2), .int q68.1, .int (q68.2.1 70 26), .ref 70])) (hp' := xW B q68.2) (q := (.isub, 1, 0, 0, .null)) rfl (fun _ => rfl) (Nat.le_refl _) ?_
            obtain ⟨q97, h97, h⟩ := xbind h
            refine r_call (ix := 70) (as := [.int (q68.2.1 70 26), .int q68.1, .int (v1 - 2)]) (rest := []) (rv := some (.int q97.1)) (hp' := xW B q97.2) (pc := 97) rfl xr236 rfl rfl rfl (xkd H (by decide)) (Nat.le_of_ble_eq_true rfl) (Z236 H h97 (by omega)) (Nat.le_refl _) ?_
            refine r_s (fr' := (105, lv1, [.int q97.1])) (hp' := xW B q97.2) (q := (.goto 5, 3, 105, 0, .null)) rfl (fun _ => rfl) (Nat.le_refl _) ?_
            obtain rfl := Option.some.inj h
            exact q_ri (q := (.ireturn, 1, 0, 0, .null)) rfl (fun _ => rfl) rfl rfl
        · rw [if_neg (by rw [c]; decide)] at h
          refine q_li (k := 1) (i := 2) (q := (.iload_n 2, 1, 0, 0, .null)) rfl (fun _ => rfl) l2_1 ?_
          refine r_s (fr' := (105, lv1, [.int q68.1])) (hp' := xW B q68.2) (q := (.goto 27, 3, 105, 0, .null)) rfl (fun _ => rfl) (Nat.le_refl _) ?_
          obtain rfl := Option.some.inj h
          exact q_ri (q := (.ireturn, 1, 0, 0, .null)) rfl (fun _ => rfl) rfl rfl
      · rw [if_neg (by rw [c]; decide)] at h
        refine r_s (fr' := (26, lv, [.int 0])) (hp' := xW B q13.2) (q := (.iconst 0, 1, 0, 0, .null)) rfl (fun _ => rfl) (Nat.le_refl _) ?_
        refine q_si (k := 1) (i := 2) (q := (.istore_n 2, 1, 0, 0, .null)) rfl (fun _ => rfl) (by decide) ?_
        have l0_2 : zld (zs1 lv 2 (.int 0)) 0 = some (.ref 70) := x_o1 l0 rfl rfl
        have l1_2 : zld (zs1 lv 2 (.int 0)) 1 = some (.int v1) := x_o1 l1 rfl rfl
        have l2_2 : zld (zs1 lv 2 (.int 0)) 2 = some (.int 0) := zs1_ld _ _ _
        generalize (zs1 lv 2 (.int 0)) = lv2 at *
        refine r_s (fr' := (28, lv2, [.int 0])) (hp' := xW B q13.2) (q := (.iconst 0, 1, 0, 0, .null)) rfl (fun _ => rfl) (Nat.le_refl _) ?_
        refine q_si (k := 1) (i := 3) (q := (.istore_n 3, 1, 0, 0, .null)) rfl (fun _ => rfl) (by decide) ?_
        have l0_3 : zld (zs1 lv2 3 (.int 0)) 0 = some (.ref 70) := x_o1 l0_2 rfl rfl
        have l1_3 : zld (zs1 lv2 3 (.int 0)) 1 = some (.int v1) := x_o1 l1_2 rfl rfl
        have l2_3 : zld (zs1 lv2 3 (.int 0)) 2 = some (.int 0) := x_o1 l2_2 rfl rfl
        have l3_3 : zld (zs1 lv2 3 (.int 0)) 3 = some (.int 0) := zs1_ld _ _ _
        generalize (zs1 lv2 3 (.int 0)) = lv3 at *
        exact T264_29 H he F F l0_3 l1_3 l2_3 l3_3 h
    · rw [if_neg (by rw [c]; decide)] at h
      exact T264_19 H he F l0 l1 h
set_option maxRecDepth 20000 in
theorem Z264 {B : zHp} (H : yH0 B) {F : Nat} {a1 : Int32} {m : xS} {x : Int32 × xS} (h : D264 F a1 m = some x) {d : Nat} (hd : 6 ≤ d) : zCan d 264 [.ref 70, .int a1] (xW B m) (some (.int x.1), xW B x.2) := by
  obtain ⟨e, rfl⟩ : ∃ e, d = e + 1 := ⟨d - 1, by omega⟩
  refine zCan_body (nL := 4) (rt := (some .int)) (cd := zc264) (xg264) ⟨Nat.le_of_ble_eq_true rfl, by decide⟩ (Nat.le_refl _) ?_
  exact T264 H hd F rfl rfl h
/-- LentToolsModel.debt -/
def D265_16 (F : Nat) : Nat → Int32 → Int32 → Int32 → xS → Option (Int32 × xS)
  | 0, _, _, _, _ => none
  | f + 1, v1, v2, v3, m =>
    if zcmp .ge v3 (m.1 80 0) = true then
      some (v2, m)
    else
      (D211 F v1 v3 m).bind fun q30 =>
        (D211 F v3 v1 q30.2).bind fun q36 =>
          D265_16 F f v1 (v2 + (q30.1 - q36.1)) (v3 + Int32.ofInt 1) q36.2
set_option maxRecDepth 20000 in
theorem T265_16 {B : zHp} (H : yH0 B) {e : Nat} (he : 2 ≤ e + 1) (F : Nat) : ∀ (f : Nat) {v1 : Int32} {v2 : Int32} {v3 : Int32} {lv : List (Nat × Value)} {m : xS} {x : Int32 × xS}, zld lv 0 = some (.ref 70) → zld lv 1 = some (.int v1) → zld lv 2 = some (.int v2) → zld lv 3 = some (.int v3) → D265_16 F f v1 v2 v3 m = some x → zR none e 4 (some .int) zc265 (16, lv, []) (xW B m) (some (.int x.1), xW B x.2) := by
  intro f
  induction f with
  | zero => intro v1 v2 v3 lv m x l0 l1 l2 l3 h; cases h
  | succ f ih =>
    intro v1 v2 v3 lv m x l0 l1 l2 l3 h
    unfold D265_16 at h
    refine q_li (k := 1) (i := 3) (q := (.iload_n 3, 1, 0, 0, .null)) rfl (fun _ => rfl) l3 ?_
    refine q_lr (k := 1) (i := 0) (q := (.aload_n 0, 1, 0, 0, .null)) rfl (fun _ => rfl) l0 ?_
    refine r_gr (c := 80) H (pc := 18) rfl (by decide) (by decide) ?_
    refine r_s (fr' := (22, lv, [.int 0, .ref 80, .int v3])) (hp' := xW B m) (q := (.iconst 0, 1, 0, 0, .null)) rfl (fun _ => rfl) (Nat.le_refl _) ?_
    refine q_al (n := 148) (v := (m.1 80 0)) H (pc := 22) rfl (by decide) (by decide) rfl ?_
    refine r_ifc (len := 3) (a := 48) (b := 0) (v0 := .null) (cn := .ge) (off := 25) rfl (fun c => ?_) (fun c => ?_)
    · rw [if_pos c] at h
      refine q_li (k := 1) (i := 2) (q := (.iload_n 2, 1, 0, 0, .null)) rfl (fun _ => rfl) l2 ?_
      obtain rfl := Option.some.inj h
      exact q_ri (q := (.ireturn, 1, 0, 0, .null)) rfl (fun _ => rfl) rfl rfl
    · rw [if_neg (by rw [c]; decide)] at h
      refine q_li (k := 1) (i := 2) (q := (.iload_n 2, 1, 0, 0, .null)) rfl (fun _ => rfl) l2 ?_
      refine q_lr (k := 1) (i := 0) (q := (.aload_n 0, 1, 0, 0, .null)) rfl (fun _ => rfl) l0 ?_
      refine q_li (k := 1) (i := 1) (q := (.iload_n 1, 1, 0, 0, .null)) rfl (fun _ => rfl) l1 ?_
      refine q_li (k := 1) (i := 3) (q := (.iload_n 3, 1, 0, 0, .null)) rfl (fun _ => rfl) l3 ?_
      obtain ⟨q30, h30, h⟩ := xbind h
      refine r_call (ix := 70) (as := [.int v1, .int v3]) (rest := [.int v2]) (rv := some (.int q30.1)) (hp' := xW B q30.2) (pc := 30) rfl xr211 rfl rfl rfl (xkd H (by decide)) (Nat.le_of_ble_eq_true rfl) (Z211 H h30 (by omega)) (Nat.le_refl _) ?_
      refine q_lr (k := 1) (i := 0) (q := (.aload_n 0, 1, 0, 0, .null)) rfl (fun _ => rfl) l0 ?_
      refine q_li (k := 1) (i := 3) (q := (.iload_n 3, 1, 0, 0, .null)) rfl (fun _ => rfl) l3 ?_
      refine q_li (k := 1) (i := 1) (q := (.iload_n 1, 1, 0, 0, .null)) rfl (fun _ => rfl) l1 ?_
      obtain ⟨q36, h36, h⟩ := xbind h
      refine r_call (ix := 70) (as := [.int v3, .int v1]) (rest := [.int q30.1, .int v2]) (rv := some (.int q36.1)) (hp' := xW B q36.2) (pc := 36) rfl xr211 rfl rfl rfl (xkd H (by decide)) (Nat.le_of_ble_eq_true rfl) (Z211 H h36 (by omega)) (Nat.le_refl _) ?_
      refine r_s (fr' := (40, lv, [.int (q30.1 - q36.1), .int v2])) (hp' := xW B q36.2) (q := (.isub, 1, 0, 0, .null)) rfl (fun _ => rfl) (Nat.le_refl _) ?_
      refine r_s (fr' := (41, lv, [.int (v2 + (q30.1 - q36.1))])) (hp' := xW B q36.2) (q := (.iadd, 1, 0, 0, .null)) rfl (fun _ => rfl) (Nat.le_refl _) ?_
      refine q_si (k := 1) (i := 2) (q := (.istore_n 2, 1, 0, 0, .null)) rfl (fun _ => rfl) (by decide) ?_
      have l0_1 : zld (zs1 lv 2 (.int (v2 + (q30.1 - q36.1)))) 0 = some (.ref 70) := x_o1 l0 rfl rfl
      have l1_1 : zld (zs1 lv 2 (.int (v2 + (q30.1 - q36.1)))) 1 = some (.int v1) := x_o1 l1 rfl rfl
      have l2_1 : zld (zs1 lv 2 (.int (v2 + (q30.1 - q36.1)))) 2 = some (.int (v2 + (q30.1 - q36.1))) := zs1_ld _ _ _
      have l3_1 : zld (zs1 lv 2 (.int (v2 + (q30.1 - q36.1)))) 3 = some (.int v3) := x_o1 l3 rfl rfl
      generalize (zs1 lv 2 (.int (v2 + (q30.1 - q36.1)))) = lv1 at *
      refine q_inc (i := 3) (n := 1) (q := (.iinc 3 1, 3, 0, 0, .null)) rfl (fun _ => rfl) l3_1 (by decide) ?_
      have l0_2 : zld (zs1 lv1 3 (.int (v3 + Int32.ofInt 1))) 0 = some (.ref 70) := x_o1 l0_1 rfl rfl
      have l1_2 : zld (zs1 lv1 3 (.int (v3 + Int32.ofInt 1))) 1 = some (.int v1) := x_o1 l1_1 rfl rfl
      have l2_2 : zld (zs1 lv1 3 (.int (v3 + Int32.ofInt 1))) 2 = some (.int (v2 + (q30.1 - q36.1))) := x_o1 l2_1 rfl rfl
      have l3_2 : zld (zs1 lv1 3 (.int (v3 + Int32.ofInt 1))) 3 = some (.int (v3 + Int32.ofInt 1)) := zs1_ld _ _ _
      generalize (zs1 lv1 3 (.int (v3 + Int32.ofInt 1))) = lv2 at *
      refine r_s (fr' := (16, lv2, [])) (hp' := xW B q36.2) (q := (.goto (-29), 3, 16, 0, .null)) rfl (fun _ => rfl) (Nat.le_refl _) ?_
      exact ih l0_2 l1_2 l2_2 l3_2 h
def D265 (F : Nat) (v1 : Int32) (m : xS) : Option (Int32 × xS) :=
  (D205 F v1 m).bind fun q2 =>
    if zcmp .ne q2.1 0 = true then
      D265_16 F F v1 0 0 q2.2
    else
      some ((-1000), q2.2)
set_option maxRecDepth 20000 in
theorem T265 {B : zHp} (H : yH0 B) {e : Nat} (he : 2 ≤ e + 1) (F : Nat) {v1 : Int32} {lv : List (Nat × Value)} {m : xS} {x : Int32 × xS} (l0 : zld lv 0 = some (.ref 70)) (l1 : zld lv 1 = some (.int v1)) (h : D265 F v1 m = some x) : zR none e 4 (some .int) zc265 (0, lv, []) (xW B m) (some (.int x.1), xW B x.2) := by
  unfold D265 at h
  refine q_lr (k := 1) (i := 0) (q := (.aload_n 0, 1, 0, 0, .null)) rfl (fun _ => rfl) l0 ?_
  refine q_li (k := 1) (i := 1) (q := (.iload_n 1, 1, 0, 0, .null)) rfl (fun _ => rfl) l1 ?_
  obtain ⟨q2, h2, h⟩ := xbind h
  refine r_call (ix := 70) (as := [.int v1]) (rest := []) (rv := some (.int q2.1)) (hp' := xW B q2.2) (pc := 2) rfl xr205 rfl rfl rfl (xkd H (by decide)) (Nat.le_of_ble_eq_true rfl) (Z205 H h2 (by omega)) (Nat.le_refl _) ?_
  refine r_if (len := 3) (a := 12) (b := 0) (v0 := .null) (cn := .ne) (off := 7) rfl (fun c => ?_) (fun c => ?_)
  · rw [if_pos c] at h
    refine r_s (fr' := (13, lv, [.int 0])) (hp' := xW B q2.2) (q := (.iconst 0, 1, 0, 0, .null)) rfl (fun _ => rfl) (Nat.le_refl _) ?_
    refine q_si (k := 1) (i := 2) (q := (.istore_n 2, 1, 0, 0, .null)) rfl (fun _ => rfl) (by decide) ?_
    have l0_1 : zld (zs1 lv 2 (.int 0)) 0 = some (.ref 70) := x_o1 l0 rfl rfl
    have l1_1 : zld (zs1 lv 2 (.int 0)) 1 = some (.int v1) := x_o1 l1 rfl rfl
    have l2_1 : zld (zs1 lv 2 (.int 0)) 2 = some (.int 0) := zs1_ld _ _ _
    generalize (zs1 lv 2 (.int 0)) = lv1 at *
    refine r_s (fr' := (15, lv1, [.int 0])) (hp' := xW B q2.2) (q := (.iconst 0, 1, 0, 0, .null)) rfl (fun _ => rfl) (Nat.le_refl _) ?_
    refine q_si (k := 1) (i := 3) (q := (.istore_n 3, 1, 0, 0, .null)) rfl (fun _ => rfl) (by decide) ?_
    have l0_2 : zld (zs1 lv1 3 (.int 0)) 0 = some (.ref 70) := x_o1 l0_1 rfl rfl
    have l1_2 : zld (zs1 lv1 3 (.int 0)) 1 = some (.int v1) := x_o1 l1_1 rfl rfl
    have l2_2 : zld (zs1 lv1 3 (.int 0)) 2 = some (.int 0) := x_o1 l2_1 rfl rfl
    have l3_2 : zld (zs1 lv1 3 (.int 0)) 3 = some (.int 0) := zs1_ld _ _ _
    generalize (zs1 lv1 3 (.int 0)) = lv2 at *
    exact T265_16 H he F F l0_2 l1_2 l2_2 l3_2 h
  · rw [if_neg (by rw [c]; decide)] at h
    refine r_s (fr' := (11, lv, [.int (-1000)])) (hp' := xW B q2.2) (q := (.sipush (-1000), 3, 0, 0, .null)) rfl (fun _ => rfl) (Nat.le_refl _) ?_
    obtain rfl := Option.some.inj h
    exact q_ri (q := (.ireturn, 1, 0, 0, .null)) rfl (fun _ => rfl) rfl rfl
set_option maxRecDepth 20000 in
theorem Z265 {B : zHp} (H : yH0 B) {F : Nat} {a1 : Int32} {m : xS} {x : Int32 × xS} (h : D265 F a1 m = some x) {d : Nat} (hd : 2 ≤ d) : zCan d 265 [.ref 70, .int a1] (xW B m) (some (.int x.1), xW B x.2) := by
  obtain ⟨e, rfl⟩ : ∃ e, d = e + 1 := ⟨d - 1, by omega⟩
  refine zCan_body (nL := 4) (rt := (some .int)) (cd := zc265) (xg265) ⟨Nat.le_of_ble_eq_true rfl, by decide⟩ (Nat.le_refl _) ?_
  exact T265 H hd F rfl rfl h
/-- LentToolsModel.seed -/
def D273 (F : Nat) (v1 : Int32) (m : xS) : Option (Int32 × xS) :=
  if zcmp .ge v1 0 = true then
    some ((m.1 70 23), (xu m 70 23 v1))
  else
    some ((-1), m)
set_option maxRecDepth 20000 in
theorem T273 {B : zHp} (H : yH0 B) {e : Nat} (he : 1 ≤ e + 1) (F : Nat) {v1 : Int32} {lv : List (Nat × Value)} {m : xS} {x : Int32 × xS} (l0 : zld lv 0 = some (.ref 70)) (l1 : zld lv 1 = some (.int v1)) (h : D273 F v1 m = some x) : zR none e 3 (some .int) zc273 (0, lv, []) (xW B m) (some (.int x.1), xW B x.2) := by
  unfold D273 at h
  refine q_li (k := 1) (i := 1) (q := (.iload_n 1, 1, 0, 0, .null)) rfl (fun _ => rfl) l1 ?_
  refine r_if (len := 3) (a := 6) (b := 0) (v0 := .null) (cn := .ge) (off := 5) rfl (fun c => ?_) (fun c => ?_)
  · rw [if_pos c] at h
    refine q_lr (k := 1) (i := 0) (q := (.aload_n 0, 1, 0, 0, .null)) rfl (fun _ => rfl) l0 ?_
    refine r_gi (v := (m.1 70 23)) H (pc := 7) (i := _) rfl (by decide) (by decide) rfl ?_
    refine q_si (k := 1) (i := 2) (q := (.istore_n 2, 1, 0, 0, .null)) rfl (fun _ => rfl) (by decide) ?_
    have l0_1 : zld (zs1 lv 2 (.int (m.1 70 23))) 0 = some (.ref 70) := x_o1 l0 rfl rfl
    have l1_1 : zld (zs1 lv 2 (.int (m.1 70 23))) 1 = some (.int v1) := x_o1 l1 rfl rfl
    have l2_1 : zld (zs1 lv 2 (.int (m.1 70 23))) 2 = some (.int (m.1 70 23)) := zs1_ld _ _ _
    generalize (zs1 lv 2 (.int (m.1 70 23))) = lv1 at *
    refine q_lr (k := 1) (i := 0) (q := (.aload_n 0, 1, 0, 0, .null)) rfl (fun _ => rfl) l0_1 ?_
    refine q_li (k := 1) (i := 1) (q := (.iload_n 1, 1, 0, 0, .null)) rfl (fun _ => rfl) l1_1 ?_
    refine r_pi (s2 := (xu m 70 23 v1)) H (pc := 13) rfl (by decide) rfl rfl ?_
    refine q_li (k := 1) (i := 2) (q := (.iload_n 2, 1, 0, 0, .null)) rfl (fun _ => rfl) l2_1 ?_
    obtain rfl := Option.some.inj h
    exact q_ri (q := (.ireturn, 1, 0, 0, .null)) rfl (fun _ => rfl) rfl rfl
  · rw [if_neg (by rw [c]; decide)] at h
    refine r_s (fr' := (5, lv, [.int (-1)])) (hp' := xW B m) (q := (.iconst (-1), 1, 0, 0, .null)) rfl (fun _ => rfl) (Nat.le_refl _) ?_
    obtain rfl := Option.some.inj h
    exact q_ri (q := (.ireturn, 1, 0, 0, .null)) rfl (fun _ => rfl) rfl rfl
set_option maxRecDepth 20000 in
theorem Z273 {B : zHp} (H : yH0 B) {F : Nat} {a1 : Int32} {m : xS} {x : Int32 × xS} (h : D273 F a1 m = some x) {d : Nat} (hd : 1 ≤ d) : zCan d 273 [.ref 70, .int a1] (xW B m) (some (.int x.1), xW B x.2) := by
  obtain ⟨e, rfl⟩ : ∃ e, d = e + 1 := ⟨d - 1, by omega⟩
  refine zCan_body (nL := 3) (rt := (some .int)) (cd := zc273) (xg273) ⟨Nat.le_of_ble_eq_true rfl, by decide⟩ (Nat.le_refl _) ?_
  exact T273 H hd F rfl rfl h
/-- LentToolsModel.keeps -/
def D259_2 (F : Nat) : Nat → Int32 → xS → Option (Unit × xS)
  | 0, _, _ => none
  | f + 1, v1, m =>
    if zcmp .ge v1 124 = true then
      some ((), m)
    else
      if xib v1 148 = true then
        if xib v1 124 = true then
          D259_2 F f (v1 + Int32.ofInt 1) (xu m 84 (v1 : Int32).toNatClampNeg (m.1 80 (v1 : Int32).toNatClampNeg))
        else none
      else none
set_option maxRecDepth 20000 in
theorem T259_2 {B : zHp} (H : yH0 B) {e : Nat} (he : 1 ≤ e + 1) (F : Nat) : ∀ (f : Nat) {v1 : Int32} {lv : List (Nat × Value)} {m : xS} {x : Unit × xS}, zld lv 0 = some (.ref 70) → zld lv 1 = some (.int v1) → D259_2 F f v1 m = some x → zR none e 2 none zc259 (2, lv, []) (xW B m) (none, xW B x.2) := by
  intro f
  induction f with
  | zero => intro v1 lv m x l0 l1 h; cases h
  | succ f ih =>
    intro v1 lv m x l0 l1 h
    unfold D259_2 at h
    refine q_li (k := 1) (i := 1) (q := (.iload_n 1, 1, 0, 0, .null)) rfl (fun _ => rfl) l1 ?_
    refine r_s (fr' := (5, lv, [.int 124, .int v1])) (hp' := xW B m) (q := (.bipush 124, 2, 0, 0, .null)) rfl (fun _ => rfl) (Nat.le_refl _) ?_
    refine r_ifc (len := 3) (a := 26) (b := 0) (v0 := .null) (cn := .ge) (off := 21) rfl (fun c => ?_) (fun c => ?_)
    · rw [if_pos c] at h
      obtain rfl := Option.some.inj h
      exact r_ret (q := (.return_, 1, 0, 0, .null)) rfl rfl (fun _ => rfl)
    · rw [if_neg (by rw [c]; decide)] at h
      refine q_lr (k := 1) (i := 0) (q := (.aload_n 0, 1, 0, 0, .null)) rfl (fun _ => rfl) l0 ?_
      refine r_gr (c := 84) H (pc := 9) rfl (by decide) (by decide) ?_
      refine q_li (k := 1) (i := 1) (q := (.iload_n 1, 1, 0, 0, .null)) rfl (fun _ => rfl) l1 ?_
      refine q_lr (k := 1) (i := 0) (q := (.aload_n 0, 1, 0, 0, .null)) rfl (fun _ => rfl) l0 ?_
      refine r_gr (c := 80) H (pc := 14) rfl (by decide) (by decide) ?_
      refine q_li (k := 1) (i := 1) (q := (.iload_n 1, 1, 0, 0, .null)) rfl (fun _ => rfl) l1 ?_
      obtain ⟨c1, h⟩ := xif h
      refine q_al (n := 148) (v := (m.1 80 (v1 : Int32).toNatClampNeg)) H (pc := 18) rfl (by decide) c1 rfl ?_
      obtain ⟨c2, h⟩ := xif h
      refine q_as (n := 124) (s2 := (xu m 84 (v1 : Int32).toNatClampNeg (m.1 80 (v1 : Int32).toNatClampNeg))) H (pc := 19) rfl (by decide) c2 rfl ?_
      refine q_inc (i := 1) (n := 1) (q := (.iinc 1 1, 3, 0, 0, .null)) rfl (fun _ => rfl) l1 (by decide) ?_
      have l0_3 : zld (zs1 lv 1 (.int (v1 + Int32.ofInt 1))) 0 = some (.ref 70) := x_o1 l0 rfl rfl
      have l1_3 : zld (zs1 lv 1 (.int (v1 + Int32.ofInt 1))) 1 = some (.int (v1 + Int32.ofInt 1)) := zs1_ld _ _ _
      generalize (zs1 lv 1 (.int (v1 + Int32.ofInt 1))) = lv3 at *
      refine r_s (fr' := (2, lv3, [])) (hp' := xW B (xu m 84 (v1 : Int32).toNatClampNeg (m.1 80 (v1 : Int32).toNatClampNeg))) (q := (.goto (-21), 3, 2, 0, .null)) rfl (fun _ => rfl) (Nat.le_refl _) ?_
      exact ih l0_3 l1_3 h
def D259 (F : Nat) (m : xS) : Option (Unit × xS) :=
  D259_2 F F 0 m
set_option maxRecDepth 20000 in
theorem T259 {B : zHp} (H : yH0 B) {e : Nat} (he : 1 ≤ e + 1) (F : Nat) {lv : List (Nat × Value)} {m : xS} {x : Unit × xS} (l0 : zld lv 0 = some (.ref 70)) (h : D259 F m = some x) : zR none e 2 none zc259 (0, lv, []) (xW B m) (none, xW B x.2) := by
  unfold D259 at h
  refine r_s (fr' := (1, lv, [.int 0])) (hp' := xW B m) (q := (.iconst 0, 1, 0, 0, .null)) rfl (fun _ => rfl) (Nat.le_refl _) ?_
  refine q_si (k := 1) (i := 1) (q := (.istore_n 1, 1, 0, 0, .null)) rfl (fun _ => rfl) (by decide) ?_
  have l0_1 : zld (zs1 lv 1 (.int 0)) 0 = some (.ref 70) := x_o1 l0 rfl rfl
  have l1_1 : zld (zs1 lv 1 (.int 0)) 1 = some (.int 0) := zs1_ld _ _ _
  generalize (zs1 lv 1 (.int 0)) = lv1 at *
  exact T259_2 H he F F l0_1 l1_1 h
set_option maxRecDepth 20000 in
theorem Z259 {B : zHp} (H : yH0 B) {F : Nat} {m : xS} {x : Unit × xS} (h : D259 F m = some x) {d : Nat} (hd : 1 ≤ d) : zCan d 259 [.ref 70] (xW B m) (none, xW B x.2) := by
  obtain ⟨e, rfl⟩ : ∃ e, d = e + 1 := ⟨d - 1, by omega⟩
  refine zCan_body (nL := 2) (rt := none) (cd := zc259) (xg259) ⟨Nat.le_of_ble_eq_true rfl, by decide⟩ (Nat.le_refl _) ?_
  exact T259 H hd F rfl h
/-- LentToolsModel.draw -/
def D274 (F : Nat) (v1 : Int32) (m : xS) : Option (Int32 × xS) :=
  if (!((v1 : Int32).toInt64 == 0)) = true then
    some ((((((((m.2 70 35) * 1103515245) + 12345) - (((m.2 70 35) * 1103515245) + 12345) / 2147483648 * 2147483648) / 65536) - (((((m.2 70 35) * 1103515245) + 12345) - (((m.2 70 35) * 1103515245) + 12345) / 2147483648 * 2147483648) / 65536) / (v1 : Int32).toInt64 * (v1 : Int32).toInt64) : Int64).toInt32, (xul m 70 35 ((((m.2 70 35) * 1103515245) + 12345) - (((m.2 70 35) * 1103515245) + 12345) / 2147483648 * 2147483648)))
  else none
set_option maxRecDepth 20000 in
theorem T274 {B : zHp} (H : yH0 B) {e : Nat} (he : 1 ≤ e + 1) (F : Nat) {v1 : Int32} {lv : List (Nat × Value)} {m : xS} {x : Int32 × xS} (l0 : zld lv 0 = some (.ref 70)) (l1 : zld lv 1 = some (.int v1)) (h : D274 F v1 m = some x) : zR none e 2 (some .int) zc274 (0, lv, []) (xW B m) (some (.int x.1), xW B x.2) := by
  unfold D274 at h
  refine q_lr (k := 1) (i := 0) (q := (.aload_n 0, 1, 0, 0, .null)) rfl (fun _ => rfl) l0 ?_
  refine q_lr (k := 1) (i := 0) (q := (.aload_n 0, 1, 0, 0, .null)) rfl (fun _ => rfl) l0 ?_
  refine r_gl (v := (m.2 70 35)) H (pc := 2) (i := _) rfl (by decide) (by decide) rfl ?_
  refine r_s (fr' := (8, lv, [.long 1103515245, .long (m.2 70 35), .ref 70])) (hp' := xW B m) (q := (.ldc2_w 475, 3, 0, 0, .long 1103515245)) rfl (fun _ => rfl) (Nat.le_refl _) ?_
  refine r_s (fr' := (9, lv, [.long ((m.2 70 35) * 1103515245), .ref 70])) (hp' := xW B m) (q := (.lmul, 1, 0, 0, .null)) rfl (fun _ => rfl) (Nat.le_refl _) ?_
  refine r_s (fr' := (12, lv, [.long 12345, .long ((m.2 70 35) * 1103515245), .ref 70])) (hp' := xW B m) (q := (.ldc2_w 477, 3, 0, 0, .long 12345)) rfl (fun _ => rfl) (Nat.le_refl _) ?_
  refine r_s (fr' := (13, lv, [.long (((m.2 70 35) * 1103515245) + 12345), .ref 70])) (hp' := xW B m) (q := (.ladd, 1, 0, 0, .null)) rfl (fun _ => rfl) (Nat.le_refl _) ?_
  refine r_s (fr' := (16, lv, [.long 2147483648, .long (((m.2 70 35) * 1103515245) + 12345), .ref 70])) (hp' := xW B m) (q := (.ldc2_w 479, 3, 0, 0, .long 2147483648)) rfl (fun _ => rfl) (Nat.le_refl _) ?_
  refine q_ldiv (f := fun x y => x - x / y * y) (q := (.lrem, 1, 0, 0, .null)) rfl (fun _ => rfl) (by decide) ?_
  refine r_pl (s2 := (xul m 70 35 ((((m.2 70 35) * 1103515245) + 12345) - (((m.2 70 35) * 1103515245) + 12345) / 2147483648 * 2147483648))) H (pc := 17) rfl (by decide) rfl rfl ?_
  refine q_lr (k := 1) (i := 0) (q := (.aload_n 0, 1, 0, 0, .null)) rfl (fun _ => rfl) l0 ?_
  refine r_gl (v := ((((m.2 70 35) * 1103515245) + 12345) - (((m.2 70 35) * 1103515245) + 12345) / 2147483648 * 2147483648)) H (pc := 21) (i := _) rfl (by decide) (by decide) rfl ?_
  refine r_s (fr' := (27, lv, [.long 65536, .long ((((m.2 70 35) * 1103515245) + 12345) - (((m.2 70 35) * 1103515245) + 12345) / 2147483648 * 2147483648)])) (hp' := xW B (xul m 70 35 ((((m.2 70 35) * 1103515245) + 12345) - (((m.2 70 35) * 1103515245) + 12345) / 2147483648 * 2147483648))) (q := (.ldc2_w 481, 3, 0, 0, .long 65536)) rfl (fun _ => rfl) (Nat.le_refl _) ?_
  refine q_ldiv (f := fun x y => x / y) (q := (.ldiv, 1, 0, 0, .null)) rfl (fun _ => rfl) (by decide) ?_
  refine q_li (k := 1) (i := 1) (q := (.iload_n 1, 1, 0, 0, .null)) rfl (fun _ => rfl) l1 ?_
  refine r_s (fr' := (30, lv, [.long (v1 : Int32).toInt64, .long (((((m.2 70 35) * 1103515245) + 12345) - (((m.2 70 35) * 1103515245) + 12345) / 2147483648 * 2147483648) / 65536)])) (hp' := xW B (xul m 70 35 ((((m.2 70 35) * 1103515245) + 12345) - (((m.2 70 35) * 1103515245) + 12345) / 2147483648 * 2147483648))) (q := (.i2l, 1, 0, 0, .null)) rfl (fun _ => rfl) (Nat.le_refl _) ?_
  obtain ⟨c1, h⟩ := xif h
  refine q_ldiv (f := fun x y => x - x / y * y) (q := (.lrem, 1, 0, 0, .null)) rfl (fun _ => rfl) c1 ?_
  refine r_s (fr' := (32, lv, [.int (((((((m.2 70 35) * 1103515245) + 12345) - (((m.2 70 35) * 1103515245) + 12345) / 2147483648 * 2147483648) / 65536) - (((((m.2 70 35) * 1103515245) + 12345) - (((m.2 70 35) * 1103515245) + 12345) / 2147483648 * 2147483648) / 65536) / (v1 : Int32).toInt64 * (v1 : Int32).toInt64) : Int64).toInt32])) (hp' := xW B (xul m 70 35 ((((m.2 70 35) * 1103515245) + 12345) - (((m.2 70 35) * 1103515245) + 12345) / 2147483648 * 2147483648))) (q := (.l2i, 1, 0, 0, .null)) rfl (fun _ => rfl) (Nat.le_refl _) ?_
  obtain rfl := Option.some.inj h
  exact q_ri (q := (.ireturn, 1, 0, 0, .null)) rfl (fun _ => rfl) rfl rfl
set_option maxRecDepth 20000 in
theorem Z274 {B : zHp} (H : yH0 B) {F : Nat} {a1 : Int32} {m : xS} {x : Int32 × xS} (h : D274 F a1 m = some x) {d : Nat} (hd : 1 ≤ d) : zCan d 274 [.ref 70, .int a1] (xW B m) (some (.int x.1), xW B x.2) := by
  obtain ⟨e, rfl⟩ : ∃ e, d = e + 1 := ⟨d - 1, by omega⟩
  refine zCan_body (nL := 2) (rt := (some .int)) (cd := zc274) (xg274) ⟨Nat.le_of_ble_eq_true rfl, by decide⟩ (Nat.le_refl _) ?_
  exact T274 H hd F rfl rfl h
/-- LentToolsModel.lendsDrawn -/
def D275_63 (F : Nat) (g4 : Int32 → Int32 → xS → Option (Int32 × xS)) (v1 : Int32) (v2 : Int32) (v3 : Int32) (m : xS) : Option (Int32 × xS) :=
  g4 v1 (v2 + Int32.ofInt 1) m
set_option maxRecDepth 20000 in
theorem T275_63 {B : zHp} (H : yH0 B) {e : Nat} (he : 3 ≤ e + 1) (F : Nat) (g4 : Int32 → Int32 → xS → Option (Int32 × xS)) (k4 : ∀ {v1 : Int32} {v2 : Int32} {lv : List (Nat × Value)} {m : xS} {x : Int32 × xS}, zld lv 0 = some (.ref 70) → zld lv 1 = some (.int v1) → zld lv 2 = some (.int v2) → g4 v1 v2 m = some x → zR none e 4 (some .int) zc275 (4, lv, []) (xW B m) (some (.int x.1), xW B x.2)) {v1 : Int32} {v2 : Int32} {v3 : Int32} {lv : List (Nat × Value)} {m : xS} {x : Int32 × xS} (l0 : zld lv 0 = some (.ref 70)) (l1 : zld lv 1 = some (.int v1)) (l2 : zld lv 2 = some (.int v2)) (l3 : zld lv 3 = some (.int v3)) (h : D275_63 F g4 v1 v2 v3 m = some x) : zR none e 4 (some .int) zc275 (63, lv, []) (xW B m) (some (.int x.1), xW B x.2) := by
  unfold D275_63 at h
  refine q_inc (i := 2) (n := 1) (q := (.iinc 2 1, 3, 0, 0, .null)) rfl (fun _ => rfl) l2 (by decide) ?_
  have l0_1 : zld (zs1 lv 2 (.int (v2 + Int32.ofInt 1))) 0 = some (.ref 70) := x_o1 l0 rfl rfl
  have l1_1 : zld (zs1 lv 2 (.int (v2 + Int32.ofInt 1))) 1 = some (.int v1) := x_o1 l1 rfl rfl
  have l2_1 : zld (zs1 lv 2 (.int (v2 + Int32.ofInt 1))) 2 = some (.int (v2 + Int32.ofInt 1)) := zs1_ld _ _ _
  have l3_1 : zld (zs1 lv 2 (.int (v2 + Int32.ofInt 1))) 3 = some (.int v3) := x_o1 l3 rfl rfl
  generalize (zs1 lv 2 (.int (v2 + Int32.ofInt 1))) = lv1 at *
  refine r_s (fr' := (4, lv1, [])) (hp' := xW B m) (q := (.goto (-62), 3, 4, 0, .null)) rfl (fun _ => rfl) (Nat.le_refl _) ?_
  exact k4 l0_1 l1_1 l2_1 h
def D275_4 (F : Nat) : Nat → Int32 → Int32 → xS → Option (Int32 × xS)
  | 0, _, _, _ => none
  | f + 1, v1, v2, m =>
    if zcmp .ge v2 (m.1 80 2) = true then
      some (v1, m)
    else
      (D274 F ((m.1 80 0) + 1) m).bind fun q23 =>
        if zcmp .ne q23.1 (q23.2.1 80 0) = true then
          (D222 F v2 q23.1 q23.2).bind fun q48 =>
            if zcmp .eq q48.1 0 = true then
              D275_63 F (D275_4 F f) v1 v2 q23.1 q48.2
            else
              (D223 F v2 q23.1 q48.2).bind fun q57 =>
                D275_63 F (D275_4 F f) (v1 + Int32.ofInt 1) v2 q23.1 q57.2
        else
          (D224 F v2 q23.2).bind fun q39 =>
            D275_63 F (D275_4 F f) v1 v2 q23.1 q39.2
set_option maxRecDepth 20000 in
theorem T275_4 {B : zHp} (H : yH0 B) {e : Nat} (he : 3 ≤ e + 1) (F : Nat) : ∀ (f : Nat) {v1 : Int32} {v2 : Int32} {lv : List (Nat × Value)} {m : xS} {x : Int32 × xS}, zld lv 0 = some (.ref 70) → zld lv 1 = some (.int v1) → zld lv 2 = some (.int v2) → D275_4 F f v1 v2 m = some x → zR none e 4 (some .int) zc275 (4, lv, []) (xW B m) (some (.int x.1), xW B x.2) := by
  intro f
  induction f with
  | zero => intro v1 v2 lv m x l0 l1 l2 h; cases h
  | succ f ih =>
    intro v1 v2 lv m x l0 l1 l2 h
    unfold D275_4 at h
    refine q_li (k := 1) (i := 2) (q := (.iload_n 2, 1, 0, 0, .null)) rfl (fun _ => rfl) l2 ?_
    refine q_lr (k := 1) (i := 0) (q := (.aload_n 0, 1, 0, 0, .null)) rfl (fun _ => rfl) l0 ?_
    refine r_gr (c := 80) H (pc := 6) rfl (by decide) (by decide) ?_
    refine r_s (fr' := (10, lv, [.int 2, .ref 80, .int v2])) (hp' := xW B m) (q := (.iconst 2, 1, 0, 0, .null)) rfl (fun _ => rfl) (Nat.le_refl _) ?_
    refine q_al (n := 148) (v := (m.1 80 2)) H (pc := 10) rfl (by decide) (by decide) rfl ?_
    refine r_ifc (len := 3) (a := 69) (b := 0) (v0 := .null) (cn := .ge) (off := 58) rfl (fun c => ?_) (fun c => ?_)
    · rw [if_pos c] at h
      refine q_li (k := 1) (i := 1) (q := (.iload_n 1, 1, 0, 0, .null)) rfl (fun _ => rfl) l1 ?_
      obtain rfl := Option.some.inj h
      exact q_ri (q := (.ireturn, 1, 0, 0, .null)) rfl (fun _ => rfl) rfl rfl
    · rw [if_neg (by rw [c]; decide)] at h
      refine q_lr (k := 1) (i := 0) (q := (.aload_n 0, 1, 0, 0, .null)) rfl (fun _ => rfl) l0 ?_
      refine q_lr (k := 1) (i := 0) (q := (.aload_n 0, 1, 0, 0, .null)) rfl (fun _ => rfl) l0 ?_
      refine r_gr (c := 80) H (pc := 16) rfl (by decide) (by decide) ?_
      refine r_s (fr' := (20, lv, [.int 0, .ref 80, .ref 70])) (hp' := xW B m) (q := (.iconst 0, 1, 0, 0, .null)) rfl (fun _ => rfl) (Nat.le_refl _) ?_
      refine q_al (n := 148) (v := (m.1 80 0)) H (pc := 20) rfl (by decide) (by decide) rfl ?_
      refine r_s (fr' := (22, lv, [.int 1, .int (m.1 80 0), .ref 70])) (hp' := xW B m) (q := (.iconst 1, 1, 0, 0, .null)) rfl (fun _ => rfl) (Nat.le_refl _) ?_
      refine r_s (fr' := (23, lv, [.int ((m.1 80 0) + 1), .ref 70])) (hp' := xW B m) (q := (.iadd, 1, 0, 0, .null)) rfl (fun _ => rfl) (Nat.le_refl _) ?_
      obtain ⟨q23, h23, h⟩ := xbind h
      refine r_call (ix := 70) (as := [.int ((m.1 80 0) + 1)]) (rest := []) (rv := some (.int q23.1)) (hp' := xW B q23.2) (pc := 23) rfl xr274 rfl rfl rfl (xkd H (by decide)) (Nat.le_of_ble_eq_true rfl) (Z274 H h23 (by omega)) (Nat.le_refl _) ?_
      refine q_si (k := 1) (i := 3) (q := (.istore_n 3, 1, 0, 0, .null)) rfl (fun _ => rfl) (by decide) ?_
      have l0_1 : zld (zs1 lv 3 (.int q23.1)) 0 = some (.ref 70) := x_o1 l0 rfl rfl
      have l1_1 : zld (zs1 lv 3 (.int q23.1)) 1 = some (.int v1) := x_o1 l1 rfl rfl
      have l2_1 : zld (zs1 lv 3 (.int q23.1)) 2 = some (.int v2) := x_o1 l2 rfl rfl
      have l3_1 : zld (zs1 lv 3 (.int q23.1)) 3 = some (.int q23.1) := zs1_ld _ _ _
      generalize (zs1 lv 3 (.int q23.1)) = lv1 at *
      refine q_li (k := 1) (i := 3) (q := (.iload_n 3, 1, 0, 0, .null)) rfl (fun _ => rfl) l3_1 ?_
      refine q_lr (k := 1) (i := 0) (q := (.aload_n 0, 1, 0, 0, .null)) rfl (fun _ => rfl) l0_1 ?_
      refine r_gr (c := 80) H (pc := 29) rfl (by decide) (by decide) ?_
      refine r_s (fr' := (33, lv1, [.int 0, .ref 80, .int q23.1])) (hp' := xW B q23.2) (q := (.iconst 0, 1, 0, 0, .null)) rfl (fun _ => rfl) (Nat.le_refl _) ?_
      refine q_al (n := 148) (v := (q23.2.1 80 0)) H (pc := 33) rfl (by decide) (by decide) rfl ?_
      refine r_ifc (len := 3) (a := 45) (b := 0) (v0 := .null) (cn := .ne) (off := 11) rfl (fun c => ?_) (fun c => ?_)
      · rw [if_pos c] at h
        refine q_lr (k := 1) (i := 0) (q := (.aload_n 0, 1, 0, 0, .null)) rfl (fun _ => rfl) l0_1 ?_
        refine q_li (k := 1) (i := 2) (q := (.iload_n 2, 1, 0, 0, .null)) rfl (fun _ => rfl) l2_1 ?_
        refine q_li (k := 1) (i := 3) (q := (.iload_n 3, 1, 0, 0, .null)) rfl (fun _ => rfl) l3_1 ?_
        obtain ⟨q48, h48, h⟩ := xbind h
        refine r_call (ix := 70) (as := [.int v2, .int q23.1]) (rest := []) (rv := some (.int q48.1)) (hp' := xW B q48.2) (pc := 48) rfl xr222 rfl rfl rfl (xkd H (by decide)) (Nat.le_of_ble_eq_true rfl) (Z222 H h48 (by omega)) (Nat.le_refl _) ?_
        refine r_if (len := 3) (a := 63) (b := 0) (v0 := .null) (cn := .eq) (off := 12) rfl (fun c => ?_) (fun c => ?_)
        · rw [if_pos c] at h
          exact T275_63 H he F _ ih l0_1 l1_1 l2_1 l3_1 h
        · rw [if_neg (by rw [c]; decide)] at h
          refine q_lr (k := 1) (i := 0) (q := (.aload_n 0, 1, 0, 0, .null)) rfl (fun _ => rfl) l0_1 ?_
          refine q_li (k := 1) (i := 2) (q := (.iload_n 2, 1, 0, 0, .null)) rfl (fun _ => rfl) l2_1 ?_
          refine q_li (k := 1) (i := 3) (q := (.iload_n 3, 1, 0, 0, .null)) rfl (fun _ => rfl) l3_1 ?_
          obtain ⟨q57, h57, h⟩ := xbind h
          refine r_call (ix := 70) (as := [.int v2, .int q23.1]) (rest := []) (rv := none) (hp' := xW B q57.2) (pc := 57) rfl xr223 rfl rfl rfl (xkd H (by decide)) (Nat.le_of_ble_eq_true rfl) (Z223 H h57 (by omega)) (Nat.le_refl _) ?_
          refine q_inc (i := 1) (n := 1) (q := (.iinc 1 1, 3, 0, 0, .null)) rfl (fun _ => rfl) l1_1 (by decide) ?_
          have l0_2 : zld (zs1 lv1 1 (.int (v1 + Int32.ofInt 1))) 0 = some (.ref 70) := x_o1 l0_1 rfl rfl
          have l1_2 : zld (zs1 lv1 1 (.int (v1 + Int32.ofInt 1))) 1 = some (.int (v1 + Int32.ofInt 1)) := zs1_ld _ _ _
          have l2_2 : zld (zs1 lv1 1 (.int (v1 + Int32.ofInt 1))) 2 = some (.int v2) := x_o1 l2_1 rfl rfl
          have l3_2 : zld (zs1 lv1 1 (.int (v1 + Int32.ofInt 1))) 3 = some (.int q23.1) := x_o1 l3_1 rfl rfl
          generalize (zs1 lv1 1 (.int (v1 + Int32.ofInt 1))) = lv2 at *
          exact T275_63 H he F _ ih l0_2 l1_2 l2_2 l3_2 h
      · rw [if_neg (by rw [c]; decide)] at h
        refine q_lr (k := 1) (i := 0) (q := (.aload_n 0, 1, 0, 0, .null)) rfl (fun _ => rfl) l0_1 ?_
        refine q_li (k := 1) (i := 2) (q := (.iload_n 2, 1, 0, 0, .null)) rfl (fun _ => rfl) l2_1 ?_
        obtain ⟨q39, h39, h⟩ := xbind h
        refine r_call (ix := 70) (as := [.int v2]) (rest := []) (rv := none) (hp' := xW B q39.2) (pc := 39) rfl xr224 rfl rfl rfl (xkd H (by decide)) (Nat.le_of_ble_eq_true rfl) (Z224 H h39 (by omega)) (Nat.le_refl _) ?_
        refine r_s (fr' := (63, lv1, [])) (hp' := xW B q39.2) (q := (.goto 21, 3, 63, 0, .null)) rfl (fun _ => rfl) (Nat.le_refl _) ?_
        exact T275_63 H he F _ ih l0_1 l1_1 l2_1 l3_1 h
def D275 (F : Nat) (m : xS) : Option (Int32 × xS) :=
  D275_4 F F 0 0 m
set_option maxRecDepth 20000 in
theorem T275 {B : zHp} (H : yH0 B) {e : Nat} (he : 3 ≤ e + 1) (F : Nat) {lv : List (Nat × Value)} {m : xS} {x : Int32 × xS} (l0 : zld lv 0 = some (.ref 70)) (h : D275 F m = some x) : zR none e 4 (some .int) zc275 (0, lv, []) (xW B m) (some (.int x.1), xW B x.2) := by
  unfold D275 at h
  refine r_s (fr' := (1, lv, [.int 0])) (hp' := xW B m) (q := (.iconst 0, 1, 0, 0, .null)) rfl (fun _ => rfl) (Nat.le_refl _) ?_
  refine q_si (k := 1) (i := 1) (q := (.istore_n 1, 1, 0, 0, .null)) rfl (fun _ => rfl) (by decide) ?_
  have l0_1 : zld (zs1 lv 1 (.int 0)) 0 = some (.ref 70) := x_o1 l0 rfl rfl
  have l1_1 : zld (zs1 lv 1 (.int 0)) 1 = some (.int 0) := zs1_ld _ _ _
  generalize (zs1 lv 1 (.int 0)) = lv1 at *
  refine r_s (fr' := (3, lv1, [.int 0])) (hp' := xW B m) (q := (.iconst 0, 1, 0, 0, .null)) rfl (fun _ => rfl) (Nat.le_refl _) ?_
  refine q_si (k := 1) (i := 2) (q := (.istore_n 2, 1, 0, 0, .null)) rfl (fun _ => rfl) (by decide) ?_
  have l0_2 : zld (zs1 lv1 2 (.int 0)) 0 = some (.ref 70) := x_o1 l0_1 rfl rfl
  have l1_2 : zld (zs1 lv1 2 (.int 0)) 1 = some (.int 0) := x_o1 l1_1 rfl rfl
  have l2_2 : zld (zs1 lv1 2 (.int 0)) 2 = some (.int 0) := zs1_ld _ _ _
  generalize (zs1 lv1 2 (.int 0)) = lv2 at *
  exact T275_4 H he F F l0_2 l1_2 l2_2 h
set_option maxRecDepth 20000 in
theorem Z275 {B : zHp} (H : yH0 B) {F : Nat} {m : xS} {x : Int32 × xS} (h : D275 F m = some x) {d : Nat} (hd : 3 ≤ d) : zCan d 275 [.ref 70] (xW B m) (some (.int x.1), xW B x.2) := by
  obtain ⟨e, rfl⟩ : ∃ e, d = e + 1 := ⟨d - 1, by omega⟩
  refine zCan_body (nL := 4) (rt := (some .int)) (cd := zc275) (xg275) ⟨Nat.le_of_ble_eq_true rfl, by decide⟩ (Nat.le_refl _) ?_
  exact T275 H hd F rfl h
/-- LentToolsModel.worksAll -/
def D246_32 (F : Nat) (g4 : Int32 → Int32 → xS → Option (Int32 × xS)) (v1 : Int32) (v2 : Int32) (w0 : Int32) (w1 : Int32) (m : xS) : Option (Int32 × xS) :=
  g4 (w1 + w0) (v2 + Int32.ofInt 1) m
set_option maxRecDepth 20000 in
theorem T246_32 {B : zHp} (H : yH0 B) {e : Nat} (he : 6 ≤ e + 1) (F : Nat) (g4 : Int32 → Int32 → xS → Option (Int32 × xS)) (k4 : ∀ {v1 : Int32} {v2 : Int32} {lv : List (Nat × Value)} {m : xS} {x : Int32 × xS}, zld lv 0 = some (.ref 70) → zld lv 1 = some (.int v1) → zld lv 2 = some (.int v2) → g4 v1 v2 m = some x → zR none e 3 (some .int) zc246 (4, lv, []) (xW B m) (some (.int x.1), xW B x.2)) {v1 : Int32} {v2 : Int32} {w0 : Int32} {w1 : Int32} {lv : List (Nat × Value)} {m : xS} {x : Int32 × xS} (l0 : zld lv 0 = some (.ref 70)) (l1 : zld lv 1 = some (.int v1)) (l2 : zld lv 2 = some (.int v2)) (h : D246_32 F g4 v1 v2 w0 w1 m = some x) : zR none e 3 (some .int) zc246 (32, lv, [.int w0, .int w1]) (xW B m) (some (.int x.1), xW B x.2) := by
  unfold D246_32 at h
  refine r_s (fr' := (33, lv, [.int (w1 + w0)])) (hp' := xW B m) (q := (.iadd, 1, 0, 0, .null)) rfl (fun _ => rfl) (Nat.le_refl _) ?_
  refine q_si (k := 1) (i := 1) (q := (.istore_n 1, 1, 0, 0, .null)) rfl (fun _ => rfl) (by decide) ?_
  have l0_1 : zld (zs1 lv 1 (.int (w1 + w0))) 0 = some (.ref 70) := x_o1 l0 rfl rfl
  have l1_1 : zld (zs1 lv 1 (.int (w1 + w0))) 1 = some (.int (w1 + w0)) := zs1_ld _ _ _
  have l2_1 : zld (zs1 lv 1 (.int (w1 + w0))) 2 = some (.int v2) := x_o1 l2 rfl rfl
  generalize (zs1 lv 1 (.int (w1 + w0))) = lv1 at *
  refine q_inc (i := 2) (n := 1) (q := (.iinc 2 1, 3, 0, 0, .null)) rfl (fun _ => rfl) l2_1 (by decide) ?_
  have l0_2 : zld (zs1 lv1 2 (.int (v2 + Int32.ofInt 1))) 0 = some (.ref 70) := x_o1 l0_1 rfl rfl
  have l1_2 : zld (zs1 lv1 2 (.int (v2 + Int32.ofInt 1))) 1 = some (.int (w1 + w0)) := x_o1 l1_1 rfl rfl
  have l2_2 : zld (zs1 lv1 2 (.int (v2 + Int32.ofInt 1))) 2 = some (.int (v2 + Int32.ofInt 1)) := zs1_ld _ _ _
  generalize (zs1 lv1 2 (.int (v2 + Int32.ofInt 1))) = lv2 at *
  refine r_s (fr' := (4, lv2, [])) (hp' := xW B m) (q := (.goto (-33), 3, 4, 0, .null)) rfl (fun _ => rfl) (Nat.le_refl _) ?_
  exact k4 l0_2 l1_2 l2_2 h
def D246_4 (F : Nat) : Nat → Int32 → Int32 → xS → Option (Int32 × xS)
  | 0, _, _, _ => none
  | f + 1, v1, v2, m =>
    if zcmp .ge v2 (m.1 80 3) = true then
      some (v1, m)
    else
      (D216 F v2 m).bind fun q17 =>
        if zcmp .eq q17.1 0 = true then
          D246_32 F (D246_4 F f) v1 v2 0 v1 q17.2
        else
          (D225 F v2 q17.2).bind fun q25 =>
            D246_32 F (D246_4 F f) v1 v2 q25.1 v1 q25.2
set_option maxRecDepth 20000 in
theorem T246_4 {B : zHp} (H : yH0 B) {e : Nat} (he : 6 ≤ e + 1) (F : Nat) : ∀ (f : Nat) {v1 : Int32} {v2 : Int32} {lv : List (Nat × Value)} {m : xS} {x : Int32 × xS}, zld lv 0 = some (.ref 70) → zld lv 1 = some (.int v1) → zld lv 2 = some (.int v2) → D246_4 F f v1 v2 m = some x → zR none e 3 (some .int) zc246 (4, lv, []) (xW B m) (some (.int x.1), xW B x.2) := by
  intro f
  induction f with
  | zero => intro v1 v2 lv m x l0 l1 l2 h; cases h
  | succ f ih =>
    intro v1 v2 lv m x l0 l1 l2 h
    unfold D246_4 at h
    refine q_li (k := 1) (i := 2) (q := (.iload_n 2, 1, 0, 0, .null)) rfl (fun _ => rfl) l2 ?_
    refine q_lr (k := 1) (i := 0) (q := (.aload_n 0, 1, 0, 0, .null)) rfl (fun _ => rfl) l0 ?_
    refine r_gr (c := 80) H (pc := 6) rfl (by decide) (by decide) ?_
    refine r_s (fr' := (10, lv, [.int 3, .ref 80, .int v2])) (hp' := xW B m) (q := (.iconst 3, 1, 0, 0, .null)) rfl (fun _ => rfl) (Nat.le_refl _) ?_
    refine q_al (n := 148) (v := (m.1 80 3)) H (pc := 10) rfl (by decide) (by decide) rfl ?_
    refine r_ifc (len := 3) (a := 40) (b := 0) (v0 := .null) (cn := .ge) (off := 29) rfl (fun c => ?_) (fun c => ?_)
    · rw [if_pos c] at h
      refine q_li (k := 1) (i := 1) (q := (.iload_n 1, 1, 0, 0, .null)) rfl (fun _ => rfl) l1 ?_
      obtain rfl := Option.some.inj h
      exact q_ri (q := (.ireturn, 1, 0, 0, .null)) rfl (fun _ => rfl) rfl rfl
    · rw [if_neg (by rw [c]; decide)] at h
      refine q_li (k := 1) (i := 1) (q := (.iload_n 1, 1, 0, 0, .null)) rfl (fun _ => rfl) l1 ?_
      refine q_lr (k := 1) (i := 0) (q := (.aload_n 0, 1, 0, 0, .null)) rfl (fun _ => rfl) l0 ?_
      refine q_li (k := 1) (i := 2) (q := (.iload_n 2, 1, 0, 0, .null)) rfl (fun _ => rfl) l2 ?_
      obtain ⟨q17, h17, h⟩ := xbind h
      refine r_call (ix := 70) (as := [.int v2]) (rest := [.int v1]) (rv := some (.int q17.1)) (hp' := xW B q17.2) (pc := 17) rfl xr216 rfl rfl rfl (xkd H (by decide)) (Nat.le_of_ble_eq_true rfl) (Z216 H h17 (by omega)) (Nat.le_refl _) ?_
      refine r_if (len := 3) (a := 31) (b := 0) (v0 := .null) (cn := .eq) (off := 11) rfl (fun c => ?_) (fun c => ?_)
      · rw [if_pos c] at h
        refine r_s (fr' := (32, lv, [.int 0, .int v1])) (hp' := xW B q17.2) (q := (.iconst 0, 1, 0, 0, .null)) rfl (fun _ => rfl) (Nat.le_refl _) ?_
        exact T246_32 H he F _ ih l0 l1 l2 h
      · rw [if_neg (by rw [c]; decide)] at h
        refine q_lr (k := 1) (i := 0) (q := (.aload_n 0, 1, 0, 0, .null)) rfl (fun _ => rfl) l0 ?_
        refine q_li (k := 1) (i := 2) (q := (.iload_n 2, 1, 0, 0, .null)) rfl (fun _ => rfl) l2 ?_
        obtain ⟨q25, h25, h⟩ := xbind h
        refine r_call (ix := 70) (as := [.int v2]) (rest := [.int v1]) (rv := some (.int q25.1)) (hp' := xW B q25.2) (pc := 25) rfl xr225 rfl rfl rfl (xkd H (by decide)) (Nat.le_of_ble_eq_true rfl) (Z225 H h25 (by omega)) (Nat.le_refl _) ?_
        refine r_s (fr' := (32, lv, [.int q25.1, .int v1])) (hp' := xW B q25.2) (q := (.goto 4, 3, 32, 0, .null)) rfl (fun _ => rfl) (Nat.le_refl _) ?_
        exact T246_32 H he F _ ih l0 l1 l2 h
def D246 (F : Nat) (m : xS) : Option (Int32 × xS) :=
  D246_4 F F 0 0 m
set_option maxRecDepth 20000 in
theorem T246 {B : zHp} (H : yH0 B) {e : Nat} (he : 6 ≤ e + 1) (F : Nat) {lv : List (Nat × Value)} {m : xS} {x : Int32 × xS} (l0 : zld lv 0 = some (.ref 70)) (h : D246 F m = some x) : zR none e 3 (some .int) zc246 (0, lv, []) (xW B m) (some (.int x.1), xW B x.2) := by
  unfold D246 at h
  refine r_s (fr' := (1, lv, [.int 0])) (hp' := xW B m) (q := (.iconst 0, 1, 0, 0, .null)) rfl (fun _ => rfl) (Nat.le_refl _) ?_
  refine q_si (k := 1) (i := 1) (q := (.istore_n 1, 1, 0, 0, .null)) rfl (fun _ => rfl) (by decide) ?_
  have l0_1 : zld (zs1 lv 1 (.int 0)) 0 = some (.ref 70) := x_o1 l0 rfl rfl
  have l1_1 : zld (zs1 lv 1 (.int 0)) 1 = some (.int 0) := zs1_ld _ _ _
  generalize (zs1 lv 1 (.int 0)) = lv1 at *
  refine r_s (fr' := (3, lv1, [.int 0])) (hp' := xW B m) (q := (.iconst 0, 1, 0, 0, .null)) rfl (fun _ => rfl) (Nat.le_refl _) ?_
  refine q_si (k := 1) (i := 2) (q := (.istore_n 2, 1, 0, 0, .null)) rfl (fun _ => rfl) (by decide) ?_
  have l0_2 : zld (zs1 lv1 2 (.int 0)) 0 = some (.ref 70) := x_o1 l0_1 rfl rfl
  have l1_2 : zld (zs1 lv1 2 (.int 0)) 1 = some (.int 0) := x_o1 l1_1 rfl rfl
  have l2_2 : zld (zs1 lv1 2 (.int 0)) 2 = some (.int 0) := zs1_ld _ _ _
  generalize (zs1 lv1 2 (.int 0)) = lv2 at *
  exact T246_4 H he F F l0_2 l1_2 l2_2 h
set_option maxRecDepth 20000 in
theorem Z246 {B : zHp} (H : yH0 B) {F : Nat} {m : xS} {x : Int32 × xS} (h : D246 F m = some x) {d : Nat} (hd : 6 ≤ d) : zCan d 246 [.ref 70] (xW B m) (some (.int x.1), xW B x.2) := by
  obtain ⟨e, rfl⟩ : ∃ e, d = e + 1 := ⟨d - 1, by omega⟩
  refine zCan_body (nL := 3) (rt := (some .int)) (cd := zc246) (xg246) ⟨Nat.le_of_ble_eq_true rfl, by decide⟩ (Nat.le_refl _) ?_
  exact T246 H hd F rfl h
/-- LentToolsModel.laysBack -/
def D260_2 (F : Nat) : Nat → Int32 → xS → Option (Unit × xS)
  | 0, _, _ => none
  | f + 1, v1, m =>
    if zcmp .ge v1 124 = true then
      some ((), m)
    else
      if xib v1 124 = true then
        if xib v1 148 = true then
          D260_2 F f (v1 + Int32.ofInt 1) (xu m 80 (v1 : Int32).toNatClampNeg (m.1 84 (v1 : Int32).toNatClampNeg))
        else none
      else none
set_option maxRecDepth 20000 in
theorem T260_2 {B : zHp} (H : yH0 B) {e : Nat} (he : 1 ≤ e + 1) (F : Nat) : ∀ (f : Nat) {v1 : Int32} {lv : List (Nat × Value)} {m : xS} {x : Unit × xS}, zld lv 0 = some (.ref 70) → zld lv 1 = some (.int v1) → D260_2 F f v1 m = some x → zR none e 2 none zc260 (2, lv, []) (xW B m) (none, xW B x.2) := by
  intro f
  induction f with
  | zero => intro v1 lv m x l0 l1 h; cases h
  | succ f ih =>
    intro v1 lv m x l0 l1 h
    unfold D260_2 at h
    refine q_li (k := 1) (i := 1) (q := (.iload_n 1, 1, 0, 0, .null)) rfl (fun _ => rfl) l1 ?_
    refine r_s (fr' := (5, lv, [.int 124, .int v1])) (hp' := xW B m) (q := (.bipush 124, 2, 0, 0, .null)) rfl (fun _ => rfl) (Nat.le_refl _) ?_
    refine r_ifc (len := 3) (a := 26) (b := 0) (v0 := .null) (cn := .ge) (off := 21) rfl (fun c => ?_) (fun c => ?_)
    · rw [if_pos c] at h
      obtain rfl := Option.some.inj h
      exact r_ret (q := (.return_, 1, 0, 0, .null)) rfl rfl (fun _ => rfl)
    · rw [if_neg (by rw [c]; decide)] at h
      refine q_lr (k := 1) (i := 0) (q := (.aload_n 0, 1, 0, 0, .null)) rfl (fun _ => rfl) l0 ?_
      refine r_gr (c := 80) H (pc := 9) rfl (by decide) (by decide) ?_
      refine q_li (k := 1) (i := 1) (q := (.iload_n 1, 1, 0, 0, .null)) rfl (fun _ => rfl) l1 ?_
      refine q_lr (k := 1) (i := 0) (q := (.aload_n 0, 1, 0, 0, .null)) rfl (fun _ => rfl) l0 ?_
      refine r_gr (c := 84) H (pc := 14) rfl (by decide) (by decide) ?_
      refine q_li (k := 1) (i := 1) (q := (.iload_n 1, 1, 0, 0, .null)) rfl (fun _ => rfl) l1 ?_
      obtain ⟨c1, h⟩ := xif h
      refine q_al (n := 124) (v := (m.1 84 (v1 : Int32).toNatClampNeg)) H (pc := 18) rfl (by decide) c1 rfl ?_
      obtain ⟨c2, h⟩ := xif h
      refine q_as (n := 148) (s2 := (xu m 80 (v1 : Int32).toNatClampNeg (m.1 84 (v1 : Int32).toNatClampNeg))) H (pc := 19) rfl (by decide) c2 rfl ?_
      refine q_inc (i := 1) (n := 1) (q := (.iinc 1 1, 3, 0, 0, .null)) rfl (fun _ => rfl) l1 (by decide) ?_
      have l0_3 : zld (zs1 lv 1 (.int (v1 + Int32.ofInt 1))) 0 = some (.ref 70) := x_o1 l0 rfl rfl
      have l1_3 : zld (zs1 lv 1 (.int (v1 + Int32.ofInt 1))) 1 = some (.int (v1 + Int32.ofInt 1)) := zs1_ld _ _ _
      generalize (zs1 lv 1 (.int (v1 + Int32.ofInt 1))) = lv3 at *
      refine r_s (fr' := (2, lv3, [])) (hp' := xW B (xu m 80 (v1 : Int32).toNatClampNeg (m.1 84 (v1 : Int32).toNatClampNeg))) (q := (.goto (-21), 3, 2, 0, .null)) rfl (fun _ => rfl) (Nat.le_refl _) ?_
      exact ih l0_3 l1_3 h
def D260 (F : Nat) (m : xS) : Option (Unit × xS) :=
  D260_2 F F 0 m
set_option maxRecDepth 20000 in
theorem T260 {B : zHp} (H : yH0 B) {e : Nat} (he : 1 ≤ e + 1) (F : Nat) {lv : List (Nat × Value)} {m : xS} {x : Unit × xS} (l0 : zld lv 0 = some (.ref 70)) (h : D260 F m = some x) : zR none e 2 none zc260 (0, lv, []) (xW B m) (none, xW B x.2) := by
  unfold D260 at h
  refine r_s (fr' := (1, lv, [.int 0])) (hp' := xW B m) (q := (.iconst 0, 1, 0, 0, .null)) rfl (fun _ => rfl) (Nat.le_refl _) ?_
  refine q_si (k := 1) (i := 1) (q := (.istore_n 1, 1, 0, 0, .null)) rfl (fun _ => rfl) (by decide) ?_
  have l0_1 : zld (zs1 lv 1 (.int 0)) 0 = some (.ref 70) := x_o1 l0 rfl rfl
  have l1_1 : zld (zs1 lv 1 (.int 0)) 1 = some (.int 0) := zs1_ld _ _ _
  generalize (zs1 lv 1 (.int 0)) = lv1 at *
  exact T260_2 H he F F l0_1 l1_1 h
set_option maxRecDepth 20000 in
theorem Z260 {B : zHp} (H : yH0 B) {F : Nat} {m : xS} {x : Unit × xS} (h : D260 F m = some x) {d : Nat} (hd : 1 ≤ d) : zCan d 260 [.ref 70] (xW B m) (none, xW B x.2) := by
  obtain ⟨e, rfl⟩ : ∃ e, d = e + 1 := ⟨d - 1, by omega⟩
  refine zCan_body (nL := 2) (rt := none) (cd := zc260) (xg260) ⟨Nat.le_of_ble_eq_true rfl, by decide⟩ (Nat.le_refl _) ?_
  exact T260 H hd F rfl h
/-- LentToolsModel.harvests -/
def D276_41 (F : Nat) (v1 : Int32) (v2 : Int32) (v3 : Int32) (m : xS) : Option (Int32 × xS) :=
  some ((-1), m)
set_option maxRecDepth 20000 in
theorem T276_41 {B : zHp} (H : yH0 B) {e : Nat} (he : 7 ≤ e + 1) (F : Nat) {v1 : Int32} {v2 : Int32} {v3 : Int32} {lv : List (Nat × Value)} {m : xS} {x : Int32 × xS} (l0 : zld lv 0 = some (.ref 70)) (l1 : zld lv 1 = some (.int v1)) (l2 : zld lv 2 = some (.int v2)) (l3 : zld lv 3 = some (.int v3)) (h : D276_41 F v1 v2 v3 m = some x) : zR none e 8 (some .int) zc276 (41, lv, []) (xW B m) (some (.int x.1), xW B x.2) := by
  unfold D276_41 at h
  refine r_s (fr' := (42, lv, [.int (-1)])) (hp' := xW B m) (q := (.iconst (-1), 1, 0, 0, .null)) rfl (fun _ => rfl) (Nat.le_refl _) ?_
  obtain rfl := Option.some.inj h
  exact q_ri (q := (.ireturn, 1, 0, 0, .null)) rfl (fun _ => rfl) rfl rfl
def D276_74 (F : Nat) (g65 : Int32 → Int32 → Int32 → Int32 → Int32 → Int32 → xS → Option (Int32 × xS)) : Nat → Int32 → Int32 → Int32 → Int32 → Int32 → Int32 → Int32 → xS → Option (Int32 × xS)
  | 0, _, _, _, _, _, _, _, _ => none
  | f + 1, v1, v2, v3, v4, v5, v6, v7, m =>
    if zcmp .ge v7 v2 = true then
      (D260 F m).bind fun q110 =>
        g65 v1 v2 v3 v4 v5 (v6 + Int32.ofInt 1) q110.2
    else
      (D275 F m).bind fun q83 =>
        (D246 F q83.2).bind fun q92 =>
          (D233 F q92.2).bind fun q99 =>
            D276_74 F g65 f v1 v2 v3 (v4 + q92.1) (v5 + q83.1) v6 (v7 + Int32.ofInt 1) q99.2
set_option maxRecDepth 20000 in
theorem T276_74 {B : zHp} (H : yH0 B) {e : Nat} (he : 7 ≤ e + 1) (F : Nat) (g65 : Int32 → Int32 → Int32 → Int32 → Int32 → Int32 → xS → Option (Int32 × xS)) (k65 : ∀ {v1 : Int32} {v2 : Int32} {v3 : Int32} {v4 : Int32} {v5 : Int32} {v6 : Int32} {lv : List (Nat × Value)} {m : xS} {x : Int32 × xS}, zld lv 0 = some (.ref 70) → zld lv 1 = some (.int v1) → zld lv 2 = some (.int v2) → zld lv 3 = some (.int v3) → zld lv 4 = some (.int v4) → zld lv 5 = some (.int v5) → zld lv 6 = some (.int v6) → g65 v1 v2 v3 v4 v5 v6 m = some x → zR none e 8 (some .int) zc276 (65, lv, []) (xW B m) (some (.int x.1), xW B x.2)) : ∀ (f : Nat) {v1 : Int32} {v2 : Int32} {v3 : Int32} {v4 : Int32} {v5 : Int32} {v6 : Int32} {v7 : Int32} {lv : List (Nat × Value)} {m : xS} {x : Int32 × xS}, zld lv 0 = some (.ref 70) → zld lv 1 = some (.int v1) → zld lv 2 = some (.int v2) → zld lv 3 = some (.int v3) → zld lv 4 = some (.int v4) → zld lv 5 = some (.int v5) → zld lv 6 = some (.int v6) → zld lv 7 = some (.int v7) → D276_74 F g65 f v1 v2 v3 v4 v5 v6 v7 m = some x → zR none e 8 (some .int) zc276 (74, lv, []) (xW B m) (some (.int x.1), xW B x.2) := by
  intro f
  induction f with
  | zero => intro v1 v2 v3 v4 v5 v6 v7 lv m x l0 l1 l2 l3 l4 l5 l6 l7 h; cases h
  | succ f ih =>
    intro v1 v2 v3 v4 v5 v6 v7 lv m x l0 l1 l2 l3 l4 l5 l6 l7 h
    unfold D276_74 at h
    refine q_li (k := 2) (i := 7) (q := (.iload 7, 2, 0, 0, .null)) rfl (fun _ => rfl) l7 ?_
    refine q_li (k := 1) (i := 2) (q := (.iload_n 2, 1, 0, 0, .null)) rfl (fun _ => rfl) l2 ?_
    refine r_ifc (len := 3) (a := 109) (b := 0) (v0 := .null) (cn := .ge) (off := 32) rfl (fun c => ?_) (fun c => ?_)
    · rw [if_pos c] at h
      refine q_lr (k := 1) (i := 0) (q := (.aload_n 0, 1, 0, 0, .null)) rfl (fun _ => rfl) l0 ?_
      obtain ⟨q110, h110, h⟩ := xbind h
      refine r_call (ix := 70) (as := []) (rest := []) (rv := none) (hp' := xW B q110.2) (pc := 110) rfl xr260 rfl rfl rfl (xkd H (by decide)) (Nat.le_of_ble_eq_true rfl) (Z260 H h110 (by omega)) (Nat.le_refl _) ?_
      refine q_inc (i := 6) (n := 1) (q := (.iinc 6 1, 3, 0, 0, .null)) rfl (fun _ => rfl) l6 (by decide) ?_
      have l0_1 : zld (zs1 lv 6 (.int (v6 + Int32.ofInt 1))) 0 = some (.ref 70) := x_o1 l0 rfl rfl
      have l1_1 : zld (zs1 lv 6 (.int (v6 + Int32.ofInt 1))) 1 = some (.int v1) := x_o1 l1 rfl rfl
      have l2_1 : zld (zs1 lv 6 (.int (v6 + Int32.ofInt 1))) 2 = some (.int v2) := x_o1 l2 rfl rfl
      have l3_1 : zld (zs1 lv 6 (.int (v6 + Int32.ofInt 1))) 3 = some (.int v3) := x_o1 l3 rfl rfl
      have l4_1 : zld (zs1 lv 6 (.int (v6 + Int32.ofInt 1))) 4 = some (.int v4) := x_o1 l4 rfl rfl
      have l5_1 : zld (zs1 lv 6 (.int (v6 + Int32.ofInt 1))) 5 = some (.int v5) := x_o1 l5 rfl rfl
      have l6_1 : zld (zs1 lv 6 (.int (v6 + Int32.ofInt 1))) 6 = some (.int (v6 + Int32.ofInt 1)) := zs1_ld _ _ _
      have l7_1 : zld (zs1 lv 6 (.int (v6 + Int32.ofInt 1))) 7 = some (.int v7) := x_o1 l7 rfl rfl
      generalize (zs1 lv 6 (.int (v6 + Int32.ofInt 1))) = lv1 at *
      refine r_s (fr' := (65, lv1, [])) (hp' := xW B q110.2) (q := (.goto (-51), 3, 65, 0, .null)) rfl (fun _ => rfl) (Nat.le_refl _) ?_
      exact k65 l0_1 l1_1 l2_1 l3_1 l4_1 l5_1 l6_1 h
    · rw [if_neg (by rw [c]; decide)] at h
      refine q_li (k := 2) (i := 5) (q := (.iload 5, 2, 0, 0, .null)) rfl (fun _ => rfl) l5 ?_
      refine q_lr (k := 1) (i := 0) (q := (.aload_n 0, 1, 0, 0, .null)) rfl (fun _ => rfl) l0 ?_
      obtain ⟨q83, h83, h⟩ := xbind h
      refine r_call (ix := 70) (as := []) (rest := [.int v5]) (rv := some (.int q83.1)) (hp' := xW B q83.2) (pc := 83) rfl xr275 rfl rfl rfl (xkd H (by decide)) (Nat.le_of_ble_eq_true rfl) (Z275 H h83 (by omega)) (Nat.le_refl _) ?_
      refine r_s (fr' := (87, lv, [.int (v5 + q83.1)])) (hp' := xW B q83.2) (q := (.iadd, 1, 0, 0, .null)) rfl (fun _ => rfl) (Nat.le_refl _) ?_
      refine q_si (k := 2) (i := 5) (q := (.istore 5, 2, 0, 0, .null)) rfl (fun _ => rfl) (by decide) ?_
      have l0_2 : zld (zs1 lv 5 (.int (v5 + q83.1))) 0 = some (.ref 70) := x_o1 l0 rfl rfl
      have l1_2 : zld (zs1 lv 5 (.int (v5 + q83.1))) 1 = some (.int v1) := x_o1 l1 rfl rfl
      have l2_2 : zld (zs1 lv 5 (.int (v5 + q83.1))) 2 = some (.int v2) := x_o1 l2 rfl rfl
      have l3_2 : zld (zs1 lv 5 (.int (v5 + q83.1))) 3 = some (.int v3) := x_o1 l3 rfl rfl
      have l4_2 : zld (zs1 lv 5 (.int (v5 + q83.1))) 4 = some (.int v4) := x_o1 l4 rfl rfl
      have l5_2 : zld (zs1 lv 5 (.int (v5 + q83.1))) 5 = some (.int (v5 + q83.1)) := zs1_ld _ _ _
      have l6_2 : zld (zs1 lv 5 (.int (v5 + q83.1))) 6 = some (.int v6) := x_o1 l6 rfl rfl
      have l7_2 : zld (zs1 lv 5 (.int (v5 + q83.1))) 7 = some (.int v7) := x_o1 l7 rfl rfl
      generalize (zs1 lv 5 (.int (v5 + q83.1))) = lv2 at *
      refine q_li (k := 2) (i := 4) (q := (.iload 4, 2, 0, 0, .null)) rfl (fun _ => rfl) l4_2 ?_
      refine q_lr (k := 1) (i := 0) (q := (.aload_n 0, 1, 0, 0, .null)) rfl (fun _ => rfl) l0_2 ?_
      obtain ⟨q92, h92, h⟩ := xbind h
      refine r_call (ix := 70) (as := []) (rest := [.int v4]) (rv := some (.int q92.1)) (hp' := xW B q92.2) (pc := 92) rfl xr246 rfl rfl rfl (xkd H (by decide)) (Nat.le_of_ble_eq_true rfl) (Z246 H h92 (by omega)) (Nat.le_refl _) ?_
      refine r_s (fr' := (96, lv2, [.int (v4 + q92.1)])) (hp' := xW B q92.2) (q := (.iadd, 1, 0, 0, .null)) rfl (fun _ => rfl) (Nat.le_refl _) ?_
      refine q_si (k := 2) (i := 4) (q := (.istore 4, 2, 0, 0, .null)) rfl (fun _ => rfl) (by decide) ?_
      have l0_3 : zld (zs1 lv2 4 (.int (v4 + q92.1))) 0 = some (.ref 70) := x_o1 l0_2 rfl rfl
      have l1_3 : zld (zs1 lv2 4 (.int (v4 + q92.1))) 1 = some (.int v1) := x_o1 l1_2 rfl rfl
      have l2_3 : zld (zs1 lv2 4 (.int (v4 + q92.1))) 2 = some (.int v2) := x_o1 l2_2 rfl rfl
      have l3_3 : zld (zs1 lv2 4 (.int (v4 + q92.1))) 3 = some (.int v3) := x_o1 l3_2 rfl rfl
      have l4_3 : zld (zs1 lv2 4 (.int (v4 + q92.1))) 4 = some (.int (v4 + q92.1)) := zs1_ld _ _ _
      have l5_3 : zld (zs1 lv2 4 (.int (v4 + q92.1))) 5 = some (.int (v5 + q83.1)) := x_o1 l5_2 rfl rfl
      have l6_3 : zld (zs1 lv2 4 (.int (v4 + q92.1))) 6 = some (.int v6) := x_o1 l6_2 rfl rfl
      have l7_3 : zld (zs1 lv2 4 (.int (v4 + q92.1))) 7 = some (.int v7) := x_o1 l7_2 rfl rfl
      generalize (zs1 lv2 4 (.int (v4 + q92.1))) = lv3 at *
      refine q_lr (k := 1) (i := 0) (q := (.aload_n 0, 1, 0, 0, .null)) rfl (fun _ => rfl) l0_3 ?_
      obtain ⟨q99, h99, h⟩ := xbind h
      refine r_call (ix := 70) (as := []) (rest := []) (rv := some (.int q99.1)) (hp' := xW B q99.2) (pc := 99) rfl xr233 rfl rfl rfl (xkd H (by decide)) (Nat.le_of_ble_eq_true rfl) (Z233 H h99 (by omega)) (Nat.le_refl _) ?_
      refine r_s (fr' := (103, lv3, [])) (hp' := xW B q99.2) (q := (.pop, 1, 0, 0, .null)) rfl (fun _ => rfl) (Nat.le_refl _) ?_
      refine q_inc (i := 7) (n := 1) (q := (.iinc 7 1, 3, 0, 0, .null)) rfl (fun _ => rfl) l7_3 (by decide) ?_
      have l0_4 : zld (zs1 lv3 7 (.int (v7 + Int32.ofInt 1))) 0 = some (.ref 70) := x_o1 l0_3 rfl rfl
      have l1_4 : zld (zs1 lv3 7 (.int (v7 + Int32.ofInt 1))) 1 = some (.int v1) := x_o1 l1_3 rfl rfl
      have l2_4 : zld (zs1 lv3 7 (.int (v7 + Int32.ofInt 1))) 2 = some (.int v2) := x_o1 l2_3 rfl rfl
      have l3_4 : zld (zs1 lv3 7 (.int (v7 + Int32.ofInt 1))) 3 = some (.int v3) := x_o1 l3_3 rfl rfl
      have l4_4 : zld (zs1 lv3 7 (.int (v7 + Int32.ofInt 1))) 4 = some (.int (v4 + q92.1)) := x_o1 l4_3 rfl rfl
      have l5_4 : zld (zs1 lv3 7 (.int (v7 + Int32.ofInt 1))) 5 = some (.int (v5 + q83.1)) := x_o1 l5_3 rfl rfl
      have l6_4 : zld (zs1 lv3 7 (.int (v7 + Int32.ofInt 1))) 6 = some (.int v6) := x_o1 l6_3 rfl rfl
      have l7_4 : zld (zs1 lv3 7 (.int (v7 + Int32.ofInt 1))) 7 = some (.int (v7 + Int32.ofInt 1)) := zs1_ld _ _ _
      generalize (zs1 lv3 7 (.int (v7 + Int32.ofInt 1))) = lv4 at *
      refine r_s (fr' := (74, lv4, [])) (hp' := xW B q99.2) (q := (.goto (-32), 3, 74, 0, .null)) rfl (fun _ => rfl) (Nat.le_refl _) ?_
      exact ih l0_4 l1_4 l2_4 l3_4 l4_4 l5_4 l6_4 l7_4 h
def D276_65 (F : Nat) : Nat → Int32 → Int32 → Int32 → Int32 → Int32 → Int32 → xS → Option (Int32 × xS)
  | 0, _, _, _, _, _, _, _ => none
  | f + 1, v1, v2, v3, v4, v5, v6, m =>
    if zcmp .ge v6 v1 = true then
      if zcmp .ne v3 0 = true then
        some (v5, m)
      else
        some (v4, m)
    else
      D276_74 F (D276_65 F f) F v1 v2 v3 v4 v5 v6 0 m
set_option maxRecDepth 20000 in
theorem T276_65 {B : zHp} (H : yH0 B) {e : Nat} (he : 7 ≤ e + 1) (F : Nat) : ∀ (f : Nat) {v1 : Int32} {v2 : Int32} {v3 : Int32} {v4 : Int32} {v5 : Int32} {v6 : Int32} {lv : List (Nat × Value)} {m : xS} {x : Int32 × xS}, zld lv 0 = some (.ref 70) → zld lv 1 = some (.int v1) → zld lv 2 = some (.int v2) → zld lv 3 = some (.int v3) → zld lv 4 = some (.int v4) → zld lv 5 = some (.int v5) → zld lv 6 = some (.int v6) → D276_65 F f v1 v2 v3 v4 v5 v6 m = some x → zR none e 8 (some .int) zc276 (65, lv, []) (xW B m) (some (.int x.1), xW B x.2) := by
  intro f
  induction f with
  | zero => intro v1 v2 v3 v4 v5 v6 lv m x l0 l1 l2 l3 l4 l5 l6 h; cases h
  | succ f ih =>
    intro v1 v2 v3 v4 v5 v6 lv m x l0 l1 l2 l3 l4 l5 l6 h
    unfold D276_65 at h
    refine q_li (k := 2) (i := 6) (q := (.iload 6, 2, 0, 0, .null)) rfl (fun _ => rfl) l6 ?_
    refine q_li (k := 1) (i := 1) (q := (.iload_n 1, 1, 0, 0, .null)) rfl (fun _ => rfl) l1 ?_
    refine r_ifc (len := 3) (a := 119) (b := 0) (v0 := .null) (cn := .ge) (off := 51) rfl (fun c => ?_) (fun c => ?_)
    · rw [if_pos c] at h
      refine q_li (k := 1) (i := 3) (q := (.iload_n 3, 1, 0, 0, .null)) rfl (fun _ => rfl) l3 ?_
      refine r_if (len := 3) (a := 128) (b := 0) (v0 := .null) (cn := .ne) (off := 8) rfl (fun c => ?_) (fun c => ?_)
      · rw [if_pos c] at h
        refine q_li (k := 2) (i := 5) (q := (.iload 5, 2, 0, 0, .null)) rfl (fun _ => rfl) l5 ?_
        obtain rfl := Option.some.inj h
        exact q_ri (q := (.ireturn, 1, 0, 0, .null)) rfl (fun _ => rfl) rfl rfl
      · rw [if_neg (by rw [c]; decide)] at h
        refine q_li (k := 2) (i := 4) (q := (.iload 4, 2, 0, 0, .null)) rfl (fun _ => rfl) l4 ?_
        refine r_s (fr' := (130, lv, [.int v4])) (hp' := xW B m) (q := (.goto 5, 3, 130, 0, .null)) rfl (fun _ => rfl) (Nat.le_refl _) ?_
        obtain rfl := Option.some.inj h
        exact q_ri (q := (.ireturn, 1, 0, 0, .null)) rfl (fun _ => rfl) rfl rfl
    · rw [if_neg (by rw [c]; decide)] at h
      refine r_s (fr' := (72, lv, [.int 0])) (hp' := xW B m) (q := (.iconst 0, 1, 0, 0, .null)) rfl (fun _ => rfl) (Nat.le_refl _) ?_
      refine q_si (k := 2) (i := 7) (q := (.istore 7, 2, 0, 0, .null)) rfl (fun _ => rfl) (by decide) ?_
      have l0_1 : zld (zs1 lv 7 (.int 0)) 0 = some (.ref 70) := x_o1 l0 rfl rfl
      have l1_1 : zld (zs1 lv 7 (.int 0)) 1 = some (.int v1) := x_o1 l1 rfl rfl
      have l2_1 : zld (zs1 lv 7 (.int 0)) 2 = some (.int v2) := x_o1 l2 rfl rfl
      have l3_1 : zld (zs1 lv 7 (.int 0)) 3 = some (.int v3) := x_o1 l3 rfl rfl
      have l4_1 : zld (zs1 lv 7 (.int 0)) 4 = some (.int v4) := x_o1 l4 rfl rfl
      have l5_1 : zld (zs1 lv 7 (.int 0)) 5 = some (.int v5) := x_o1 l5 rfl rfl
      have l6_1 : zld (zs1 lv 7 (.int 0)) 6 = some (.int v6) := x_o1 l6 rfl rfl
      have l7_1 : zld (zs1 lv 7 (.int 0)) 7 = some (.int 0) := zs1_ld _ _ _
      generalize (zs1 lv 7 (.int 0)) = lv1 at *
      exact T276_74 H he F _ ih F l0_1 l1_1 l2_1 l3_1 l4_1 l5_1 l6_1 l7_1 h
def D276 (F : Nat) (v1 : Int32) (v2 : Int32) (v3 : Int32) (m : xS) : Option (Int32 × xS) :=
  (D204 F m).bind fun q1 =>
    if zcmp .eq q1.1 0 = true then
      D276_41 F v1 v2 v3 q1.2
    else
      (D158 F (v1 : Int32).toInt64 1 10 q1.2).bind fun q13 =>
        if zcmp .eq q13.1 0 = true then
          D276_41 F v1 v2 v3 q13.2
        else
          (D158 F (v2 : Int32).toInt64 1 60 q13.2).bind fun q25 =>
            if zcmp .eq q25.1 0 = true then
              D276_41 F v1 v2 v3 q25.2
            else
              (D158 F (v3 : Int32).toInt64 0 1 q25.2).bind fun q35 =>
                if zcmp .ne q35.1 0 = true then
                  (D259 F (xul q35.2 70 35 ((q35.2.1 70 23) : Int32).toInt64)).bind fun q59 =>
                    D276_65 F F v1 v2 v3 0 0 0 q59.2
                else
                  D276_41 F v1 v2 v3 q35.2
set_option maxRecDepth 20000 in
theorem T276 {B : zHp} (H : yH0 B) {e : Nat} (he : 7 ≤ e + 1) (F : Nat) {v1 : Int32} {v2 : Int32} {v3 : Int32} {lv : List (Nat × Value)} {m : xS} {x : Int32 × xS} (l0 : zld lv 0 = some (.ref 70)) (l1 : zld lv 1 = some (.int v1)) (l2 : zld lv 2 = some (.int v2)) (l3 : zld lv 3 = some (.int v3)) (h : D276 F v1 v2 v3 m = some x) : zR none e 8 (some .int) zc276 (0, lv, []) (xW B m) (some (.int x.1), xW B x.2) := by
  unfold D276 at h
  refine q_lr (k := 1) (i := 0) (q := (.aload_n 0, 1, 0, 0, .null)) rfl (fun _ => rfl) l0 ?_
  obtain ⟨q1, h1, h⟩ := xbind h
  refine r_call (ix := 70) (as := []) (rest := []) (rv := some (.int q1.1)) (hp' := xW B q1.2) (pc := 1) rfl xr204 rfl rfl rfl (xkd H (by decide)) (Nat.le_of_ble_eq_true rfl) (Z204 H h1 (by omega)) (Nat.le_refl _) ?_
  refine r_if (len := 3) (a := 41) (b := 0) (v0 := .null) (cn := .eq) (off := 37) rfl (fun c => ?_) (fun c => ?_)
  · rw [if_pos c] at h
    exact T276_41 H he F l0 l1 l2 l3 h
  · rw [if_neg (by rw [c]; decide)] at h
    refine q_li (k := 1) (i := 1) (q := (.iload_n 1, 1, 0, 0, .null)) rfl (fun _ => rfl) l1 ?_
    refine r_s (fr' := (9, lv, [.long (v1 : Int32).toInt64])) (hp' := xW B q1.2) (q := (.i2l, 1, 0, 0, .null)) rfl (fun _ => rfl) (Nat.le_refl _) ?_
    refine r_s (fr' := (10, lv, [.long 1, .long (v1 : Int32).toInt64])) (hp' := xW B q1.2) (q := (.lconst 1, 1, 0, 0, .null)) rfl (fun _ => rfl) (Nat.le_refl _) ?_
    refine r_s (fr' := (13, lv, [.long 10, .long 1, .long (v1 : Int32).toInt64])) (hp' := xW B q1.2) (q := (.ldc2_w 486, 3, 0, 0, .long 10)) rfl (fun _ => rfl) (Nat.le_refl _) ?_
    obtain ⟨q13, h13, h⟩ := xbind h
    refine r_callS (as := [.long (v1 : Int32).toInt64, .long 1, .long 10]) (rest := []) (rv := some (.int q13.1)) (hp' := xW B q13.2) (pc := 13) rfl xr158 rfl rfl rfl (Nat.le_of_ble_eq_true rfl) (Z158 H h13 (by omega)) (Nat.le_refl _) ?_
    refine r_if (len := 3) (a := 41) (b := 0) (v0 := .null) (cn := .eq) (off := 25) rfl (fun c => ?_) (fun c => ?_)
    · rw [if_pos c] at h
      exact T276_41 H he F l0 l1 l2 l3 h
    · rw [if_neg (by rw [c]; decide)] at h
      refine q_li (k := 1) (i := 2) (q := (.iload_n 2, 1, 0, 0, .null)) rfl (fun _ => rfl) l2 ?_
      refine r_s (fr' := (21, lv, [.long (v2 : Int32).toInt64])) (hp' := xW B q13.2) (q := (.i2l, 1, 0, 0, .null)) rfl (fun _ => rfl) (Nat.le_refl _) ?_
      refine r_s (fr' := (22, lv, [.long 1, .long (v2 : Int32).toInt64])) (hp' := xW B q13.2) (q := (.lconst 1, 1, 0, 0, .null)) rfl (fun _ => rfl) (Nat.le_refl _) ?_
      refine r_s (fr' := (25, lv, [.long 60, .long 1, .long (v2 : Int32).toInt64])) (hp' := xW B q13.2) (q := (.ldc2_w 392, 3, 0, 0, .long 60)) rfl (fun _ => rfl) (Nat.le_refl _) ?_
      obtain ⟨q25, h25, h⟩ := xbind h
      refine r_callS (as := [.long (v2 : Int32).toInt64, .long 1, .long 60]) (rest := []) (rv := some (.int q25.1)) (hp' := xW B q25.2) (pc := 25) rfl xr158 rfl rfl rfl (Nat.le_of_ble_eq_true rfl) (Z158 H h25 (by omega)) (Nat.le_refl _) ?_
      refine r_if (len := 3) (a := 41) (b := 0) (v0 := .null) (cn := .eq) (off := 13) rfl (fun c => ?_) (fun c => ?_)
      · rw [if_pos c] at h
        exact T276_41 H he F l0 l1 l2 l3 h
      · rw [if_neg (by rw [c]; decide)] at h
        refine q_li (k := 1) (i := 3) (q := (.iload_n 3, 1, 0, 0, .null)) rfl (fun _ => rfl) l3 ?_
        refine r_s (fr' := (33, lv, [.long (v3 : Int32).toInt64])) (hp' := xW B q25.2) (q := (.i2l, 1, 0, 0, .null)) rfl (fun _ => rfl) (Nat.le_refl _) ?_
        refine r_s (fr' := (34, lv, [.long 0, .long (v3 : Int32).toInt64])) (hp' := xW B q25.2) (q := (.lconst 0, 1, 0, 0, .null)) rfl (fun _ => rfl) (Nat.le_refl _) ?_
        refine r_s (fr' := (35, lv, [.long 1, .long 0, .long (v3 : Int32).toInt64])) (hp' := xW B q25.2) (q := (.lconst 1, 1, 0, 0, .null)) rfl (fun _ => rfl) (Nat.le_refl _) ?_
        obtain ⟨q35, h35, h⟩ := xbind h
        refine r_callS (as := [.long (v3 : Int32).toInt64, .long 0, .long 1]) (rest := []) (rv := some (.int q35.1)) (hp' := xW B q35.2) (pc := 35) rfl xr158 rfl rfl rfl (Nat.le_of_ble_eq_true rfl) (Z158 H h35 (by omega)) (Nat.le_refl _) ?_
        refine r_if (len := 3) (a := 43) (b := 0) (v0 := .null) (cn := .ne) (off := 5) rfl (fun c => ?_) (fun c => ?_)
        · rw [if_pos c] at h
          refine q_lr (k := 1) (i := 0) (q := (.aload_n 0, 1, 0, 0, .null)) rfl (fun _ => rfl) l0 ?_
          refine q_lr (k := 1) (i := 0) (q := (.aload_n 0, 1, 0, 0, .null)) rfl (fun _ => rfl) l0 ?_
          refine r_gi (v := (q35.2.1 70 23)) H (pc := 45) (i := _) rfl (by decide) (by decide) rfl ?_
          refine r_s (fr' := (49, lv, [.long ((q35.2.1 70 23) : Int32).toInt64, .ref 70])) (hp' := xW B q35.2) (q := (.i2l, 1, 0, 0, .null)) rfl (fun _ => rfl) (Nat.le_refl _) ?_
          refine r_pl (s2 := (xul q35.2 70 35 ((q35.2.1 70 23) : Int32).toInt64)) H (pc := 49) rfl (by decide) rfl rfl ?_
          refine r_s (fr' := (53, lv, [.int 0])) (hp' := xW B (xul q35.2 70 35 ((q35.2.1 70 23) : Int32).toInt64)) (q := (.iconst 0, 1, 0, 0, .null)) rfl (fun _ => rfl) (Nat.le_refl _) ?_
          refine q_si (k := 2) (i := 4) (q := (.istore 4, 2, 0, 0, .null)) rfl (fun _ => rfl) (by decide) ?_
          have l0_1 : zld (zs1 lv 4 (.int 0)) 0 = some (.ref 70) := x_o1 l0 rfl rfl
          have l1_1 : zld (zs1 lv 4 (.int 0)) 1 = some (.int v1) := x_o1 l1 rfl rfl
          have l2_1 : zld (zs1 lv 4 (.int 0)) 2 = some (.int v2) := x_o1 l2 rfl rfl
          have l3_1 : zld (zs1 lv 4 (.int 0)) 3 = some (.int v3) := x_o1 l3 rfl rfl
          have l4_1 : zld (zs1 lv 4 (.int 0)) 4 = some (.int 0) := zs1_ld _ _ _
          generalize (zs1 lv 4 (.int 0)) = lv1 at *
          refine r_s (fr' := (56, lv1, [.int 0])) (hp' := xW B (xul q35.2 70 35 ((q35.2.1 70 23) : Int32).toInt64)) (q := (.iconst 0, 1, 0, 0, .null)) rfl (fun _ => rfl) (Nat.le_refl _) ?_
          refine q_si (k := 2) (i := 5) (q := (.istore 5, 2, 0, 0, .null)) rfl (fun _ => rfl) (by decide) ?_
          have l0_2 : zld (zs1 lv1 5 (.int 0)) 0 = some (.ref 70) := x_o1 l0_1 rfl rfl
          have l1_2 : zld (zs1 lv1 5 (.int 0)) 1 = some (.int v1) := x_o1 l1_1 rfl rfl
          have l2_2 : zld (zs1 lv1 5 (.int 0)) 2 = some (.int v2) := x_o1 l2_1 rfl rfl
          have l3_2 : zld (zs1 lv1 5 (.int 0)) 3 = some (.int v3) := x_o1 l3_1 rfl rfl
          have l4_2 : zld (zs1 lv1 5 (.int 0)) 4 = some (.int 0) := x_o1 l4_1 rfl rfl
          have l5_2 : zld (zs1 lv1 5 (.int 0)) 5 = some (.int 0) := zs1_ld _ _ _
          generalize (zs1 lv1 5 (.int 0)) = lv2 at *
          refine q_lr (k := 1) (i := 0) (q := (.aload_n 0, 1, 0, 0, .null)) rfl (fun _ => rfl) l0_2 ?_
          obtain ⟨q59, h59, h⟩ := xbind h
          refine r_call (ix := 70) (as := []) (rest := []) (rv := none) (hp' := xW B q59.2) (pc := 59) rfl xr259 rfl rfl rfl (xkd H (by decide)) (Nat.le_of_ble_eq_true rfl) (Z259 H h59 (by omega)) (Nat.le_refl _) ?_
          refine r_s (fr' := (63, lv2, [.int 0])) (hp' := xW B q59.2) (q := (.iconst 0, 1, 0, 0, .null)) rfl (fun _ => rfl) (Nat.le_refl _) ?_
          refine q_si (k := 2) (i := 6) (q := (.istore 6, 2, 0, 0, .null)) rfl (fun _ => rfl) (by decide) ?_
          have l0_3 : zld (zs1 lv2 6 (.int 0)) 0 = some (.ref 70) := x_o1 l0_2 rfl rfl
          have l1_3 : zld (zs1 lv2 6 (.int 0)) 1 = some (.int v1) := x_o1 l1_2 rfl rfl
          have l2_3 : zld (zs1 lv2 6 (.int 0)) 2 = some (.int v2) := x_o1 l2_2 rfl rfl
          have l3_3 : zld (zs1 lv2 6 (.int 0)) 3 = some (.int v3) := x_o1 l3_2 rfl rfl
          have l4_3 : zld (zs1 lv2 6 (.int 0)) 4 = some (.int 0) := x_o1 l4_2 rfl rfl
          have l5_3 : zld (zs1 lv2 6 (.int 0)) 5 = some (.int 0) := x_o1 l5_2 rfl rfl
          have l6_3 : zld (zs1 lv2 6 (.int 0)) 6 = some (.int 0) := zs1_ld _ _ _
          generalize (zs1 lv2 6 (.int 0)) = lv3 at *
          exact T276_65 H he F F l0_3 l1_3 l2_3 l3_3 l4_3 l5_3 l6_3 h
        · rw [if_neg (by rw [c]; decide)] at h
          exact T276_41 H he F l0 l1 l2 l3 h
set_option maxRecDepth 20000 in
theorem Z276 {B : zHp} (H : yH0 B) {F : Nat} {a1 : Int32} {a2 : Int32} {a3 : Int32} {m : xS} {x : Int32 × xS} (h : D276 F a1 a2 a3 m = some x) {d : Nat} (hd : 7 ≤ d) : zCan d 276 [.ref 70, .int a1, .int a2, .int a3] (xW B m) (some (.int x.1), xW B x.2) := by
  obtain ⟨e, rfl⟩ : ∃ e, d = e + 1 := ⟨d - 1, by omega⟩
  refine zCan_body (nL := 8) (rt := (some .int)) (cd := zc276) (xg276) ⟨Nat.le_of_ble_eq_true rfl, by decide⟩ (Nat.le_refl _) ?_
  exact T276 H hd F rfl rfl rfl rfl h
/-- LentToolsModel.count -/
def D277_118 (F : Nat) (g92 : Int32 → Int32 → Int32 → xS → Option (Int32 × xS)) (v1 : Int32) (v2 : Int32) (v3 : Int32) (w0 : Int32) (w1 : Int32) (m : xS) : Option (Int32 × xS) :=
  g92 v1 (w1 ||| w0) (v3 + Int32.ofInt 1) m
set_option maxRecDepth 20000 in
theorem T277_118 {B : zHp} (H : yH0 B) {e : Nat} (he : 2 ≤ e + 1) (F : Nat) (g92 : Int32 → Int32 → Int32 → xS → Option (Int32 × xS)) (k92 : ∀ {v1 : Int32} {v2 : Int32} {v3 : Int32} {lv : List (Nat × Value)} {m : xS} {x : Int32 × xS}, zld lv 0 = some (.ref 70) → zld lv 1 = some (.int v1) → zld lv 2 = some (.int v2) → zld lv 3 = some (.int v3) → g92 v1 v2 v3 m = some x → zR none e 4 (some .int) zc277 (92, lv, []) (xW B m) (some (.int x.1), xW B x.2)) {v1 : Int32} {v2 : Int32} {v3 : Int32} {w0 : Int32} {w1 : Int32} {lv : List (Nat × Value)} {m : xS} {x : Int32 × xS} (l0 : zld lv 0 = some (.ref 70)) (l1 : zld lv 1 = some (.int v1)) (l2 : zld lv 2 = some (.int v2)) (l3 : zld lv 3 = some (.int v3)) (h : D277_118 F g92 v1 v2 v3 w0 w1 m = some x) : zR none e 4 (some .int) zc277 (118, lv, [.int w0, .int w1]) (xW B m) (some (.int x.1), xW B x.2) := by
  unfold D277_118 at h
  refine r_s (fr' := (119, lv, [.int (w1 ||| w0)])) (hp' := xW B m) (q := (.ior, 1, 0, 0, .null)) rfl (fun _ => rfl) (Nat.le_refl _) ?_
  refine q_si (k := 1) (i := 2) (q := (.istore_n 2, 1, 0, 0, .null)) rfl (fun _ => rfl) (by decide) ?_
  have l0_1 : zld (zs1 lv 2 (.int (w1 ||| w0))) 0 = some (.ref 70) := x_o1 l0 rfl rfl
  have l1_1 : zld (zs1 lv 2 (.int (w1 ||| w0))) 1 = some (.int v1) := x_o1 l1 rfl rfl
  have l2_1 : zld (zs1 lv 2 (.int (w1 ||| w0))) 2 = some (.int (w1 ||| w0)) := zs1_ld _ _ _
  have l3_1 : zld (zs1 lv 2 (.int (w1 ||| w0))) 3 = some (.int v3) := x_o1 l3 rfl rfl
  generalize (zs1 lv 2 (.int (w1 ||| w0))) = lv1 at *
  refine q_inc (i := 3) (n := 1) (q := (.iinc 3 1, 3, 0, 0, .null)) rfl (fun _ => rfl) l3_1 (by decide) ?_
  have l0_2 : zld (zs1 lv1 3 (.int (v3 + Int32.ofInt 1))) 0 = some (.ref 70) := x_o1 l0_1 rfl rfl
  have l1_2 : zld (zs1 lv1 3 (.int (v3 + Int32.ofInt 1))) 1 = some (.int v1) := x_o1 l1_1 rfl rfl
  have l2_2 : zld (zs1 lv1 3 (.int (v3 + Int32.ofInt 1))) 2 = some (.int (w1 ||| w0)) := x_o1 l2_1 rfl rfl
  have l3_2 : zld (zs1 lv1 3 (.int (v3 + Int32.ofInt 1))) 3 = some (.int (v3 + Int32.ofInt 1)) := zs1_ld _ _ _
  generalize (zs1 lv1 3 (.int (v3 + Int32.ofInt 1))) = lv2 at *
  refine r_s (fr' := (92, lv2, [])) (hp' := xW B m) (q := (.goto (-31), 3, 92, 0, .null)) rfl (fun _ => rfl) (Nat.le_refl _) ?_
  exact k92 l0_2 l1_2 l2_2 l3_2 h
def D277_92 (F : Nat) : Nat → Int32 → Int32 → Int32 → xS → Option (Int32 × xS)
  | 0, _, _, _, _ => none
  | f + 1, v1, v2, v3, m =>
    if zcmp .ge v3 (m.1 80 3) = true then
      some (v2, m)
    else
      (D215 F v3 m).bind fun q105 =>
        if zcmp .eq q105.1 0 = true then
          D277_118 F (D277_92 F f) v1 v2 v3 0 v2 q105.2
        else
          D277_118 F (D277_92 F f) v1 v2 v3 (1 <<< (v3 &&& 31)) v2 q105.2
set_option maxRecDepth 20000 in
theorem T277_92 {B : zHp} (H : yH0 B) {e : Nat} (he : 2 ≤ e + 1) (F : Nat) : ∀ (f : Nat) {v1 : Int32} {v2 : Int32} {v3 : Int32} {lv : List (Nat × Value)} {m : xS} {x : Int32 × xS}, zld lv 0 = some (.ref 70) → zld lv 1 = some (.int v1) → zld lv 2 = some (.int v2) → zld lv 3 = some (.int v3) → D277_92 F f v1 v2 v3 m = some x → zR none e 4 (some .int) zc277 (92, lv, []) (xW B m) (some (.int x.1), xW B x.2) := by
  intro f
  induction f with
  | zero => intro v1 v2 v3 lv m x l0 l1 l2 l3 h; cases h
  | succ f ih =>
    intro v1 v2 v3 lv m x l0 l1 l2 l3 h
    unfold D277_92 at h
    refine q_li (k := 1) (i := 3) (q := (.iload_n 3, 1, 0, 0, .null)) rfl (fun _ => rfl) l3 ?_
    refine q_lr (k := 1) (i := 0) (q := (.aload_n 0, 1, 0, 0, .null)) rfl (fun _ => rfl) l0 ?_
    refine r_gr (c := 80) H (pc := 94) rfl (by decide) (by decide) ?_
    refine r_s (fr' := (98, lv, [.int 3, .ref 80, .int v3])) (hp' := xW B m) (q := (.iconst 3, 1, 0, 0, .null)) rfl (fun _ => rfl) (Nat.le_refl _) ?_
    refine q_al (n := 148) (v := (m.1 80 3)) H (pc := 98) rfl (by decide) (by decide) rfl ?_
    refine r_ifc (len := 3) (a := 126) (b := 0) (v0 := .null) (cn := .ge) (off := 27) rfl (fun c => ?_) (fun c => ?_)
    · rw [if_pos c] at h
      refine q_li (k := 1) (i := 2) (q := (.iload_n 2, 1, 0, 0, .null)) rfl (fun _ => rfl) l2 ?_
      obtain rfl := Option.some.inj h
      exact q_ri (q := (.ireturn, 1, 0, 0, .null)) rfl (fun _ => rfl) rfl rfl
    · rw [if_neg (by rw [c]; decide)] at h
      refine q_li (k := 1) (i := 2) (q := (.iload_n 2, 1, 0, 0, .null)) rfl (fun _ => rfl) l2 ?_
      refine q_lr (k := 1) (i := 0) (q := (.aload_n 0, 1, 0, 0, .null)) rfl (fun _ => rfl) l0 ?_
      refine q_li (k := 1) (i := 3) (q := (.iload_n 3, 1, 0, 0, .null)) rfl (fun _ => rfl) l3 ?_
      obtain ⟨q105, h105, h⟩ := xbind h
      refine r_call (ix := 70) (as := [.int v3]) (rest := [.int v2]) (rv := some (.int q105.1)) (hp' := xW B q105.2) (pc := 105) rfl xr215 rfl rfl rfl (xkd H (by decide)) (Nat.le_of_ble_eq_true rfl) (Z215 H h105 (by omega)) (Nat.le_refl _) ?_
      refine r_if (len := 3) (a := 117) (b := 0) (v0 := .null) (cn := .eq) (off := 9) rfl (fun c => ?_) (fun c => ?_)
      · rw [if_pos c] at h
        refine r_s (fr' := (118, lv, [.int 0, .int v2])) (hp' := xW B q105.2) (q := (.iconst 0, 1, 0, 0, .null)) rfl (fun _ => rfl) (Nat.le_refl _) ?_
        exact T277_118 H he F _ ih l0 l1 l2 l3 h
      · rw [if_neg (by rw [c]; decide)] at h
        refine r_s (fr' := (112, lv, [.int 1, .int v2])) (hp' := xW B q105.2) (q := (.iconst 1, 1, 0, 0, .null)) rfl (fun _ => rfl) (Nat.le_refl _) ?_
        refine q_li (k := 1) (i := 3) (q := (.iload_n 3, 1, 0, 0, .null)) rfl (fun _ => rfl) l3 ?_
        refine r_s (fr' := (114, lv, [.int (1 <<< (v3 &&& 31)), .int v2])) (hp' := xW B q105.2) (q := (.ishl, 1, 0, 0, .null)) rfl (fun _ => rfl) (Nat.le_refl _) ?_
        refine r_s (fr' := (118, lv, [.int (1 <<< (v3 &&& 31)), .int v2])) (hp' := xW B q105.2) (q := (.goto 4, 3, 118, 0, .null)) rfl (fun _ => rfl) (Nat.le_refl _) ?_
        exact T277_118 H he F _ ih l0 l1 l2 l3 h
def D277_130 (F : Nat) : Nat → Int32 → Int32 → Int32 → xS → Option (Int32 × xS)
  | 0, _, _, _, _ => none
  | f + 1, v1, v2, v3, m =>
    if zcmp .ge v3 36 = true then
      some (v2, m)
    else
      if xib (82 + v3) 148 = true then
        D277_130 F f v1 (v2 + (m.1 80 ((82 + v3) : Int32).toNatClampNeg)) (v3 + Int32.ofInt 1) m
      else none
set_option maxRecDepth 20000 in
theorem T277_130 {B : zHp} (H : yH0 B) {e : Nat} (he : 2 ≤ e + 1) (F : Nat) : ∀ (f : Nat) {v1 : Int32} {v2 : Int32} {v3 : Int32} {lv : List (Nat × Value)} {m : xS} {x : Int32 × xS}, zld lv 0 = some (.ref 70) → zld lv 1 = some (.int v1) → zld lv 2 = some (.int v2) → zld lv 3 = some (.int v3) → D277_130 F f v1 v2 v3 m = some x → zR none e 4 (some .int) zc277 (130, lv, []) (xW B m) (some (.int x.1), xW B x.2) := by
  intro f
  induction f with
  | zero => intro v1 v2 v3 lv m x l0 l1 l2 l3 h; cases h
  | succ f ih =>
    intro v1 v2 v3 lv m x l0 l1 l2 l3 h
    unfold D277_130 at h
    refine q_li (k := 1) (i := 3) (q := (.iload_n 3, 1, 0, 0, .null)) rfl (fun _ => rfl) l3 ?_
    refine r_s (fr' := (133, lv, [.int 36, .int v3])) (hp' := xW B m) (q := (.bipush 36, 2, 0, 0, .null)) rfl (fun _ => rfl) (Nat.le_refl _) ?_
    refine r_ifc (len := 3) (a := 154) (b := 0) (v0 := .null) (cn := .ge) (off := 21) rfl (fun c => ?_) (fun c => ?_)
    · rw [if_pos c] at h
      refine q_li (k := 1) (i := 2) (q := (.iload_n 2, 1, 0, 0, .null)) rfl (fun _ => rfl) l2 ?_
      obtain rfl := Option.some.inj h
      exact q_ri (q := (.ireturn, 1, 0, 0, .null)) rfl (fun _ => rfl) rfl rfl
    · rw [if_neg (by rw [c]; decide)] at h
      refine q_li (k := 1) (i := 2) (q := (.iload_n 2, 1, 0, 0, .null)) rfl (fun _ => rfl) l2 ?_
      refine q_lr (k := 1) (i := 0) (q := (.aload_n 0, 1, 0, 0, .null)) rfl (fun _ => rfl) l0 ?_
      refine r_gr (c := 80) H (pc := 138) rfl (by decide) (by decide) ?_
      refine r_s (fr' := (143, lv, [.int 82, .ref 80, .int v2])) (hp' := xW B m) (q := (.bipush 82, 2, 0, 0, .null)) rfl (fun _ => rfl) (Nat.le_refl _) ?_
      refine q_li (k := 1) (i := 3) (q := (.iload_n 3, 1, 0, 0, .null)) rfl (fun _ => rfl) l3 ?_
      refine r_s (fr' := (145, lv, [.int (82 + v3), .ref 80, .int v2])) (hp' := xW B m) (q := (.iadd, 1, 0, 0, .null)) rfl (fun _ => rfl) (Nat.le_refl _) ?_
      obtain ⟨c1, h⟩ := xif h
      refine q_al (n := 148) (v := (m.1 80 ((82 + v3) : Int32).toNatClampNeg)) H (pc := 145) rfl (by decide) c1 rfl ?_
      refine r_s (fr' := (147, lv, [.int (v2 + (m.1 80 ((82 + v3) : Int32).toNatClampNeg))])) (hp' := xW B m) (q := (.iadd, 1, 0, 0, .null)) rfl (fun _ => rfl) (Nat.le_refl _) ?_
      refine q_si (k := 1) (i := 2) (q := (.istore_n 2, 1, 0, 0, .null)) rfl (fun _ => rfl) (by decide) ?_
      have l0_2 : zld (zs1 lv 2 (.int (v2 + (m.1 80 ((82 + v3) : Int32).toNatClampNeg)))) 0 = some (.ref 70) := x_o1 l0 rfl rfl
      have l1_2 : zld (zs1 lv 2 (.int (v2 + (m.1 80 ((82 + v3) : Int32).toNatClampNeg)))) 1 = some (.int v1) := x_o1 l1 rfl rfl
      have l2_2 : zld (zs1 lv 2 (.int (v2 + (m.1 80 ((82 + v3) : Int32).toNatClampNeg)))) 2 = some (.int (v2 + (m.1 80 ((82 + v3) : Int32).toNatClampNeg))) := zs1_ld _ _ _
      have l3_2 : zld (zs1 lv 2 (.int (v2 + (m.1 80 ((82 + v3) : Int32).toNatClampNeg)))) 3 = some (.int v3) := x_o1 l3 rfl rfl
      generalize (zs1 lv 2 (.int (v2 + (m.1 80 ((82 + v3) : Int32).toNatClampNeg)))) = lv2 at *
      refine q_inc (i := 3) (n := 1) (q := (.iinc 3 1, 3, 0, 0, .null)) rfl (fun _ => rfl) l3_2 (by decide) ?_
      have l0_3 : zld (zs1 lv2 3 (.int (v3 + Int32.ofInt 1))) 0 = some (.ref 70) := x_o1 l0_2 rfl rfl
      have l1_3 : zld (zs1 lv2 3 (.int (v3 + Int32.ofInt 1))) 1 = some (.int v1) := x_o1 l1_2 rfl rfl
      have l2_3 : zld (zs1 lv2 3 (.int (v3 + Int32.ofInt 1))) 2 = some (.int (v2 + (m.1 80 ((82 + v3) : Int32).toNatClampNeg))) := x_o1 l2_2 rfl rfl
      have l3_3 : zld (zs1 lv2 3 (.int (v3 + Int32.ofInt 1))) 3 = some (.int (v3 + Int32.ofInt 1)) := zs1_ld _ _ _
      generalize (zs1 lv2 3 (.int (v3 + Int32.ofInt 1))) = lv3 at *
      refine r_s (fr' := (130, lv3, [])) (hp' := xW B m) (q := (.goto (-21), 3, 130, 0, .null)) rfl (fun _ => rfl) (Nat.le_refl _) ?_
      exact ih l0_3 l1_3 l2_3 l3_3 h
def D277 (F : Nat) (v1 : Int32) (m : xS) : Option (Int32 × xS) :=
  if (v1 == 0) = true then
    if xib v1 148 = true then
      some ((m.1 80 (v1 : Int32).toNatClampNeg), m)
    else none
  else
    if (v1 == 1) = true then
      if xib v1 148 = true then
        some ((m.1 80 (v1 : Int32).toNatClampNeg), m)
      else none
    else
      if (v1 == 2) = true then
        if xib v1 148 = true then
          some ((m.1 80 (v1 : Int32).toNatClampNeg), m)
        else none
      else
        if (v1 == 3) = true then
          if xib v1 148 = true then
            some ((m.1 80 (v1 : Int32).toNatClampNeg), m)
          else none
        else
          if (v1 == 4) = true then
            some ((m.1 70 2), m)
          else
            if (v1 == 5) = true then
              some ((m.1 80 4), m)
            else
              if (v1 == 6) = true then
                some ((m.1 80 5), m)
              else
                if (v1 == 7) = true then
                  D277_92 F F v1 0 0 m
                else
                  if (v1 == 8) = true then
                    D277_130 F F v1 0 0 m
                  else
                    if (v1 == 9) = true then
                      some ((m.1 70 25), m)
                    else
                      if (v1 == 10) = true then
                        some ((m.1 70 23), m)
                      else
                        if (v1 == 11) = true then
                          some ((m.1 70 1), m)
                        else
                          some ((-1), m)
set_option maxRecDepth 20000 in
theorem T277 {B : zHp} (H : yH0 B) {e : Nat} (he : 2 ≤ e + 1) (F : Nat) {v1 : Int32} {lv : List (Nat × Value)} {m : xS} {x : Int32 × xS} (l0 : zld lv 0 = some (.ref 70)) (l1 : zld lv 1 = some (.int v1)) (h : D277 F v1 m = some x) : zR none e 4 (some .int) zc277 (0, lv, []) (xW B m) (some (.int x.1), xW B x.2) := by
  unfold D277 at h
  refine r_s (fr' := (1, lv, [.int 0])) (hp' := xW B m) (q := (.iconst 0, 1, 0, 0, .null)) rfl (fun _ => rfl) (Nat.le_refl _) ?_
  refine q_si (k := 1) (i := 2) (q := (.istore_n 2, 1, 0, 0, .null)) rfl (fun _ => rfl) (by decide) ?_
  have l0_1 : zld (zs1 lv 2 (.int 0)) 0 = some (.ref 70) := x_o1 l0 rfl rfl
  have l1_1 : zld (zs1 lv 2 (.int 0)) 1 = some (.int v1) := x_o1 l1 rfl rfl
  have l2_1 : zld (zs1 lv 2 (.int 0)) 2 = some (.int 0) := zs1_ld _ _ _
  generalize (zs1 lv 2 (.int 0)) = lv1 at *
  refine q_li (k := 1) (i := 1) (q := (.iload_n 1, 1, 0, 0, .null)) rfl (fun _ => rfl) l1_1 ?_
  by_cases d2 : ((v1 == 0)) = true
  · rw [if_pos d2] at h
    refine q_sw (pc2 := 64) (q := (.tableswitch 168 0 11 #[61, 61, 61, 61, 68, 73, 80, 87, 125, 153, 158, 163], 61, 0, 0, .null)) d2 rfl (fun _ => rfl) ?_
    refine q_lr (k := 1) (i := 0) (q := (.aload_n 0, 1, 0, 0, .null)) rfl (fun _ => rfl) l0_1 ?_
    refine r_gr (c := 80) H (pc := 65) rfl (by decide) (by decide) ?_
    refine q_li (k := 1) (i := 1) (q := (.iload_n 1, 1, 0, 0, .null)) rfl (fun _ => rfl) l1_1 ?_
    obtain ⟨c3, h⟩ := xif h
    refine q_al (n := 148) (v := (m.1 80 (v1 : Int32).toNatClampNeg)) H (pc := 69) rfl (by decide) c3 rfl ?_
    obtain rfl := Option.some.inj h
    exact q_ri (q := (.ireturn, 1, 0, 0, .null)) rfl (fun _ => rfl) rfl rfl
  · rw [if_neg d2] at h
    by_cases d4 : ((v1 == 1)) = true
    · rw [if_pos d4] at h
      refine q_sw (pc2 := 64) (q := (.tableswitch 168 0 11 #[61, 61, 61, 61, 68, 73, 80, 87, 125, 153, 158, 163], 61, 0, 0, .null)) d4 rfl (fun _ => rfl) ?_
      refine q_lr (k := 1) (i := 0) (q := (.aload_n 0, 1, 0, 0, .null)) rfl (fun _ => rfl) l0_1 ?_
      refine r_gr (c := 80) H (pc := 65) rfl (by decide) (by decide) ?_
      refine q_li (k := 1) (i := 1) (q := (.iload_n 1, 1, 0, 0, .null)) rfl (fun _ => rfl) l1_1 ?_
      obtain ⟨c5, h⟩ := xif h
      refine q_al (n := 148) (v := (m.1 80 (v1 : Int32).toNatClampNeg)) H (pc := 69) rfl (by decide) c5 rfl ?_
      obtain rfl := Option.some.inj h
      exact q_ri (q := (.ireturn, 1, 0, 0, .null)) rfl (fun _ => rfl) rfl rfl
    · rw [if_neg d4] at h
      by_cases d6 : ((v1 == 2)) = true
      · rw [if_pos d6] at h
        refine q_sw (pc2 := 64) (q := (.tableswitch 168 0 11 #[61, 61, 61, 61, 68, 73, 80, 87, 125, 153, 158, 163], 61, 0, 0, .null)) d6 rfl (fun _ => rfl) ?_
        refine q_lr (k := 1) (i := 0) (q := (.aload_n 0, 1, 0, 0, .null)) rfl (fun _ => rfl) l0_1 ?_
        refine r_gr (c := 80) H (pc := 65) rfl (by decide) (by decide) ?_
        refine q_li (k := 1) (i := 1) (q := (.iload_n 1, 1, 0, 0, .null)) rfl (fun _ => rfl) l1_1 ?_
        obtain ⟨c7, h⟩ := xif h
        refine q_al (n := 148) (v := (m.1 80 (v1 : Int32).toNatClampNeg)) H (pc := 69) rfl (by decide) c7 rfl ?_
        obtain rfl := Option.some.inj h
        exact q_ri (q := (.ireturn, 1, 0, 0, .null)) rfl (fun _ => rfl) rfl rfl
      · rw [if_neg d6] at h
        by_cases d8 : ((v1 == 3)) = true
        · rw [if_pos d8] at h
          refine q_sw (pc2 := 64) (q := (.tableswitch 168 0 11 #[61, 61, 61, 61, 68, 73, 80, 87, 125, 153, 158, 163], 61, 0, 0, .null)) d8 rfl (fun _ => rfl) ?_
          refine q_lr (k := 1) (i := 0) (q := (.aload_n 0, 1, 0, 0, .null)) rfl (fun _ => rfl) l0_1 ?_
          refine r_gr (c := 80) H (pc := 65) rfl (by decide) (by decide) ?_
          refine q_li (k := 1) (i := 1) (q := (.iload_n 1, 1, 0, 0, .null)) rfl (fun _ => rfl) l1_1 ?_
          obtain ⟨c9, h⟩ := xif h
          refine q_al (n := 148) (v := (m.1 80 (v1 : Int32).toNatClampNeg)) H (pc := 69) rfl (by decide) c9 rfl ?_
          obtain rfl := Option.some.inj h
          exact q_ri (q := (.ireturn, 1, 0, 0, .null)) rfl (fun _ => rfl) rfl rfl
        · rw [if_neg d8] at h
          by_cases d10 : ((v1 == 4)) = true
          · rw [if_pos d10] at h
            refine q_sw (pc2 := 71) (q := (.tableswitch 168 0 11 #[61, 61, 61, 61, 68, 73, 80, 87, 125, 153, 158, 163], 61, 0, 0, .null)) d10 rfl (fun _ => rfl) ?_
            refine q_lr (k := 1) (i := 0) (q := (.aload_n 0, 1, 0, 0, .null)) rfl (fun _ => rfl) l0_1 ?_
            refine r_gi (v := (m.1 70 2)) H (pc := 72) (i := _) rfl (by decide) (by decide) rfl ?_
            obtain rfl := Option.some.inj h
            exact q_ri (q := (.ireturn, 1, 0, 0, .null)) rfl (fun _ => rfl) rfl rfl
          · rw [if_neg d10] at h
            by_cases d11 : ((v1 == 5)) = true
            · rw [if_pos d11] at h
              refine q_sw (pc2 := 76) (q := (.tableswitch 168 0 11 #[61, 61, 61, 61, 68, 73, 80, 87, 125, 153, 158, 163], 61, 0, 0, .null)) d11 rfl (fun _ => rfl) ?_
              refine q_lr (k := 1) (i := 0) (q := (.aload_n 0, 1, 0, 0, .null)) rfl (fun _ => rfl) l0_1 ?_
              refine r_gr (c := 80) H (pc := 77) rfl (by decide) (by decide) ?_
              refine r_s (fr' := (81, lv1, [.int 4, .ref 80])) (hp' := xW B m) (q := (.iconst 4, 1, 0, 0, .null)) rfl (fun _ => rfl) (Nat.le_refl _) ?_
              refine q_al (n := 148) (v := (m.1 80 4)) H (pc := 81) rfl (by decide) (by decide) rfl ?_
              obtain rfl := Option.some.inj h
              exact q_ri (q := (.ireturn, 1, 0, 0, .null)) rfl (fun _ => rfl) rfl rfl
            · rw [if_neg d11] at h
              by_cases d12 : ((v1 == 6)) = true
              · rw [if_pos d12] at h
                refine q_sw (pc2 := 83) (q := (.tableswitch 168 0 11 #[61, 61, 61, 61, 68, 73, 80, 87, 125, 153, 158, 163], 61, 0, 0, .null)) d12 rfl (fun _ => rfl) ?_
                refine q_lr (k := 1) (i := 0) (q := (.aload_n 0, 1, 0, 0, .null)) rfl (fun _ => rfl) l0_1 ?_
                refine r_gr (c := 80) H (pc := 84) rfl (by decide) (by decide) ?_
                refine r_s (fr' := (88, lv1, [.int 5, .ref 80])) (hp' := xW B m) (q := (.iconst 5, 1, 0, 0, .null)) rfl (fun _ => rfl) (Nat.le_refl _) ?_
                refine q_al (n := 148) (v := (m.1 80 5)) H (pc := 88) rfl (by decide) (by decide) rfl ?_
                obtain rfl := Option.some.inj h
                exact q_ri (q := (.ireturn, 1, 0, 0, .null)) rfl (fun _ => rfl) rfl rfl
              · rw [if_neg d12] at h
                by_cases d13 : ((v1 == 7)) = true
                · rw [if_pos d13] at h
                  refine q_sw (pc2 := 90) (q := (.tableswitch 168 0 11 #[61, 61, 61, 61, 68, 73, 80, 87, 125, 153, 158, 163], 61, 0, 0, .null)) d13 rfl (fun _ => rfl) ?_
                  refine r_s (fr' := (91, lv1, [.int 0])) (hp' := xW B m) (q := (.iconst 0, 1, 0, 0, .null)) rfl (fun _ => rfl) (Nat.le_refl _) ?_
                  refine q_si (k := 1) (i := 3) (q := (.istore_n 3, 1, 0, 0, .null)) rfl (fun _ => rfl) (by decide) ?_
                  have l0_14 : zld (zs1 lv1 3 (.int 0)) 0 = some (.ref 70) := x_o1 l0_1 rfl rfl
                  have l1_14 : zld (zs1 lv1 3 (.int 0)) 1 = some (.int v1) := x_o1 l1_1 rfl rfl
                  have l2_14 : zld (zs1 lv1 3 (.int 0)) 2 = some (.int 0) := x_o1 l2_1 rfl rfl
                  have l3_14 : zld (zs1 lv1 3 (.int 0)) 3 = some (.int 0) := zs1_ld _ _ _
                  generalize (zs1 lv1 3 (.int 0)) = lv14 at *
                  exact T277_92 H he F F l0_14 l1_14 l2_14 l3_14 h
                · rw [if_neg d13] at h
                  by_cases d15 : ((v1 == 8)) = true
                  · rw [if_pos d15] at h
                    refine q_sw (pc2 := 128) (q := (.tableswitch 168 0 11 #[61, 61, 61, 61, 68, 73, 80, 87, 125, 153, 158, 163], 61, 0, 0, .null)) d15 rfl (fun _ => rfl) ?_
                    refine r_s (fr' := (129, lv1, [.int 0])) (hp' := xW B m) (q := (.iconst 0, 1, 0, 0, .null)) rfl (fun _ => rfl) (Nat.le_refl _) ?_
                    refine q_si (k := 1) (i := 3) (q := (.istore_n 3, 1, 0, 0, .null)) rfl (fun _ => rfl) (by decide) ?_
                    have l0_16 : zld (zs1 lv1 3 (.int 0)) 0 = some (.ref 70) := x_o1 l0_1 rfl rfl
                    have l1_16 : zld (zs1 lv1 3 (.int 0)) 1 = some (.int v1) := x_o1 l1_1 rfl rfl
                    have l2_16 : zld (zs1 lv1 3 (.int 0)) 2 = some (.int 0) := x_o1 l2_1 rfl rfl
                    have l3_16 : zld (zs1 lv1 3 (.int 0)) 3 = some (.int 0) := zs1_ld _ _ _
                    generalize (zs1 lv1 3 (.int 0)) = lv16 at *
                    exact T277_130 H he F F l0_16 l1_16 l2_16 l3_16 h
                  · rw [if_neg d15] at h
                    by_cases d17 : ((v1 == 9)) = true
                    · rw [if_pos d17] at h
                      refine q_sw (pc2 := 156) (q := (.tableswitch 168 0 11 #[61, 61, 61, 61, 68, 73, 80, 87, 125, 153, 158, 163], 61, 0, 0, .null)) d17 rfl (fun _ => rfl) ?_
                      refine q_lr (k := 1) (i := 0) (q := (.aload_n 0, 1, 0, 0, .null)) rfl (fun _ => rfl) l0_1 ?_
                      refine r_gi (v := (m.1 70 25)) H (pc := 157) (i := _) rfl (by decide) (by decide) rfl ?_
                      obtain rfl := Option.some.inj h
                      exact q_ri (q := (.ireturn, 1, 0, 0, .null)) rfl (fun _ => rfl) rfl rfl
                    · rw [if_neg d17] at h
                      by_cases d18 : ((v1 == 10)) = true
                      · rw [if_pos d18] at h
                        refine q_sw (pc2 := 161) (q := (.tableswitch 168 0 11 #[61, 61, 61, 61, 68, 73, 80, 87, 125, 153, 158, 163], 61, 0, 0, .null)) d18 rfl (fun _ => rfl) ?_
                        refine q_lr (k := 1) (i := 0) (q := (.aload_n 0, 1, 0, 0, .null)) rfl (fun _ => rfl) l0_1 ?_
                        refine r_gi (v := (m.1 70 23)) H (pc := 162) (i := _) rfl (by decide) (by decide) rfl ?_
                        obtain rfl := Option.some.inj h
                        exact q_ri (q := (.ireturn, 1, 0, 0, .null)) rfl (fun _ => rfl) rfl rfl
                      · rw [if_neg d18] at h
                        by_cases d19 : ((v1 == 11)) = true
                        · rw [if_pos d19] at h
                          refine q_sw (pc2 := 166) (q := (.tableswitch 168 0 11 #[61, 61, 61, 61, 68, 73, 80, 87, 125, 153, 158, 163], 61, 0, 0, .null)) d19 rfl (fun _ => rfl) ?_
                          refine q_lr (k := 1) (i := 0) (q := (.aload_n 0, 1, 0, 0, .null)) rfl (fun _ => rfl) l0_1 ?_
                          refine r_gi (v := (m.1 70 1)) H (pc := 167) (i := _) rfl (by decide) (by decide) rfl ?_
                          obtain rfl := Option.some.inj h
                          exact q_ri (q := (.ireturn, 1, 0, 0, .null)) rfl (fun _ => rfl) rfl rfl
                        · rw [if_neg d19] at h
                          refine q_td (pc2 := 171) (q := (.tableswitch 168 0 11 #[61, 61, 61, 61, 68, 73, 80, 87, 125, 153, 158, 163], 61, 0, 0, .null)) (dflt := 168) (lo := 0) (hi := 11) (offs := #[61, 61, 61, 61, 68, 73, 80, 87, 125, 153, 158, 163]) (by have z0 := xne (z := 0) rfl d2; have z1 := xne (z := 1) rfl d4; have z2 := xne (z := 2) rfl d6; have z3 := xne (z := 3) rfl d8; have z4 := xne (z := 4) rfl d10; have z5 := xne (z := 5) rfl d11; have z6 := xne (z := 6) rfl d12; have z7 := xne (z := 7) rfl d13; have z8 := xne (z := 8) rfl d15; have z9 := xne (z := 9) rfl d17; have z10 := xne (z := 10) rfl d18; have z11 := xne (z := 11) rfl d19; omega) rfl (fun _ => rfl) rfl ?_
                          refine r_s (fr' := (172, lv1, [.int (-1)])) (hp' := xW B m) (q := (.iconst (-1), 1, 0, 0, .null)) rfl (fun _ => rfl) (Nat.le_refl _) ?_
                          obtain rfl := Option.some.inj h
                          exact q_ri (q := (.ireturn, 1, 0, 0, .null)) rfl (fun _ => rfl) rfl rfl
set_option maxRecDepth 20000 in
theorem Z277 {B : zHp} (H : yH0 B) {F : Nat} {a1 : Int32} {m : xS} {x : Int32 × xS} (h : D277 F a1 m = some x) {d : Nat} (hd : 2 ≤ d) : zCan d 277 [.ref 70, .int a1] (xW B m) (some (.int x.1), xW B x.2) := by
  obtain ⟨e, rfl⟩ : ∃ e, d = e + 1 := ⟨d - 1, by omega⟩
  refine zCan_body (nL := 4) (rt := (some .int)) (cd := zc277) (xg277) ⟨Nat.le_of_ble_eq_true rfl, by decide⟩ (Nat.le_refl _) ?_
  exact T277 H hd F rfl rfl h
/-- LentToolsModel.image -/
def D278_33 (F : Nat) : Nat → Int32 → Int32 → xS → Option (Int32 × xS)
  | 0, _, _, _ => none
  | f + 1, v1, v2, m =>
    if zcmp .ge v2 148 = true then
      some ((m.1 80 4), m)
    else
      if xib v2 148 = true then
        if xib ((148 * v1) + v2) 592 = true then
          D278_33 F f v1 (v2 + Int32.ofInt 1) (xu m 85 (((148 * v1) + v2) : Int32).toNatClampNeg (m.1 80 (v2 : Int32).toNatClampNeg))
        else none
      else none
set_option maxRecDepth 20000 in
theorem T278_33 {B : zHp} (H : yH0 B) {e : Nat} (he : 2 ≤ e + 1) (F : Nat) : ∀ (f : Nat) {v1 : Int32} {v2 : Int32} {lv : List (Nat × Value)} {m : xS} {x : Int32 × xS}, zld lv 0 = some (.ref 70) → zld lv 1 = some (.int v1) → zld lv 2 = some (.int v2) → D278_33 F f v1 v2 m = some x → zR none e 3 (some .int) zc278 (33, lv, []) (xW B m) (some (.int x.1), xW B x.2) := by
  intro f
  induction f with
  | zero => intro v1 v2 lv m x l0 l1 l2 h; cases h
  | succ f ih =>
    intro v1 v2 lv m x l0 l1 l2 h
    unfold D278_33 at h
    refine q_li (k := 1) (i := 2) (q := (.iload_n 2, 1, 0, 0, .null)) rfl (fun _ => rfl) l2 ?_
    refine r_s (fr' := (37, lv, [.int 148, .int v2])) (hp' := xW B m) (q := (.sipush 148, 3, 0, 0, .null)) rfl (fun _ => rfl) (Nat.le_refl _) ?_
    refine r_ifc (len := 3) (a := 64) (b := 0) (v0 := .null) (cn := .ge) (off := 27) rfl (fun c => ?_) (fun c => ?_)
    · rw [if_pos c] at h
      refine q_lr (k := 1) (i := 0) (q := (.aload_n 0, 1, 0, 0, .null)) rfl (fun _ => rfl) l0 ?_
      refine r_gr (c := 80) H (pc := 65) rfl (by decide) (by decide) ?_
      refine r_s (fr' := (69, lv, [.int 4, .ref 80])) (hp' := xW B m) (q := (.iconst 4, 1, 0, 0, .null)) rfl (fun _ => rfl) (Nat.le_refl _) ?_
      refine q_al (n := 148) (v := (m.1 80 4)) H (pc := 69) rfl (by decide) (by decide) rfl ?_
      obtain rfl := Option.some.inj h
      exact q_ri (q := (.ireturn, 1, 0, 0, .null)) rfl (fun _ => rfl) rfl rfl
    · rw [if_neg (by rw [c]; decide)] at h
      refine q_lr (k := 1) (i := 0) (q := (.aload_n 0, 1, 0, 0, .null)) rfl (fun _ => rfl) l0 ?_
      refine r_gr (c := 85) H (pc := 41) rfl (by decide) (by decide) ?_
      refine r_s (fr' := (47, lv, [.int 148, .ref 85])) (hp' := xW B m) (q := (.sipush 148, 3, 0, 0, .null)) rfl (fun _ => rfl) (Nat.le_refl _) ?_
      refine q_li (k := 1) (i := 1) (q := (.iload_n 1, 1, 0, 0, .null)) rfl (fun _ => rfl) l1 ?_
      refine r_s (fr' := (49, lv, [.int (148 * v1), .ref 85])) (hp' := xW B m) (q := (.imul, 1, 0, 0, .null)) rfl (fun _ => rfl) (Nat.le_refl _) ?_
      refine q_li (k := 1) (i := 2) (q := (.iload_n 2, 1, 0, 0, .null)) rfl (fun _ => rfl) l2 ?_
      refine r_s (fr' := (51, lv, [.int ((148 * v1) + v2), .ref 85])) (hp' := xW B m) (q := (.iadd, 1, 0, 0, .null)) rfl (fun _ => rfl) (Nat.le_refl _) ?_
      refine q_lr (k := 1) (i := 0) (q := (.aload_n 0, 1, 0, 0, .null)) rfl (fun _ => rfl) l0 ?_
      refine r_gr (c := 80) H (pc := 52) rfl (by decide) (by decide) ?_
      refine q_li (k := 1) (i := 2) (q := (.iload_n 2, 1, 0, 0, .null)) rfl (fun _ => rfl) l2 ?_
      obtain ⟨c1, h⟩ := xif h
      refine q_al (n := 148) (v := (m.1 80 (v2 : Int32).toNatClampNeg)) H (pc := 56) rfl (by decide) c1 rfl ?_
      obtain ⟨c2, h⟩ := xif h
      refine q_as (n := 592) (s2 := (xu m 85 (((148 * v1) + v2) : Int32).toNatClampNeg (m.1 80 (v2 : Int32).toNatClampNeg))) H (pc := 57) rfl (by decide) c2 rfl ?_
      refine q_inc (i := 2) (n := 1) (q := (.iinc 2 1, 3, 0, 0, .null)) rfl (fun _ => rfl) l2 (by decide) ?_
      have l0_3 : zld (zs1 lv 2 (.int (v2 + Int32.ofInt 1))) 0 = some (.ref 70) := x_o1 l0 rfl rfl
      have l1_3 : zld (zs1 lv 2 (.int (v2 + Int32.ofInt 1))) 1 = some (.int v1) := x_o1 l1 rfl rfl
      have l2_3 : zld (zs1 lv 2 (.int (v2 + Int32.ofInt 1))) 2 = some (.int (v2 + Int32.ofInt 1)) := zs1_ld _ _ _
      generalize (zs1 lv 2 (.int (v2 + Int32.ofInt 1))) = lv3 at *
      refine r_s (fr' := (33, lv3, [])) (hp' := xW B (xu m 85 (((148 * v1) + v2) : Int32).toNatClampNeg (m.1 80 (v2 : Int32).toNatClampNeg))) (q := (.goto (-28), 3, 33, 0, .null)) rfl (fun _ => rfl) (Nat.le_refl _) ?_
      exact ih l0_3 l1_3 l2_3 h
def D278 (F : Nat) (v1 : Int32) (m : xS) : Option (Int32 × xS) :=
  (D158 F (v1 : Int32).toInt64 0 3 m).bind fun q6 =>
    if zcmp .ne q6.1 0 = true then
      if xib v1 4 = true then
        if xib v1 4 = true then
          D278_33 F F v1 0 (xu (xu q6.2 87 (v1 : Int32).toNatClampNeg (vp_nar .boolean 1)) 86 (v1 : Int32).toNatClampNeg (q6.2.1 70 23))
        else none
      else none
    else
      some ((-1), q6.2)
set_option maxRecDepth 20000 in
theorem T278 {B : zHp} (H : yH0 B) {e : Nat} (he : 2 ≤ e + 1) (F : Nat) {v1 : Int32} {lv : List (Nat × Value)} {m : xS} {x : Int32 × xS} (l0 : zld lv 0 = some (.ref 70)) (l1 : zld lv 1 = some (.int v1)) (h : D278 F v1 m = some x) : zR none e 3 (some .int) zc278 (0, lv, []) (xW B m) (some (.int x.1), xW B x.2) := by
  unfold D278 at h
  refine q_li (k := 1) (i := 1) (q := (.iload_n 1, 1, 0, 0, .null)) rfl (fun _ => rfl) l1 ?_
  refine r_s (fr' := (2, lv, [.long (v1 : Int32).toInt64])) (hp' := xW B m) (q := (.i2l, 1, 0, 0, .null)) rfl (fun _ => rfl) (Nat.le_refl _) ?_
  refine r_s (fr' := (3, lv, [.long 0, .long (v1 : Int32).toInt64])) (hp' := xW B m) (q := (.lconst 0, 1, 0, 0, .null)) rfl (fun _ => rfl) (Nat.le_refl _) ?_
  refine r_s (fr' := (6, lv, [.long 3, .long 0, .long (v1 : Int32).toInt64])) (hp' := xW B m) (q := (.ldc2_w 491, 3, 0, 0, .long 3)) rfl (fun _ => rfl) (Nat.le_refl _) ?_
  obtain ⟨q6, h6, h⟩ := xbind h
  refine r_callS (as := [.long (v1 : Int32).toInt64, .long 0, .long 3]) (rest := []) (rv := some (.int q6.1)) (hp' := xW B q6.2) (pc := 6) rfl xr158 rfl rfl rfl (Nat.le_of_ble_eq_true rfl) (Z158 H h6 (by omega)) (Nat.le_refl _) ?_
  refine r_if (len := 3) (a := 14) (b := 0) (v0 := .null) (cn := .ne) (off := 5) rfl (fun c => ?_) (fun c => ?_)
  · rw [if_pos c] at h
    refine q_lr (k := 1) (i := 0) (q := (.aload_n 0, 1, 0, 0, .null)) rfl (fun _ => rfl) l0 ?_
    refine r_gr (c := 87) H (pc := 15) rfl (by decide) (by decide) ?_
    refine q_li (k := 1) (i := 1) (q := (.iload_n 1, 1, 0, 0, .null)) rfl (fun _ => rfl) l1 ?_
    refine r_s (fr' := (20, lv, [.int 1, .int v1, .ref 87])) (hp' := xW B q6.2) (q := (.iconst 1, 1, 0, 0, .null)) rfl (fun _ => rfl) (Nat.le_refl _) ?_
    obtain ⟨c1, h⟩ := xif h
    refine q_bs2 (n := 4) (s2 := (xu q6.2 87 (v1 : Int32).toNatClampNeg (vp_nar .boolean 1))) H (pc := 20) rfl (by decide) c1 rfl ?_
    refine q_lr (k := 1) (i := 0) (q := (.aload_n 0, 1, 0, 0, .null)) rfl (fun _ => rfl) l0 ?_
    refine r_gr (c := 86) H (pc := 22) rfl (by decide) (by decide) ?_
    refine q_li (k := 1) (i := 1) (q := (.iload_n 1, 1, 0, 0, .null)) rfl (fun _ => rfl) l1 ?_
    refine q_lr (k := 1) (i := 0) (q := (.aload_n 0, 1, 0, 0, .null)) rfl (fun _ => rfl) l0 ?_
    refine r_gi (v := (q6.2.1 70 23)) H (pc := 27) (i := _) rfl (by decide) (by decide) rfl ?_
    obtain ⟨c2, h⟩ := xif h
    refine q_as (n := 4) (s2 := (xu (xu q6.2 87 (v1 : Int32).toNatClampNeg (vp_nar .boolean 1)) 86 (v1 : Int32).toNatClampNeg (q6.2.1 70 23))) H (pc := 30) rfl (by decide) c2 rfl ?_
    refine r_s (fr' := (32, lv, [.int 0])) (hp' := xW B (xu (xu q6.2 87 (v1 : Int32).toNatClampNeg (vp_nar .boolean 1)) 86 (v1 : Int32).toNatClampNeg (q6.2.1 70 23))) (q := (.iconst 0, 1, 0, 0, .null)) rfl (fun _ => rfl) (Nat.le_refl _) ?_
    refine q_si (k := 1) (i := 2) (q := (.istore_n 2, 1, 0, 0, .null)) rfl (fun _ => rfl) (by decide) ?_
    have l0_3 : zld (zs1 lv 2 (.int 0)) 0 = some (.ref 70) := x_o1 l0 rfl rfl
    have l1_3 : zld (zs1 lv 2 (.int 0)) 1 = some (.int v1) := x_o1 l1 rfl rfl
    have l2_3 : zld (zs1 lv 2 (.int 0)) 2 = some (.int 0) := zs1_ld _ _ _
    generalize (zs1 lv 2 (.int 0)) = lv3 at *
    exact T278_33 H he F F l0_3 l1_3 l2_3 h
  · rw [if_neg (by rw [c]; decide)] at h
    refine r_s (fr' := (13, lv, [.int (-1)])) (hp' := xW B q6.2) (q := (.iconst (-1), 1, 0, 0, .null)) rfl (fun _ => rfl) (Nat.le_refl _) ?_
    obtain rfl := Option.some.inj h
    exact q_ri (q := (.ireturn, 1, 0, 0, .null)) rfl (fun _ => rfl) rfl rfl
set_option maxRecDepth 20000 in
theorem Z278 {B : zHp} (H : yH0 B) {F : Nat} {a1 : Int32} {m : xS} {x : Int32 × xS} (h : D278 F a1 m = some x) {d : Nat} (hd : 2 ≤ d) : zCan d 278 [.ref 70, .int a1] (xW B m) (some (.int x.1), xW B x.2) := by
  obtain ⟨e, rfl⟩ : ∃ e, d = e + 1 := ⟨d - 1, by omega⟩
  refine zCan_body (nL := 3) (rt := (some .int)) (cd := zc278) (xg278) ⟨Nat.le_of_ble_eq_true rfl, by decide⟩ (Nat.le_refl _) ?_
  exact T278 H hd F rfl rfl h
/-- LentToolsModel.back -/
def D279_21 (F : Nat) (v1 : Int32) (m : xS) : Option (Int32 × xS) :=
  some ((-1), m)
set_option maxRecDepth 20000 in
theorem T279_21 {B : zHp} (H : yH0 B) {e : Nat} (he : 2 ≤ e + 1) (F : Nat) {v1 : Int32} {lv : List (Nat × Value)} {m : xS} {x : Int32 × xS} (l0 : zld lv 0 = some (.ref 70)) (l1 : zld lv 1 = some (.int v1)) (h : D279_21 F v1 m = some x) : zR none e 3 (some .int) zc279 (21, lv, []) (xW B m) (some (.int x.1), xW B x.2) := by
  unfold D279_21 at h
  refine r_s (fr' := (22, lv, [.int (-1)])) (hp' := xW B m) (q := (.iconst (-1), 1, 0, 0, .null)) rfl (fun _ => rfl) (Nat.le_refl _) ?_
  obtain rfl := Option.some.inj h
  exact q_ri (q := (.ireturn, 1, 0, 0, .null)) rfl (fun _ => rfl) rfl rfl
def D279_40 (F : Nat) : Nat → Int32 → Int32 → xS → Option (Int32 × xS)
  | 0, _, _, _ => none
  | f + 1, v1, v2, m =>
    if zcmp .ge v2 148 = true then
      some ((m.1 80 4), m)
    else
      if xib ((148 * v1) + v2) 592 = true then
        if xib v2 148 = true then
          D279_40 F f v1 (v2 + Int32.ofInt 1) (xu m 80 (v2 : Int32).toNatClampNeg (m.1 85 (((148 * v1) + v2) : Int32).toNatClampNeg))
        else none
      else none
set_option maxRecDepth 20000 in
theorem T279_40 {B : zHp} (H : yH0 B) {e : Nat} (he : 2 ≤ e + 1) (F : Nat) : ∀ (f : Nat) {v1 : Int32} {v2 : Int32} {lv : List (Nat × Value)} {m : xS} {x : Int32 × xS}, zld lv 0 = some (.ref 70) → zld lv 1 = some (.int v1) → zld lv 2 = some (.int v2) → D279_40 F f v1 v2 m = some x → zR none e 3 (some .int) zc279 (40, lv, []) (xW B m) (some (.int x.1), xW B x.2) := by
  intro f
  induction f with
  | zero => intro v1 v2 lv m x l0 l1 l2 h; cases h
  | succ f ih =>
    intro v1 v2 lv m x l0 l1 l2 h
    unfold D279_40 at h
    refine q_li (k := 1) (i := 2) (q := (.iload_n 2, 1, 0, 0, .null)) rfl (fun _ => rfl) l2 ?_
    refine r_s (fr' := (44, lv, [.int 148, .int v2])) (hp' := xW B m) (q := (.sipush 148, 3, 0, 0, .null)) rfl (fun _ => rfl) (Nat.le_refl _) ?_
    refine r_ifc (len := 3) (a := 71) (b := 0) (v0 := .null) (cn := .ge) (off := 27) rfl (fun c => ?_) (fun c => ?_)
    · rw [if_pos c] at h
      refine q_lr (k := 1) (i := 0) (q := (.aload_n 0, 1, 0, 0, .null)) rfl (fun _ => rfl) l0 ?_
      refine r_gr (c := 80) H (pc := 72) rfl (by decide) (by decide) ?_
      refine r_s (fr' := (76, lv, [.int 4, .ref 80])) (hp' := xW B m) (q := (.iconst 4, 1, 0, 0, .null)) rfl (fun _ => rfl) (Nat.le_refl _) ?_
      refine q_al (n := 148) (v := (m.1 80 4)) H (pc := 76) rfl (by decide) (by decide) rfl ?_
      obtain rfl := Option.some.inj h
      exact q_ri (q := (.ireturn, 1, 0, 0, .null)) rfl (fun _ => rfl) rfl rfl
    · rw [if_neg (by rw [c]; decide)] at h
      refine q_lr (k := 1) (i := 0) (q := (.aload_n 0, 1, 0, 0, .null)) rfl (fun _ => rfl) l0 ?_
      refine r_gr (c := 80) H (pc := 48) rfl (by decide) (by decide) ?_
      refine q_li (k := 1) (i := 2) (q := (.iload_n 2, 1, 0, 0, .null)) rfl (fun _ => rfl) l2 ?_
      refine q_lr (k := 1) (i := 0) (q := (.aload_n 0, 1, 0, 0, .null)) rfl (fun _ => rfl) l0 ?_
      refine r_gr (c := 85) H (pc := 53) rfl (by decide) (by decide) ?_
      refine r_s (fr' := (59, lv, [.int 148, .ref 85, .int v2, .ref 80])) (hp' := xW B m) (q := (.sipush 148, 3, 0, 0, .null)) rfl (fun _ => rfl) (Nat.le_refl _) ?_
      refine q_li (k := 1) (i := 1) (q := (.iload_n 1, 1, 0, 0, .null)) rfl (fun _ => rfl) l1 ?_
      refine r_s (fr' := (61, lv, [.int (148 * v1), .ref 85, .int v2, .ref 80])) (hp' := xW B m) (q := (.imul, 1, 0, 0, .null)) rfl (fun _ => rfl) (Nat.le_refl _) ?_
      refine q_li (k := 1) (i := 2) (q := (.iload_n 2, 1, 0, 0, .null)) rfl (fun _ => rfl) l2 ?_
      refine r_s (fr' := (63, lv, [.int ((148 * v1) + v2), .ref 85, .int v2, .ref 80])) (hp' := xW B m) (q := (.iadd, 1, 0, 0, .null)) rfl (fun _ => rfl) (Nat.le_refl _) ?_
      obtain ⟨c1, h⟩ := xif h
      refine q_al (n := 592) (v := (m.1 85 (((148 * v1) + v2) : Int32).toNatClampNeg)) H (pc := 63) rfl (by decide) c1 rfl ?_
      obtain ⟨c2, h⟩ := xif h
      refine q_as (n := 148) (s2 := (xu m 80 (v2 : Int32).toNatClampNeg (m.1 85 (((148 * v1) + v2) : Int32).toNatClampNeg))) H (pc := 64) rfl (by decide) c2 rfl ?_
      refine q_inc (i := 2) (n := 1) (q := (.iinc 2 1, 3, 0, 0, .null)) rfl (fun _ => rfl) l2 (by decide) ?_
      have l0_3 : zld (zs1 lv 2 (.int (v2 + Int32.ofInt 1))) 0 = some (.ref 70) := x_o1 l0 rfl rfl
      have l1_3 : zld (zs1 lv 2 (.int (v2 + Int32.ofInt 1))) 1 = some (.int v1) := x_o1 l1 rfl rfl
      have l2_3 : zld (zs1 lv 2 (.int (v2 + Int32.ofInt 1))) 2 = some (.int (v2 + Int32.ofInt 1)) := zs1_ld _ _ _
      generalize (zs1 lv 2 (.int (v2 + Int32.ofInt 1))) = lv3 at *
      refine r_s (fr' := (40, lv3, [])) (hp' := xW B (xu m 80 (v2 : Int32).toNatClampNeg (m.1 85 (((148 * v1) + v2) : Int32).toNatClampNeg))) (q := (.goto (-28), 3, 40, 0, .null)) rfl (fun _ => rfl) (Nat.le_refl _) ?_
      exact ih l0_3 l1_3 l2_3 h
def D279 (F : Nat) (v1 : Int32) (m : xS) : Option (Int32 × xS) :=
  (D158 F (v1 : Int32).toInt64 0 3 m).bind fun q6 =>
    if zcmp .eq q6.1 0 = true then
      D279_21 F v1 q6.2
    else
      if xib v1 4 = true then
        if zcmp .ne (q6.2.1 87 (v1 : Int32).toNatClampNeg) 0 = true then
          if xib v1 4 = true then
            D279_40 F F v1 0 (xu (xu q6.2 70 23 (q6.2.1 86 (v1 : Int32).toNatClampNeg)) 70 25 0)
          else none
        else
          D279_21 F v1 q6.2
      else none
set_option maxRecDepth 20000 in
theorem T279 {B : zHp} (H : yH0 B) {e : Nat} (he : 2 ≤ e + 1) (F : Nat) {v1 : Int32} {lv : List (Nat × Value)} {m : xS} {x : Int32 × xS} (l0 : zld lv 0 = some (.ref 70)) (l1 : zld lv 1 = some (.int v1)) (h : D279 F v1 m = some x) : zR none e 3 (some .int) zc279 (0, lv, []) (xW B m) (some (.int x.1), xW B x.2) := by
  unfold D279 at h
  refine q_li (k := 1) (i := 1) (q := (.iload_n 1, 1, 0, 0, .null)) rfl (fun _ => rfl) l1 ?_
  refine r_s (fr' := (2, lv, [.long (v1 : Int32).toInt64])) (hp' := xW B m) (q := (.i2l, 1, 0, 0, .null)) rfl (fun _ => rfl) (Nat.le_refl _) ?_
  refine r_s (fr' := (3, lv, [.long 0, .long (v1 : Int32).toInt64])) (hp' := xW B m) (q := (.lconst 0, 1, 0, 0, .null)) rfl (fun _ => rfl) (Nat.le_refl _) ?_
  refine r_s (fr' := (6, lv, [.long 3, .long 0, .long (v1 : Int32).toInt64])) (hp' := xW B m) (q := (.ldc2_w 491, 3, 0, 0, .long 3)) rfl (fun _ => rfl) (Nat.le_refl _) ?_
  obtain ⟨q6, h6, h⟩ := xbind h
  refine r_callS (as := [.long (v1 : Int32).toInt64, .long 0, .long 3]) (rest := []) (rv := some (.int q6.1)) (hp' := xW B q6.2) (pc := 6) rfl xr158 rfl rfl rfl (Nat.le_of_ble_eq_true rfl) (Z158 H h6 (by omega)) (Nat.le_refl _) ?_
  refine r_if (len := 3) (a := 21) (b := 0) (v0 := .null) (cn := .eq) (off := 12) rfl (fun c => ?_) (fun c => ?_)
  · rw [if_pos c] at h
    exact T279_21 H he F l0 l1 h
  · rw [if_neg (by rw [c]; decide)] at h
    refine q_lr (k := 1) (i := 0) (q := (.aload_n 0, 1, 0, 0, .null)) rfl (fun _ => rfl) l0 ?_
    refine r_gr (c := 87) H (pc := 13) rfl (by decide) (by decide) ?_
    refine q_li (k := 1) (i := 1) (q := (.iload_n 1, 1, 0, 0, .null)) rfl (fun _ => rfl) l1 ?_
    obtain ⟨c1, h⟩ := xif h
    refine q_bl (n := 4) (v := (q6.2.1 87 (v1 : Int32).toNatClampNeg)) (k := 2) H (pc := 17) rfl (by decide) (by decide) c1 rfl ?_
    refine r_if (len := 3) (a := 23) (b := 0) (v0 := .null) (cn := .ne) (off := 5) rfl (fun c => ?_) (fun c => ?_)
    · rw [if_pos c] at h
      refine q_lr (k := 1) (i := 0) (q := (.aload_n 0, 1, 0, 0, .null)) rfl (fun _ => rfl) l0 ?_
      refine q_lr (k := 1) (i := 0) (q := (.aload_n 0, 1, 0, 0, .null)) rfl (fun _ => rfl) l0 ?_
      refine r_gr (c := 86) H (pc := 25) rfl (by decide) (by decide) ?_
      refine q_li (k := 1) (i := 1) (q := (.iload_n 1, 1, 0, 0, .null)) rfl (fun _ => rfl) l1 ?_
      obtain ⟨c2, h⟩ := xif h
      refine q_al (n := 4) (v := (q6.2.1 86 (v1 : Int32).toNatClampNeg)) H (pc := 29) rfl (by decide) c2 rfl ?_
      refine r_pi (s2 := (xu q6.2 70 23 (q6.2.1 86 (v1 : Int32).toNatClampNeg))) H (pc := 30) rfl (by decide) rfl rfl ?_
      refine q_lr (k := 1) (i := 0) (q := (.aload_n 0, 1, 0, 0, .null)) rfl (fun _ => rfl) l0 ?_
      refine r_s (fr' := (35, lv, [.int 0, .ref 70])) (hp' := xW B (xu q6.2 70 23 (q6.2.1 86 (v1 : Int32).toNatClampNeg))) (q := (.iconst 0, 1, 0, 0, .null)) rfl (fun _ => rfl) (Nat.le_refl _) ?_
      refine r_pi (s2 := (xu (xu q6.2 70 23 (q6.2.1 86 (v1 : Int32).toNatClampNeg)) 70 25 0)) H (pc := 35) rfl (by decide) rfl rfl ?_
      refine r_s (fr' := (39, lv, [.int 0])) (hp' := xW B (xu (xu q6.2 70 23 (q6.2.1 86 (v1 : Int32).toNatClampNeg)) 70 25 0)) (q := (.iconst 0, 1, 0, 0, .null)) rfl (fun _ => rfl) (Nat.le_refl _) ?_
      refine q_si (k := 1) (i := 2) (q := (.istore_n 2, 1, 0, 0, .null)) rfl (fun _ => rfl) (by decide) ?_
      have l0_3 : zld (zs1 lv 2 (.int 0)) 0 = some (.ref 70) := x_o1 l0 rfl rfl
      have l1_3 : zld (zs1 lv 2 (.int 0)) 1 = some (.int v1) := x_o1 l1 rfl rfl
      have l2_3 : zld (zs1 lv 2 (.int 0)) 2 = some (.int 0) := zs1_ld _ _ _
      generalize (zs1 lv 2 (.int 0)) = lv3 at *
      exact T279_40 H he F F l0_3 l1_3 l2_3 h
    · rw [if_neg (by rw [c]; decide)] at h
      exact T279_21 H he F l0 l1 h
set_option maxRecDepth 20000 in
theorem Z279 {B : zHp} (H : yH0 B) {F : Nat} {a1 : Int32} {m : xS} {x : Int32 × xS} (h : D279 F a1 m = some x) {d : Nat} (hd : 2 ≤ d) : zCan d 279 [.ref 70, .int a1] (xW B m) (some (.int x.1), xW B x.2) := by
  obtain ⟨e, rfl⟩ : ∃ e, d = e + 1 := ⟨d - 1, by omega⟩
  refine zCan_body (nL := 3) (rt := (some .int)) (cd := zc279) (xg279) ⟨Nat.le_of_ble_eq_true rfl, by decide⟩ (Nat.le_refl _) ?_
  exact T279 H hd F rfl rfl h
