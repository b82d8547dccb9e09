theorem zok0 : zokC zm0.1 zm0.2.1 0 zc0 = true := sorry
theorem zoy0 : zokY zm0 = true := sorry
set_option maxRecDepth 20000 in
theorem zow0 : Cond.code zm0.1 zm0.2.1 zm0.2.2.1 zm0.2.2.2.1 ∈ zTw := sorry
theorem zok10 : zokC zm10.1 zm10.2.1 0 zc10 = true := sorry
theorem zoy10 : zokY zm10 = true := sorry
set_option maxRecDepth 20000 in
theorem zow10 : Cond.code zm10.1 zm10.2.1 zm10.2.2.1 zm10.2.2.2.1 ∈ zTw := sorry
theorem zok13 : zokC zm13.1 zm13.2.1 0 zc13 = true := sorry
theorem zoy13 : zokY zm13 = true := sorry
set_option maxRecDepth 20000 in
theorem zow13 : Cond.code zm13.1 zm13.2.1 zm13.2.2.1 zm13.2.2.2.1 ∈ zTw := sorry
theorem zok14 : zokC zm14.1 zm14.2.1 0 zc14 = true := sorry
theorem zoy14 : zokY zm14 = true := sorry
set_option maxRecDepth 20000 in
theorem zow14 : Cond.code zm14.1 zm14.2.1 zm14.2.2.1 zm14.2.2.2.1 ∈ zTw := sorry
theorem zok18 : zokC zm18.1 zm18.2.1 0 zc18 = true := sorry
theorem zoy18 : zokY zm18 = true := sorry
set_option maxRecDepth 20000 in
theorem zow18 : Cond.code zm18.1 zm18.2.1 zm18.2.2.1 zm18.2.2.2.1 ∈ zTw := sorry
theorem zok32 : zokC zm32.1 zm32.2.1 0 zc32 = true := sorry
theorem zoy32 : zokY zm32 = true := sorry
set_option maxRecDepth 20000 in
theorem zow32 : Cond.code zm32.1 zm32.2.1 zm32.2.2.1 zm32.2.2.2.1 ∈ zTw := sorry
theorem zok33 : zokC zm33.1 zm33.2.1 0 zc33 = true := sorry
theorem zoy33 : zokY zm33 = true := sorry
set_option maxRecDepth 20000 in
theorem zow33 : Cond.code zm33.1 zm33.2.1 zm33.2.2.1 zm33.2.2.2.1 ∈ zTw := sorry
theorem zok34 : zokC zm34.1 zm34.2.1 0 zc34 = true := sorry
theorem zoy34 : zokY zm34 = true := sorry
set_option maxRecDepth 20000 in
theorem zow34 : Cond.code zm34.1 zm34.2.1 zm34.2.2.1 zm34.2.2.2.1 ∈ zTw := sorry
theorem zok49 : zokC zm49.1 zm49.2.1 0 zc49 = true := sorry
theorem zoy49 : zokY zm49 = true := sorry
set_option maxRecDepth 20000 in
theorem zow49 : Cond.code zm49.1 zm49.2.1 zm49.2.2.1 zm49.2.2.2.1 ∈ zTw := sorry
theorem zok50 : zokC zm50.1 zm50.2.1 0 zc50 = true := sorry
theorem zoy50 : zokY zm50 = true := sorry
set_option maxRecDepth 20000 in
theorem zow50 : Cond.code zm50.1 zm50.2.1 zm50.2.2.1 zm50.2.2.2.1 ∈ zTw := sorry
theorem zok51 : zokC zm51.1 zm51.2.1 0 zc51 = true := sorry
theorem zoy51 : zokY zm51 = true := sorry
set_option maxRecDepth 20000 in
theorem zow51 : Cond.code zm51.1 zm51.2.1 zm51.2.2.1 zm51.2.2.2.1 ∈ zTw := sorry
theorem zok52 : zokC zm52.1 zm52.2.1 0 zc52 = true := sorry
theorem zoy52 : zokY zm52 = true := sorry
set_option maxRecDepth 20000 in
theorem zow52 : Cond.code zm52.1 zm52.2.1 zm52.2.2.1 zm52.2.2.2.1 ∈ zTw := sorry
theorem zok53 : zokC zm53.1 zm53.2.1 0 zc53 = true := sorry
theorem zoy53 : zokY zm53 = true := sorry
set_option maxRecDepth 20000 in
theorem zow53 : Cond.code zm53.1 zm53.2.1 zm53.2.2.1 zm53.2.2.2.1 ∈ zTw := sorry
theorem zok59 : zokC zm59.1 zm59.2.1 0 zc59 = true := sorry
theorem zoy59 : zokY zm59 = true := sorry
set_option maxRecDepth 20000 in
theorem zow59 : Cond.code zm59.1 zm59.2.1 zm59.2.2.1 zm59.2.2.2.1 ∈ zTw := sorry
theorem zok60 : zokC zm60.1 zm60.2.1 0 zc60 = true := sorry
theorem zoy60 : zokY zm60 = true := sorry
set_option maxRecDepth 20000 in
theorem zow60 : Cond.code zm60.1 zm60.2.1 zm60.2.2.1 zm60.2.2.2.1 ∈ zTw := sorry
theorem zok61 : zokC zm61.1 zm61.2.1 0 zc61 = true := sorry
theorem zoy61 : zokY zm61 = true := sorry
set_option maxRecDepth 20000 in
theorem zow61 : Cond.code zm61.1 zm61.2.1 zm61.2.2.1 zm61.2.2.2.1 ∈ zTw := sorry
theorem zok62 : zokC zm62.1 zm62.2.1 0 zc62 = true := sorry
theorem zoy62 : zokY zm62 = true := sorry
set_option maxRecDepth 20000 in
theorem zow62 : Cond.code zm62.1 zm62.2.1 zm62.2.2.1 zm62.2.2.2.1 ∈ zTw := sorry
theorem zok63 : zokC zm63.1 zm63.2.1 0 zc63 = true := sorry
theorem zoy63 : zokY zm63 = true := sorry
set_option maxRecDepth 20000 in
theorem zow63 : Cond.code zm63.1 zm63.2.1 zm63.2.2.1 zm63.2.2.2.1 ∈ zTw := sorry
theorem zok67 : zokC zm67.1 zm67.2.1 0 zc67 = true := sorry
theorem zoy67 : zokY zm67 = true := sorry
set_option maxRecDepth 20000 in
theorem zow67 : Cond.code zm67.1 zm67.2.1 zm67.2.2.1 zm67.2.2.2.1 ∈ zTw := sorry
theorem zok68 : zokC zm68.1 zm68.2.1 0 zc68 = true := sorry
theorem zoy68 : zokY zm68 = true := sorry
set_option maxRecDepth 20000 in
theorem zow68 : Cond.code zm68.1 zm68.2.1 zm68.2.2.1 zm68.2.2.2.1 ∈ zTw := sorry
theorem zok76 : zokC zm76.1 zm76.2.1 0 zc76 = true := sorry
theorem zoy76 : zokY zm76 = true := sorry
set_option maxRecDepth 20000 in
theorem zow76 : Cond.code zm76.1 zm76.2.1 zm76.2.2.1 zm76.2.2.2.1 ∈ zTw := sorry
theorem zok77 : zokC zm77.1 zm77.2.1 0 zc77 = true := sorry
theorem zoy77 : zokY zm77 = true := sorry
set_option maxRecDepth 20000 in
theorem zow77 : Cond.code zm77.1 zm77.2.1 zm77.2.2.1 zm77.2.2.2.1 ∈ zTw := sorry
theorem zok78 : zokC zm78.1 zm78.2.1 0 zc78 = true := sorry
theorem zoy78 : zokY zm78 = true := sorry
set_option maxRecDepth 20000 in
theorem zow78 : Cond.code zm78.1 zm78.2.1 zm78.2.2.1 zm78.2.2.2.1 ∈ zTw := sorry
theorem zok79 : zokC zm79.1 zm79.2.1 0 zc79 = true := sorry
theorem zoy79 : zokY zm79 = true := sorry
set_option maxRecDepth 20000 in
theorem zow79 : Cond.code zm79.1 zm79.2.1 zm79.2.2.1 zm79.2.2.2.1 ∈ zTw := sorry
theorem zok80 : zokC zm80.1 zm80.2.1 0 zc80 = true := sorry
theorem zoy80 : zokY zm80 = true := sorry
set_option maxRecDepth 20000 in
theorem zow80 : Cond.code zm80.1 zm80.2.1 zm80.2.2.1 zm80.2.2.2.1 ∈ zTw := sorry
theorem zok81 : zokC zm81.1 zm81.2.1 0 zc81 = true := sorry
theorem zoy81 : zokY zm81 = true := sorry
set_option maxRecDepth 20000 in
theorem zow81 : Cond.code zm81.1 zm81.2.1 zm81.2.2.1 zm81.2.2.2.1 ∈ zTw := sorry
theorem zok82 : zokC zm82.1 zm82.2.1 0 zc82 = true := sorry
theorem zoy82 : zokY zm82 = true := sorry
set_option maxRecDepth 20000 in
theorem zow82 : Cond.code zm82.1 zm82.2.1 zm82.2.2.1 zm82.2.2.2.1 ∈ zTw := sorry
theorem zok83 : zokC zm83.1 zm83.2.1 0 zc83 = true := sorry
theorem zoy83 : zokY zm83 = true := sorry
set_option maxRecDepth 20000 in
theorem zow83 : Cond.code zm83.1 zm83.2.1 zm83.2.2.1 zm83.2.2.2.1 ∈ zTw := sorry
theorem zok84 : zokC zm84.1 zm84.2.1 0 zc84 = true := sorry
theorem zoy84 : zokY zm84 = true := sorry
set_option maxRecDepth 20000 in
theorem zow84 : Cond.code zm84.1 zm84.2.1 zm84.2.2.1 zm84.2.2.2.1 ∈ zTw := sorry
theorem zok85 : zokC zm85.1 zm85.2.1 0 zc85 = true := sorry
theorem zoy85 : zokY zm85 = true := sorry
set_option maxRecDepth 20000 in
theorem zow85 : Cond.code zm85.1 zm85.2.1 zm85.2.2.1 zm85.2.2.2.1 ∈ zTw := sorry
theorem zok86 : zokC zm86.1 zm86.2.1 0 zc86 = true := sorry
theorem zoy86 : zokY zm86 = true := sorry
set_option maxRecDepth 20000 in
theorem zow86 : Cond.code zm86.1 zm86.2.1 zm86.2.2.1 zm86.2.2.2.1 ∈ zTw := sorry
theorem zok96 : zokC zm96.1 zm96.2.1 0 zc96 = true := sorry
theorem zoy96 : zokY zm96 = true := sorry
set_option maxRecDepth 20000 in
theorem zow96 : Cond.code zm96.1 zm96.2.1 zm96.2.2.1 zm96.2.2.2.1 ∈ zTw := sorry
theorem zok110 : zokC zm110.1 zm110.2.1 0 zc110 = true := sorry
theorem zoy110 : zokY zm110 = true := sorry
set_option maxRecDepth 20000 in
theorem zow110 : Cond.code zm110.1 zm110.2.1 zm110.2.2.1 zm110.2.2.2.1 ∈ zTw := sorry
theorem zok115 : zokC zm115.1 zm115.2.1 0 zc115 = true := sorry
theorem zoy115 : zokY zm115 = true := sorry
set_option maxRecDepth 20000 in
theorem zow115 : Cond.code zm115.1 zm115.2.1 zm115.2.2.1 zm115.2.2.2.1 ∈ zTw := sorry
theorem zok116 : zokC zm116.1 zm116.2.1 0 zc116 = true := sorry
theorem zoy116 : zokY zm116 = true := sorry
set_option maxRecDepth 20000 in
theorem zow116 : Cond.code zm116.1 zm116.2.1 zm116.2.2.1 zm116.2.2.2.1 ∈ zTw := sorry
theorem zok117 : zokC zm117.1 zm117.2.1 0 zc117 = true := sorry
theorem zoy117 : zokY zm117 = true := sorry
set_option maxRecDepth 20000 in
theorem zow117 : Cond.code zm117.1 zm117.2.1 zm117.2.2.1 zm117.2.2.2.1 ∈ zTw := sorry
theorem zok121 : zokC zm121.1 zm121.2.1 0 zc121 = true := sorry
theorem zoy121 : zokY zm121 = true := sorry
set_option maxRecDepth 20000 in
theorem zow121 : Cond.code zm121.1 zm121.2.1 zm121.2.2.1 zm121.2.2.2.1 ∈ zTw := sorry
theorem zok122 : zokC zm122.1 zm122.2.1 0 zc122 = true := sorry
theorem zoy122 : zokY zm122 = true := sorry
set_option maxRecDepth 20000 in
theorem zow122 : Cond.code zm122.1 zm122.2.1 zm122.2.2.1 zm122.2.2.2.1 ∈ zTw := sorry
theorem zok123 : zokC zm123.1 zm123.2.1 0 zc123 = true := sorry
theorem zoy123 : zokY zm123 = true := sorry
set_option maxRecDepth 20000 in
theorem zow123 : Cond.code zm123.1 zm123.2.1 zm123.2.2.1 zm123.2.2.2.1 ∈ zTw := sorry
theorem zok124 : zokC zm124.1 zm124.2.1 0 zc124 = true := sorry
theorem zoy124 : zokY zm124 = true := sorry
set_option maxRecDepth 20000 in
theorem zow124 : Cond.code zm124.1 zm124.2.1 zm124.2.2.1 zm124.2.2.2.1 ∈ zTw := sorry
theorem zok125 : zokC zm125.1 zm125.2.1 0 zc125 = true := sorry
theorem zoy125 : zokY zm125 = true := sorry
set_option maxRecDepth 20000 in
theorem zow125 : Cond.code zm125.1 zm125.2.1 zm125.2.2.1 zm125.2.2.2.1 ∈ zTw := sorry
theorem zok126 : zokC zm126.1 zm126.2.1 0 zc126 = true := sorry
theorem zoy126 : zokY zm126 = true := sorry
set_option maxRecDepth 20000 in
theorem zow126 : Cond.code zm126.1 zm126.2.1 zm126.2.2.1 zm126.2.2.2.1 ∈ zTw := sorry
theorem zok127 : zokC zm127.1 zm127.2.1 0 zc127 = true := sorry
theorem zoy127 : zokY zm127 = true := sorry
set_option maxRecDepth 20000 in
theorem zow127 : Cond.code zm127.1 zm127.2.1 zm127.2.2.1 zm127.2.2.2.1 ∈ zTw := sorry
theorem zok128 : zokC zm128.1 zm128.2.1 0 zc128 = true := sorry
theorem zoy128 : zokY zm128 = true := sorry
set_option maxRecDepth 20000 in
theorem zow128 : Cond.code zm128.1 zm128.2.1 zm128.2.2.1 zm128.2.2.2.1 ∈ zTw := sorry
theorem zok129 : zokC zm129.1 zm129.2.1 0 zc129 = true := sorry
theorem zoy129 : zokY zm129 = true := sorry
set_option maxRecDepth 20000 in
theorem zow129 : Cond.code zm129.1 zm129.2.1 zm129.2.2.1 zm129.2.2.2.1 ∈ zTw := sorry
theorem zok130 : zokC zm130.1 zm130.2.1 0 zc130 = true := sorry
theorem zoy130 : zokY zm130 = true := sorry
set_option maxRecDepth 20000 in
theorem zow130 : Cond.code zm130.1 zm130.2.1 zm130.2.2.1 zm130.2.2.2.1 ∈ zTw := sorry
theorem zok131 : zokC zm131.1 zm131.2.1 0 zc131 = true := sorry
theorem zoy131 : zokY zm131 = true := sorry
set_option maxRecDepth 20000 in
theorem zow131 : Cond.code zm131.1 zm131.2.1 zm131.2.2.1 zm131.2.2.2.1 ∈ zTw := sorry
theorem zok132 : zokC zm132.1 zm132.2.1 0 zc132 = true := sorry
theorem zoy132 : zokY zm132 = true := sorry
set_option maxRecDepth 20000 in
theorem zow132 : Cond.code zm132.1 zm132.2.1 zm132.2.2.1 zm132.2.2.2.1 ∈ zTw := sorry
theorem zok133 : zokC zm133.1 zm133.2.1 0 zc133 = true := sorry
theorem zoy133 : zokY zm133 = true := sorry
set_option maxRecDepth 20000 in
theorem zow133 : Cond.code zm133.1 zm133.2.1 zm133.2.2.1 zm133.2.2.2.1 ∈ zTw := sorry
theorem zok134 : zokC zm134.1 zm134.2.1 0 zc134 = true := sorry
theorem zoy134 : zokY zm134 = true := sorry
set_option maxRecDepth 20000 in
theorem zow134 : Cond.code zm134.1 zm134.2.1 zm134.2.2.1 zm134.2.2.2.1 ∈ zTw := sorry
theorem zok135 : zokC zm135.1 zm135.2.1 0 zc135 = true := sorry
theorem zoy135 : zokY zm135 = true := sorry
set_option maxRecDepth 20000 in
theorem zow135 : Cond.code zm135.1 zm135.2.1 zm135.2.2.1 zm135.2.2.2.1 ∈ zTw := sorry
theorem zok136 : zokC zm136.1 zm136.2.1 0 zc136 = true := sorry
theorem zoy136 : zokY zm136 = true := sorry
set_option maxRecDepth 20000 in
theorem zow136 : Cond.code zm136.1 zm136.2.1 zm136.2.2.1 zm136.2.2.2.1 ∈ zTw := sorry
theorem zok137 : zokC zm137.1 zm137.2.1 0 zc137 = true := sorry
theorem zoy137 : zokY zm137 = true := sorry
set_option maxRecDepth 20000 in
theorem zow137 : Cond.code zm137.1 zm137.2.1 zm137.2.2.1 zm137.2.2.2.1 ∈ zTw := sorry
theorem zok138 : zokC zm138.1 zm138.2.1 0 zc138 = true := sorry
theorem zoy138 : zokY zm138 = true := sorry
set_option maxRecDepth 20000 in
theorem zow138 : Cond.code zm138.1 zm138.2.1 zm138.2.2.1 zm138.2.2.2.1 ∈ zTw := sorry
theorem zok139 : zokC zm139.1 zm139.2.1 0 zc139 = true := sorry
theorem zoy139 : zokY zm139 = true := sorry
set_option maxRecDepth 20000 in
theorem zow139 : Cond.code zm139.1 zm139.2.1 zm139.2.2.1 zm139.2.2.2.1 ∈ zTw := sorry
theorem zok141 : zokC zm141.1 zm141.2.1 0 zc141 = true := sorry
theorem zoy141 : zokY zm141 = true := sorry
set_option maxRecDepth 20000 in
theorem zow141 : Cond.code zm141.1 zm141.2.1 zm141.2.2.1 zm141.2.2.2.1 ∈ zTw := sorry
theorem zok142 : zokC zm142.1 zm142.2.1 0 zc142 = true := sorry
theorem zoy142 : zokY zm142 = true := sorry
set_option maxRecDepth 20000 in
theorem zow142 : Cond.code zm142.1 zm142.2.1 zm142.2.2.1 zm142.2.2.2.1 ∈ zTw := sorry
theorem zok143 : zokC zm143.1 zm143.2.1 0 zc143 = true := sorry
theorem zoy143 : zokY zm143 = true := sorry
set_option maxRecDepth 20000 in
theorem zow143 : Cond.code zm143.1 zm143.2.1 zm143.2.2.1 zm143.2.2.2.1 ∈ zTw := sorry
theorem zok144 : zokC zm144.1 zm144.2.1 0 zc144 = true := sorry
theorem zoy144 : zokY zm144 = true := sorry
set_option maxRecDepth 20000 in
theorem zow144 : Cond.code zm144.1 zm144.2.1 zm144.2.2.1 zm144.2.2.2.1 ∈ zTw := sorry
theorem zok145 : zokC zm145.1 zm145.2.1 0 zc145 = true := sorry
theorem zoy145 : zokY zm145 = true := sorry
set_option maxRecDepth 20000 in
theorem zow145 : Cond.code zm145.1 zm145.2.1 zm145.2.2.1 zm145.2.2.2.1 ∈ zTw := sorry
theorem zok146 : zokC zm146.1 zm146.2.1 0 zc146 = true := sorry
theorem zoy146 : zokY zm146 = true := sorry
set_option maxRecDepth 20000 in
theorem zow146 : Cond.code zm146.1 zm146.2.1 zm146.2.2.1 zm146.2.2.2.1 ∈ zTw := sorry
theorem zok147 : zokC zm147.1 zm147.2.1 0 zc147 = true := sorry
theorem zoy147 : zokY zm147 = true := sorry
set_option maxRecDepth 20000 in
theorem zow147 : Cond.code zm147.1 zm147.2.1 zm147.2.2.1 zm147.2.2.2.1 ∈ zTw := sorry
theorem zok148 : zokC zm148.1 zm148.2.1 0 zc148 = true := sorry
theorem zoy148 : zokY zm148 = true := sorry
set_option maxRecDepth 20000 in
theorem zow148 : Cond.code zm148.1 zm148.2.1 zm148.2.2.1 zm148.2.2.2.1 ∈ zTw := sorry
theorem zok149 : zokC zm149.1 zm149.2.1 0 zc149 = true := sorry
theorem zoy149 : zokY zm149 = true := sorry
set_option maxRecDepth 20000 in
theorem zow149 : Cond.code zm149.1 zm149.2.1 zm149.2.2.1 zm149.2.2.2.1 ∈ zTw := sorry
theorem zok150 : zokC zm150.1 zm150.2.1 0 zc150 = true := sorry
theorem zoy150 : zokY zm150 = true := sorry
set_option maxRecDepth 20000 in
theorem zow150 : Cond.code zm150.1 zm150.2.1 zm150.2.2.1 zm150.2.2.2.1 ∈ zTw := sorry
theorem zok152 : zokC zm152.1 zm152.2.1 0 zc152 = true := sorry
theorem zoy152 : zokY zm152 = true := sorry
set_option maxRecDepth 20000 in
theorem zow152 : Cond.code zm152.1 zm152.2.1 zm152.2.2.1 zm152.2.2.2.1 ∈ zTw := sorry
theorem zok153 : zokC zm153.1 zm153.2.1 0 zc153 = true := sorry
theorem zoy153 : zokY zm153 = true := sorry
set_option maxRecDepth 20000 in
theorem zow153 : Cond.code zm153.1 zm153.2.1 zm153.2.2.1 zm153.2.2.2.1 ∈ zTw := sorry
theorem zok154 : zokC zm154.1 zm154.2.1 0 zc154 = true := sorry
theorem zoy154 : zokY zm154 = true := sorry
set_option maxRecDepth 20000 in
theorem zow154 : Cond.code zm154.1 zm154.2.1 zm154.2.2.1 zm154.2.2.2.1 ∈ zTw := sorry
theorem zok155 : zokC zm155.1 zm155.2.1 0 zc155 = true := sorry
theorem zoy155 : zokY zm155 = true := sorry
set_option maxRecDepth 20000 in
theorem zow155 : Cond.code zm155.1 zm155.2.1 zm155.2.2.1 zm155.2.2.2.1 ∈ zTw := sorry
theorem zok156 : zokC zm156.1 zm156.2.1 0 zc156 = true := sorry
theorem zoy156 : zokY zm156 = true := sorry
set_option maxRecDepth 20000 in
theorem zow156 : Cond.code zm156.1 zm156.2.1 zm156.2.2.1 zm156.2.2.2.1 ∈ zTw := sorry
theorem zok157 : zokC zm157.1 zm157.2.1 0 zc157 = true := sorry
theorem zoy157 : zokY zm157 = true := sorry
set_option maxRecDepth 20000 in
theorem zow157 : Cond.code zm157.1 zm157.2.1 zm157.2.2.1 zm157.2.2.2.1 ∈ zTw := sorry
theorem zok158 : zokC zm158.1 zm158.2.1 0 zc158 = true := sorry
theorem zoy158 : zokY zm158 = true := sorry
set_option maxRecDepth 20000 in
theorem zow158 : Cond.code zm158.1 zm158.2.1 zm158.2.2.1 zm158.2.2.2.1 ∈ zTw := sorry
theorem zok160 : zokC zm160.1 zm160.2.1 0 zc160 = true := sorry
theorem zoy160 : zokY zm160 = true := sorry
set_option maxRecDepth 20000 in
theorem zow160 : Cond.code zm160.1 zm160.2.1 zm160.2.2.1 zm160.2.2.2.1 ∈ zTw := sorry
theorem zok161 : zokC zm161.1 zm161.2.1 0 zc161 = true := sorry
theorem zoy161 : zokY zm161 = true := sorry
set_option maxRecDepth 20000 in
theorem zow161 : Cond.code zm161.1 zm161.2.1 zm161.2.2.1 zm161.2.2.2.1 ∈ zTw := sorry
theorem zok162 : zokC zm162.1 zm162.2.1 0 zc162 = true := sorry
theorem zoy162 : zokY zm162 = true := sorry
set_option maxRecDepth 20000 in
theorem zow162 : Cond.code zm162.1 zm162.2.1 zm162.2.2.1 zm162.2.2.2.1 ∈ zTw := sorry
theorem zok163 : zokC zm163.1 zm163.2.1 0 zc163 = true := sorry
theorem zoy163 : zokY zm163 = true := sorry
set_option maxRecDepth 20000 in
theorem zow163 : Cond.code zm163.1 zm163.2.1 zm163.2.2.1 zm163.2.2.2.1 ∈ zTw := sorry
theorem zok164 : zokC zm164.1 zm164.2.1 0 zc164 = true := sorry
theorem zoy164 : zokY zm164 = true := sorry
set_option maxRecDepth 20000 in
theorem zow164 : Cond.code zm164.1 zm164.2.1 zm164.2.2.1 zm164.2.2.2.1 ∈ zTw := sorry
theorem zok166 : zokC zm166.1 zm166.2.1 0 zc166 = true := sorry
theorem zoy166 : zokY zm166 = true := sorry
set_option maxRecDepth 20000 in
theorem zow166 : Cond.code zm166.1 zm166.2.1 zm166.2.2.1 zm166.2.2.2.1 ∈ zTw := sorry
theorem zok167 : zokC zm167.1 zm167.2.1 0 zc167 = true := sorry
theorem zoy167 : zokY zm167 = true := sorry
set_option maxRecDepth 20000 in
theorem zow167 : Cond.code zm167.1 zm167.2.1 zm167.2.2.1 zm167.2.2.2.1 ∈ zTw := sorry
theorem zok194 : zokC zm194.1 zm194.2.1 0 zc194 = true := sorry
theorem zoy194 : zokY zm194 = true := sorry
set_option maxRecDepth 20000 in
theorem zow194 : Cond.code zm194.1 zm194.2.1 zm194.2.2.1 zm194.2.2.2.1 ∈ zTw := sorry
theorem zok195 : zokC zm195.1 zm195.2.1 0 zc195 = true := sorry
theorem zoy195 : zokY zm195 = true := sorry
set_option maxRecDepth 20000 in
theorem zow195 : Cond.code zm195.1 zm195.2.1 zm195.2.2.1 zm195.2.2.2.1 ∈ zTw := sorry
theorem zok196 : zokC zm196.1 zm196.2.1 0 zc196 = true := sorry
theorem zoy196 : zokY zm196 = true := sorry
set_option maxRecDepth 20000 in
theorem zow196 : Cond.code zm196.1 zm196.2.1 zm196.2.2.1 zm196.2.2.2.1 ∈ zTw := sorry
theorem zok197 : zokC zm197.1 zm197.2.1 0 zc197 = true := sorry
theorem zoy197 : zokY zm197 = true := sorry
set_option maxRecDepth 20000 in
theorem zow197 : Cond.code zm197.1 zm197.2.1 zm197.2.2.1 zm197.2.2.2.1 ∈ zTw := sorry
theorem zok198 : zokC zm198.1 zm198.2.1 0 zc198 = true := sorry
theorem zoy198 : zokY zm198 = true := sorry
set_option maxRecDepth 20000 in
theorem zow198 : Cond.code zm198.1 zm198.2.1 zm198.2.2.1 zm198.2.2.2.1 ∈ zTw := sorry
theorem zok204 : zokC zm204.1 zm204.2.1 0 zc204 = true := sorry
theorem zoy204 : zokY zm204 = true := sorry
set_option maxRecDepth 20000 in
theorem zow204 : Cond.code zm204.1 zm204.2.1 zm204.2.2.1 zm204.2.2.2.1 ∈ zTw := sorry
theorem zok205 : zokC zm205.1 zm205.2.1 0 zc205 = true := sorry
theorem zoy205 : zokY zm205 = true := sorry
set_option maxRecDepth 20000 in
theorem zow205 : Cond.code zm205.1 zm205.2.1 zm205.2.2.1 zm205.2.2.2.1 ∈ zTw := sorry
theorem zok206 : zokC zm206.1 zm206.2.1 0 zc206 = true := sorry
theorem zoy206 : zokY zm206 = true := sorry
set_option maxRecDepth 20000 in
theorem zow206 : Cond.code zm206.1 zm206.2.1 zm206.2.2.1 zm206.2.2.2.1 ∈ zTw := sorry
theorem zok207 : zokC zm207.1 zm207.2.1 0 zc207 = true := sorry
theorem zoy207 : zokY zm207 = true := sorry
set_option maxRecDepth 20000 in
theorem zow207 : Cond.code zm207.1 zm207.2.1 zm207.2.2.1 zm207.2.2.2.1 ∈ zTw := sorry
theorem zok217 : zokC zm217.1 zm217.2.1 0 zc217 = true := sorry
theorem zoy217 : zokY zm217 = true := sorry
set_option maxRecDepth 20000 in
theorem zow217 : Cond.code zm217.1 zm217.2.1 zm217.2.2.1 zm217.2.2.2.1 ∈ zTw := sorry
theorem zok218 : zokC zm218.1 zm218.2.1 0 zc218 = true := sorry
theorem zoy218 : zokY zm218 = true := sorry
set_option maxRecDepth 20000 in
theorem zow218 : Cond.code zm218.1 zm218.2.1 zm218.2.2.1 zm218.2.2.2.1 ∈ zTw := sorry
theorem zok219 : zokC zm219.1 zm219.2.1 0 zc219 = true := sorry
theorem zoy219 : zokY zm219 = true := sorry
set_option maxRecDepth 20000 in
theorem zow219 : Cond.code zm219.1 zm219.2.1 zm219.2.2.1 zm219.2.2.2.1 ∈ zTw := sorry
theorem zok221 : zokC zm221.1 zm221.2.1 0 zc221 = true := sorry
theorem zoy221 : zokY zm221 = true := sorry
set_option maxRecDepth 20000 in
theorem zow221 : Cond.code zm221.1 zm221.2.1 zm221.2.2.1 zm221.2.2.2.1 ∈ zTw := sorry
theorem zok226 : zokC zm226.1 zm226.2.1 0 zc226 = true := sorry
theorem zoy226 : zokY zm226 = true := sorry
set_option maxRecDepth 20000 in
theorem zow226 : Cond.code zm226.1 zm226.2.1 zm226.2.2.1 zm226.2.2.2.1 ∈ zTw := sorry
theorem zok227 : zokC zm227.1 zm227.2.1 0 zc227 = true := sorry
theorem zoy227 : zokY zm227 = true := sorry
set_option maxRecDepth 20000 in
theorem zow227 : Cond.code zm227.1 zm227.2.1 zm227.2.2.1 zm227.2.2.2.1 ∈ zTw := sorry
theorem zok228 : zokC zm228.1 zm228.2.1 0 zc228 = true := sorry
theorem zoy228 : zokY zm228 = true := sorry
set_option maxRecDepth 20000 in
theorem zow228 : Cond.code zm228.1 zm228.2.1 zm228.2.2.1 zm228.2.2.2.1 ∈ zTw := sorry
theorem zok230 : zokC zm230.1 zm230.2.1 0 zc230 = true := sorry
theorem zoy230 : zokY zm230 = true := sorry
set_option maxRecDepth 20000 in
theorem zow230 : Cond.code zm230.1 zm230.2.1 zm230.2.2.1 zm230.2.2.2.1 ∈ zTw := sorry
theorem zok232 : zokC zm232.1 zm232.2.1 0 zc232 = true := sorry
theorem zoy232 : zokY zm232 = true := sorry
set_option maxRecDepth 20000 in
theorem zow232 : Cond.code zm232.1 zm232.2.1 zm232.2.2.1 zm232.2.2.2.1 ∈ zTw := sorry
theorem zok234 : zokC zm234.1 zm234.2.1 0 zc234 = true := sorry
theorem zoy234 : zokY zm234 = true := sorry
set_option maxRecDepth 20000 in
theorem zow234 : Cond.code zm234.1 zm234.2.1 zm234.2.2.1 zm234.2.2.2.1 ∈ zTw := sorry
theorem zok242 : zokC zm242.1 zm242.2.1 0 zc242 = true := sorry
theorem zoy242 : zokY zm242 = true := sorry
set_option maxRecDepth 20000 in
theorem zow242 : Cond.code zm242.1 zm242.2.1 zm242.2.2.1 zm242.2.2.2.1 ∈ zTw := sorry
theorem zok248 : zokC zm248.1 zm248.2.1 0 zc248 = true := sorry
theorem zoy248 : zokY zm248 = true := sorry
set_option maxRecDepth 20000 in
theorem zow248 : Cond.code zm248.1 zm248.2.1 zm248.2.2.1 zm248.2.2.2.1 ∈ zTw := sorry
theorem zok252 : zokC zm252.1 zm252.2.1 0 zc252 = true := sorry
theorem zoy252 : zokY zm252 = true := sorry
set_option maxRecDepth 20000 in
theorem zow252 : Cond.code zm252.1 zm252.2.1 zm252.2.2.1 zm252.2.2.2.1 ∈ zTw := sorry
theorem zok257 : zokC zm257.1 zm257.2.1 0 zc257 = true := sorry
theorem zoy257 : zokY zm257 = true := sorry
set_option maxRecDepth 20000 in
theorem zow257 : Cond.code zm257.1 zm257.2.1 zm257.2.2.1 zm257.2.2.2.1 ∈ zTw := sorry
theorem zok258 : zokC zm258.1 zm258.2.1 0 zc258 = true := sorry
theorem zoy258 : zokY zm258 = true := sorry
set_option maxRecDepth 20000 in
theorem zow258 : Cond.code zm258.1 zm258.2.1 zm258.2.2.1 zm258.2.2.2.1 ∈ zTw := sorry
theorem zok261 : zokC zm261.1 zm261.2.1 0 zc261 = true := sorry
theorem zoy261 : zokY zm261 = true := sorry
set_option maxRecDepth 20000 in
theorem zow261 : Cond.code zm261.1 zm261.2.1 zm261.2.2.1 zm261.2.2.2.1 ∈ zTw := sorry
theorem zok262 : zokC zm262.1 zm262.2.1 0 zc262 = true := sorry
theorem zoy262 : zokY zm262 = true := sorry
set_option maxRecDepth 20000 in
theorem zow262 : Cond.code zm262.1 zm262.2.1 zm262.2.2.1 zm262.2.2.2.1 ∈ zTw := sorry
theorem zok264 : zokC zm264.1 zm264.2.1 0 zc264 = true := sorry
theorem zoy264 : zokY zm264 = true := sorry
set_option maxRecDepth 20000 in
theorem zow264 : Cond.code zm264.1 zm264.2.1 zm264.2.2.1 zm264.2.2.2.1 ∈ zTw := sorry
theorem zok265 : zokC zm265.1 zm265.2.1 0 zc265 = true := sorry
theorem zoy265 : zokY zm265 = true := sorry
set_option maxRecDepth 20000 in
theorem zow265 : Cond.code zm265.1 zm265.2.1 zm265.2.2.1 zm265.2.2.2.1 ∈ zTw := sorry
theorem zok267 : zokC zm267.1 zm267.2.1 0 zc267 = true := sorry
theorem zoy267 : zokY zm267 = true := sorry
set_option maxRecDepth 20000 in
theorem zow267 : Cond.code zm267.1 zm267.2.1 zm267.2.2.1 zm267.2.2.2.1 ∈ zTw := sorry
theorem zok269 : zokC zm269.1 zm269.2.1 0 zc269 = true := sorry
theorem zoy269 : zokY zm269 = true := sorry
set_option maxRecDepth 20000 in
theorem zow269 : Cond.code zm269.1 zm269.2.1 zm269.2.2.1 zm269.2.2.2.1 ∈ zTw := sorry
theorem zok272 : zokC zm272.1 zm272.2.1 0 zc272 = true := sorry
theorem zoy272 : zokY zm272 = true := sorry
set_option maxRecDepth 20000 in
theorem zow272 : Cond.code zm272.1 zm272.2.1 zm272.2.2.1 zm272.2.2.2.1 ∈ zTw := sorry
theorem zok273 : zokC zm273.1 zm273.2.1 0 zc273 = true := sorry
theorem zoy273 : zokY zm273 = true := sorry
set_option maxRecDepth 20000 in
theorem zow273 : Cond.code zm273.1 zm273.2.1 zm273.2.2.1 zm273.2.2.2.1 ∈ zTw := sorry
theorem zok276 : zokC zm276.1 zm276.2.1 0 zc276 = true := sorry
theorem zoy276 : zokY zm276 = true := sorry
set_option maxRecDepth 20000 in
theorem zow276 : Cond.code zm276.1 zm276.2.1 zm276.2.2.1 zm276.2.2.2.1 ∈ zTw := sorry
theorem zok277 : zokC zm277.1 zm277.2.1 0 zc277 = true := sorry
theorem zoy277 : zokY zm277 = true := sorry
set_option maxRecDepth 20000 in
theorem zow277 : Cond.code zm277.1 zm277.2.1 zm277.2.2.1 zm277.2.2.2.1 ∈ zTw := sorry
theorem zok278 : zokC zm278.1 zm278.2.1 0 zc278 = true := sorry
theorem zoy278 : zokY zm278 = true := sorry
set_option maxRecDepth 20000 in
theorem zow278 : Cond.code zm278.1 zm278.2.1 zm278.2.2.1 zm278.2.2.2.1 ∈ zTw := sorry
theorem zok279 : zokC zm279.1 zm279.2.1 0 zc279 = true := sorry
theorem zoy279 : zokY zm279 = true := sorry
set_option maxRecDepth 20000 in
theorem zow279 : Cond.code zm279.1 zm279.2.1 zm279.2.2.1 zm279.2.2.2.1 ∈ zTw := sorry
theorem zok281 : zokC zm281.1 zm281.2.1 0 zc281 = true := sorry
theorem zoy281 : zokY zm281 = true := sorry
set_option maxRecDepth 20000 in
theorem zow281 : Cond.code zm281.1 zm281.2.1 zm281.2.2.1 zm281.2.2.2.1 ∈ zTw := sorry
theorem zok282 : zokC zm282.1 zm282.2.1 0 zc282 = true := sorry
theorem zoy282 : zokY zm282 = true := sorry
set_option maxRecDepth 20000 in
theorem zow282 : Cond.code zm282.1 zm282.2.1 zm282.2.2.1 zm282.2.2.2.1 ∈ zTw := sorry
theorem zok283 : zokC zm283.1 zm283.2.1 0 zc283 = true := sorry
theorem zoy283 : zokY zm283 = true := sorry
set_option maxRecDepth 20000 in
theorem zow283 : Cond.code zm283.1 zm283.2.1 zm283.2.2.1 zm283.2.2.2.1 ∈ zTw := sorry
theorem zok284 : zokC zm284.1 zm284.2.1 0 zc284 = true := sorry
theorem zoy284 : zokY zm284 = true := sorry
set_option maxRecDepth 20000 in
theorem zow284 : Cond.code zm284.1 zm284.2.1 zm284.2.2.1 zm284.2.2.2.1 ∈ zTw := sorry
theorem zok285 : zokC zm285.1 zm285.2.1 0 zc285 = true := sorry
theorem zoy285 : zokY zm285 = true := sorry
set_option maxRecDepth 20000 in
theorem zow285 : Cond.code zm285.1 zm285.2.1 zm285.2.2.1 zm285.2.2.2.1 ∈ zTw := sorry
theorem zok286 : zokC zm286.1 zm286.2.1 0 zc286 = true := sorry
theorem zoy286 : zokY zm286 = true := sorry
set_option maxRecDepth 20000 in
theorem zow286 : Cond.code zm286.1 zm286.2.1 zm286.2.2.1 zm286.2.2.2.1 ∈ zTw := sorry
theorem zok293 : zokC zm293.1 zm293.2.1 0 zc293 = true := sorry
theorem zoy293 : zokY zm293 = true := sorry
set_option maxRecDepth 20000 in
theorem zow293 : Cond.code zm293.1 zm293.2.1 zm293.2.2.1 zm293.2.2.2.1 ∈ zTw := sorry
def zPmd (mi : zMi) (md : Nat × Option FieldType × List (Option zEn)) : Prop := md.1 = mi.2.2.1 ∧ md.2.1 = mi.2.2.2.1 ∧ zokC mi.1 mi.2.1 0 md.2.2 = true
theorem zg2_n {l1 : List (Option zMi)} {l2 : zMs} (h1 : ∀ (k : Nat) (md : Nat × Option FieldType × List (Option zEn)), zg l2 k = some md → ∃ mi, zg l1 k = some mi ∧ zPmd mi md) : ∀ (k : Nat) (md : Nat × Option FieldType × List (Option zEn)), zg (none :: l2) k = some md → ∃ mi, zg (none :: l1) k = some mi ∧ zPmd mi md
  | 0, _, h => by cases h
  | k + 1, md, h => h1 k md h
theorem zg2_c {mi : zMi} {cd : List (Option zEn)} {l1 : List (Option zMi)} {l2 : zMs} (h0 : zokC mi.1 mi.2.1 0 cd = true) (h1 : ∀ (k : Nat) (md : Nat × Option FieldType × List (Option zEn)), zg l2 k = some md → ∃ mi, zg l1 k = some mi ∧ zPmd mi md) : ∀ (k : Nat) (md : Nat × Option FieldType × List (Option zEn)), zg (some (mi.2.2.1, mi.2.2.2.1, cd) :: l2) k = some md → ∃ mi2, zg (some mi :: l1) k = some mi2 ∧ zPmd mi2 md
  | 0, _, h => by cases h; exact ⟨mi, rfl, rfl, rfl, h0⟩
  | k + 1, md, h => h1 k md h
theorem zg2_e : ∀ (k : Nat) (md : Nat × Option FieldType × List (Option zEn)), zg ([] : zMs) k = some md → ∃ mi, zg ([] : List (Option zMi)) k = some mi ∧ zPmd mi md := fun _ _ h => by cases h
def zPy (mi : zMi) : Prop := zokY mi = true ∧ Cond.code mi.1 mi.2.1 mi.2.2.1 mi.2.2.2.1 ∈ zTw
theorem zg1_n {l1 : List (Option zMi)} (h1 : ∀ (k : Nat) (mi : zMi), zg l1 k = some mi → zPy mi) : ∀ (k : Nat) (mi : zMi), zg (none :: l1) k = some mi → zPy mi
  | 0, _, h => by cases h
  | k + 1, mi, h => h1 k mi h
theorem zg1_c {m0 : zMi} {l1 : List (Option zMi)} (h0 : zPy m0) (h1 : ∀ (k : Nat) (mi : zMi), zg l1 k = some mi → zPy mi) : ∀ (k : Nat) (mi : zMi), zg (some m0 :: l1) k = some mi → zPy mi
  | 0, _, h => by cases h; exact h0
  | k + 1, mi, h => h1 k mi h
theorem zg1_e : ∀ (k : Nat) (mi : zMi), zg ([] : List (Option zMi)) k = some mi → zPy mi := fun _ _ h => by cases h
set_option maxRecDepth 20000 in
theorem zt_all : ∀ (k : Nat) (md : Nat × Option FieldType × List (Option zEn)), zg zms k = some md → ∃ mi, zg zml k = some mi ∧ zPmd mi md := (zg2_c zok0 (zg2_n (zg2_n (zg2_n (zg2_n (zg2_n (zg2_n (zg2_n (zg2_n (zg2_n (zg2_c zok10 (zg2_n (zg2_n (zg2_c zok13 (zg2_c zok14 (zg2_n (zg2_n (zg2_n (zg2_c zok18 (zg2_n (zg2_n (zg2_n (zg2_n (zg2_n (zg2_n (zg2_n (zg2_n (zg2_n (zg2_n (zg2_n (zg2_n (zg2_n (zg2_c zok32 (zg2_c zok33 (zg2_c zok34 (zg2_n (zg2_n (zg2_n (zg2_n (zg2_n (zg2_n (zg2_n (zg2_n (zg2_n (zg2_n (zg2_n (zg2_n (zg2_n (zg2_n (zg2_c zok49 (zg2_c zok50 (zg2_c zok51 (zg2_c zok52 (zg2_c zok53 (zg2_n (zg2_n (zg2_n (zg2_n (zg2_n (zg2_c zok59 (zg2_c zok60 (zg2_c zok61 (zg2_c zok62 (zg2_c zok63 (zg2_n (zg2_n (zg2_n (zg2_c zok67 (zg2_c zok68 (zg2_n (zg2_n (zg2_n (zg2_n (zg2_n (zg2_n (zg2_n (zg2_c zok76 (zg2_c zok77 (zg2_c zok78 (zg2_c zok79 (zg2_c zok80 (zg2_c zok81 (zg2_c zok82 (zg2_c zok83 (zg2_c zok84 (zg2_c zok85 (zg2_c zok86 (zg2_n (zg2_n (zg2_n (zg2_n (zg2_n (zg2_n (zg2_n (zg2_n (zg2_n (zg2_c zok96 (zg2_n (zg2_n (zg2_n (zg2_n (zg2_n (zg2_n (zg2_n (zg2_n (zg2_n (zg2_n (zg2_n (zg2_n (zg2_n (zg2_c zok110 (zg2_n (zg2_n (zg2_n (zg2_n (zg2_c zok115 (zg2_c zok116 (zg2_c zok117 (zg2_n (zg2_n (zg2_n (zg2_c zok121 (zg2_c zok122 (zg2_c zok123 (zg2_c zok124 (zg2_c zok125 (zg2_c zok126 (zg2_c zok127 (zg2_c zok128 (zg2_c zok129 (zg2_c zok130 (zg2_c zok131 (zg2_c zok132 (zg2_c zok133 (zg2_c zok134 (zg2_c zok135 (zg2_c zok136 (zg2_c zok137 (zg2_c zok138 (zg2_c zok139 (zg2_n (zg2_c zok141 (zg2_c zok142 (zg2_c zok143 (zg2_c zok144 (zg2_c zok145 (zg2_c zok146 (zg2_c zok147 (zg2_c zok148 (zg2_c zok149 (zg2_c zok150 (zg2_n (zg2_c zok152 (zg2_c zok153 (zg2_c zok154 (zg2_c zok155 (zg2_c zok156 (zg2_c zok157 (zg2_c zok158 (zg2_n (zg2_c zok160 (zg2_c zok161 (zg2_c zok162 (zg2_c zok163 (zg2_c zok164 (zg2_n (zg2_c zok166 (zg2_c zok167 (zg2_n (zg2_n (zg2_n (zg2_n (zg2_n (zg2_n (zg2_n (zg2_n (zg2_n (zg2_n (zg2_n (zg2_n (zg2_n (zg2_n (zg2_n (zg2_n (zg2_n (zg2_n (zg2_n (zg2_n (zg2_n (zg2_n (zg2_n (zg2_n (zg2_n (zg2_n (zg2_c zok194 (zg2_c zok195 (zg2_c zok196 (zg2_c zok197 (zg2_c zok198 (zg2_n (zg2_n (zg2_n (zg2_n (zg2_n (zg2_c zok204 (zg2_c zok205 (zg2_c zok206 (zg2_c zok207 (zg2_n (zg2_n (zg2_n (zg2_n (zg2_n (zg2_n (zg2_n (zg2_n (zg2_n (zg2_c zok217 (zg2_c zok218 (zg2_c zok219 (zg2_n (zg2_c zok221 (zg2_n (zg2_n (zg2_n (zg2_n (zg2_c zok226 (zg2_c zok227 (zg2_c zok228 (zg2_n (zg2_c zok230 (zg2_n (zg2_c zok232 (zg2_n (zg2_c zok234 (zg2_n (zg2_n (zg2_n (zg2_n (zg2_n (zg2_n (zg2_n (zg2_c zok242 (zg2_n (zg2_n (zg2_n (zg2_n (zg2_n (zg2_c zok248 (zg2_n (zg2_n (zg2_n (zg2_c zok252 (zg2_n (zg2_n (zg2_n (zg2_n (zg2_c zok257 (zg2_c zok258 (zg2_n (zg2_n (zg2_c zok261 (zg2_c zok262 (zg2_n (zg2_c zok264 (zg2_c zok265 (zg2_n (zg2_c zok267 (zg2_n (zg2_c zok269 (zg2_n (zg2_n (zg2_c zok272 (zg2_c zok273 (zg2_n (zg2_n (zg2_c zok276 (zg2_c zok277 (zg2_c zok278 (zg2_c zok279 (zg2_n (zg2_c zok281 (zg2_c zok282 (zg2_c zok283 (zg2_c zok284 (zg2_c zok285 (zg2_c zok286 (zg2_n (zg2_n (zg2_n (zg2_n (zg2_n (zg2_n (zg2_c zok293 zg2_e))))))))))))))))))))))))))))))))))))))))))))))))))))))))))))))))))))))))))))))))))))))))))))))))))))))))))))))))))))))))))))))))))))))))))))))))))))))))))))))))))))))))))))))))))))))))))))))))))))))))))))))))))))))))))))))))))))))))))))))))))))))))))))))))))))))))))))))))))))))))))))))))))))))
set_option maxRecDepth 20000 in
theorem zy_all : ∀ (k : Nat) (mi : zMi), zg zml k = some mi → zPy mi := (zg1_c ⟨zoy0, zow0⟩ (zg1_n (zg1_n (zg1_n (zg1_n (zg1_n (zg1_n (zg1_n (zg1_n (zg1_n (zg1_c ⟨zoy10, zow10⟩ (zg1_n (zg1_n (zg1_c ⟨zoy13, zow13⟩ (zg1_c ⟨zoy14, zow14⟩ (zg1_n (zg1_n (zg1_n (zg1_c ⟨zoy18, zow18⟩ (zg1_n (zg1_n (zg1_n (zg1_n (zg1_n (zg1_n (zg1_n (zg1_n (zg1_n (zg1_n (zg1_n (zg1_n (zg1_n (zg1_c ⟨zoy32, zow32⟩ (zg1_c ⟨zoy33, zow33⟩ (zg1_c ⟨zoy34, zow34⟩ (zg1_n (zg1_n (zg1_n (zg1_n (zg1_n (zg1_n (zg1_n (zg1_n (zg1_n (zg1_n (zg1_n (zg1_n (zg1_n (zg1_n (zg1_c ⟨zoy49, zow49⟩ (zg1_c ⟨zoy50, zow50⟩ (zg1_c ⟨zoy51, zow51⟩ (zg1_c ⟨zoy52, zow52⟩ (zg1_c ⟨zoy53, zow53⟩ (zg1_n (zg1_n (zg1_n (zg1_n (zg1_n (zg1_c ⟨zoy59, zow59⟩ (zg1_c ⟨zoy60, zow60⟩ (zg1_c ⟨zoy61, zow61⟩ (zg1_c ⟨zoy62, zow62⟩ (zg1_c ⟨zoy63, zow63⟩ (zg1_n (zg1_n (zg1_n (zg1_c ⟨zoy67, zow67⟩ (zg1_c ⟨zoy68, zow68⟩ (zg1_n (zg1_n (zg1_n (zg1_n (zg1_n (zg1_n (zg1_n (zg1_c ⟨zoy76, zow76⟩ (zg1_c ⟨zoy77, zow77⟩ (zg1_c ⟨zoy78, zow78⟩ (zg1_c ⟨zoy79, zow79⟩ (zg1_c ⟨zoy80, zow80⟩ (zg1_c ⟨zoy81, zow81⟩ (zg1_c ⟨zoy82, zow82⟩ (zg1_c ⟨zoy83, zow83⟩ (zg1_c ⟨zoy84, zow84⟩ (zg1_c ⟨zoy85, zow85⟩ (zg1_c ⟨zoy86, zow86⟩ (zg1_n (zg1_n (zg1_n (zg1_n (zg1_n (zg1_n (zg1_n (zg1_n (zg1_n (zg1_c ⟨zoy96, zow96⟩ (zg1_n (zg1_n (zg1_n (zg1_n (zg1_n (zg1_n (zg1_n (zg1_n (zg1_n (zg1_n (zg1_n (zg1_n (zg1_n (zg1_c ⟨zoy110, zow110⟩ (zg1_n (zg1_n (zg1_n (zg1_n (zg1_c ⟨zoy115, zow115⟩ (zg1_c ⟨zoy116, zow116⟩ (zg1_c ⟨zoy117, zow117⟩ (zg1_n (zg1_n (zg1_n (zg1_c ⟨zoy121, zow121⟩ (zg1_c ⟨zoy122, zow122⟩ (zg1_c ⟨zoy123, zow123⟩ (zg1_c ⟨zoy124, zow124⟩ (zg1_c ⟨zoy125, zow125⟩ (zg1_c ⟨zoy126, zow126⟩ (zg1_c ⟨zoy127, zow127⟩ (zg1_c ⟨zoy128, zow128⟩ (zg1_c ⟨zoy129, zow129⟩ (zg1_c ⟨zoy130, zow130⟩ (zg1_c ⟨zoy131, zow131⟩ (zg1_c ⟨zoy132, zow132⟩ (zg1_c ⟨zoy133, zow133⟩ (zg1_c ⟨zoy134, zow134⟩ (zg1_c ⟨zoy135, zow135⟩ (zg1_c ⟨zoy136, zow136⟩ (zg1_c ⟨zoy137, zow137⟩ (zg1_c ⟨zoy138, zow138⟩ (zg1_c ⟨zoy139, zow139⟩ (zg1_n (zg1_c ⟨zoy141, zow141⟩ (zg1_c ⟨zoy142, zow142⟩ (zg1_c ⟨zoy143, zow143⟩ (zg1_c ⟨zoy144, zow144⟩ (zg1_c ⟨zoy145, zow145⟩ (zg1_c ⟨zoy146, zow146⟩ (zg1_c ⟨zoy147, zow147⟩ (zg1_c ⟨zoy148, zow148⟩ (zg1_c ⟨zoy149, zow149⟩ (zg1_c ⟨zoy150, zow150⟩ (zg1_n (zg1_c ⟨zoy152, zow152⟩ (zg1_c ⟨zoy153, zow153⟩ (zg1_c ⟨zoy154, zow154⟩ (zg1_c ⟨zoy155, zow155⟩ (zg1_c ⟨zoy156, zow156⟩ (zg1_c ⟨zoy157, zow157⟩ (zg1_c ⟨zoy158, zow158⟩ (zg1_n (zg1_c ⟨zoy160, zow160⟩ (zg1_c ⟨zoy161, zow161⟩ (zg1_c ⟨zoy162, zow162⟩ (zg1_c ⟨zoy163, zow163⟩ (zg1_c ⟨zoy164, zow164⟩ (zg1_n (zg1_c ⟨zoy166, zow166⟩ (zg1_c ⟨zoy167, zow167⟩ (zg1_n (zg1_n (zg1_n (zg1_n (zg1_n (zg1_n (zg1_n (zg1_n (zg1_n (zg1_n (zg1_n (zg1_n (zg1_n (zg1_n (zg1_n (zg1_n (zg1_n (zg1_n (zg1_n (zg1_n (zg1_n (zg1_n (zg1_n (zg1_n (zg1_n (zg1_n (zg1_c ⟨zoy194, zow194⟩ (zg1_c ⟨zoy195, zow195⟩ (zg1_c ⟨zoy196, zow196⟩ (zg1_c ⟨zoy197, zow197⟩ (zg1_c ⟨zoy198, zow198⟩ (zg1_n (zg1_n (zg1_n (zg1_n (zg1_n (zg1_c ⟨zoy204, zow204⟩ (zg1_c ⟨zoy205, zow205⟩ (zg1_c ⟨zoy206, zow206⟩ (zg1_c ⟨zoy207, zow207⟩ (zg1_n (zg1_n (zg1_n (zg1_n (zg1_n (zg1_n (zg1_n (zg1_n (zg1_n (zg1_c ⟨zoy217, zow217⟩ (zg1_c ⟨zoy218, zow218⟩ (zg1_c ⟨zoy219, zow219⟩ (zg1_n (zg1_c ⟨zoy221, zow221⟩ (zg1_n (zg1_n (zg1_n (zg1_n (zg1_c ⟨zoy226, zow226⟩ (zg1_c ⟨zoy227, zow227⟩ (zg1_c ⟨zoy228, zow228⟩ (zg1_n (zg1_c ⟨zoy230, zow230⟩ (zg1_n (zg1_c ⟨zoy232, zow232⟩ (zg1_n (zg1_c ⟨zoy234, zow234⟩ (zg1_n (zg1_n (zg1_n (zg1_n (zg1_n (zg1_n (zg1_n (zg1_c ⟨zoy242, zow242⟩ (zg1_n (zg1_n (zg1_n (zg1_n (zg1_n (zg1_c ⟨zoy248, zow248⟩ (zg1_n (zg1_n (zg1_n (zg1_c ⟨zoy252, zow252⟩ (zg1_n (zg1_n (zg1_n (zg1_n (zg1_c ⟨zoy257, zow257⟩ (zg1_c ⟨zoy258, zow258⟩ (zg1_n (zg1_n (zg1_c ⟨zoy261, zow261⟩ (zg1_c ⟨zoy262, zow262⟩ (zg1_n (zg1_c ⟨zoy264, zow264⟩ (zg1_c ⟨zoy265, zow265⟩ (zg1_n (zg1_c ⟨zoy267, zow267⟩ (zg1_n (zg1_c ⟨zoy269, zow269⟩ (zg1_n (zg1_n (zg1_c ⟨zoy272, zow272⟩ (zg1_c ⟨zoy273, zow273⟩ (zg1_n (zg1_n (zg1_c ⟨zoy276, zow276⟩ (zg1_c ⟨zoy277, zow277⟩ (zg1_c ⟨zoy278, zow278⟩ (zg1_c ⟨zoy279, zow279⟩ (zg1_n (zg1_c ⟨zoy281, zow281⟩ (zg1_c ⟨zoy282, zow282⟩ (zg1_c ⟨zoy283, zow283⟩ (zg1_c ⟨zoy284, zow284⟩ (zg1_c ⟨zoy285, zow285⟩ (zg1_c ⟨zoy286, zow286⟩ (zg1_n (zg1_n (zg1_n (zg1_n (zg1_n (zg1_n (zg1_c ⟨zoy293, zow293⟩ zg1_e))))))))))))))))))))))))))))))))))))))))))))))))))))))))))))))))))))))))))))))))))))))))))))))))))))))))))))))))))))))))))))))))))))))))))))))))))))))))))))))))))))))))))))))))))))))))))))))))))))))))))))))))))))))))))))))))))))))))))))))))))))))))))))))))))))))))))))))))))))))))))))))))))))))
