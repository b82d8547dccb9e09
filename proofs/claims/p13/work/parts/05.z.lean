section
def zPmd (mi : zMi) (md : Nat × Option FieldType × List (Option zEn)) : Prop := md.1 = mi.2.2.1 ∧ md.2.1 = mi.2.2.2.1 ∧ zokC mi.1 mi.2.1 0 md.2.2 = true
theorem zg2_n {l1 : List (Option zMi)} {l2 : zMs} (h1 : ∀ (k : Nat) (md : Nat × Option FieldType × List (Option zEn)), zg l2 k = some md → ∃ mi, zg l1 k = some mi ∧ zPmd mi md) : ∀ (k : Nat) (md : Nat × Option FieldType × List (Option zEn)), zg (none :: l2) k = some md → ∃ mi, zg (none :: l1) k = some mi ∧ zPmd mi md
  | 0, _, h => by cases h
  | k + 1, md, h => h1 k md h
theorem zg2_c {mi : zMi} {cd : List (Option zEn)} {l1 : List (Option zMi)} {l2 : zMs} (h0 : zokC mi.1 mi.2.1 0 cd = true) (h1 : ∀ (k : Nat) (md : Nat × Option FieldType × List (Option zEn)), zg l2 k = some md → ∃ mi, zg l1 k = some mi ∧ zPmd mi md) : ∀ (k : Nat) (md : Nat × Option FieldType × List (Option zEn)), zg (some (mi.2.2.1, mi.2.2.2.1, cd) :: l2) k = some md → ∃ mi2, zg (some mi :: l1) k = some mi2 ∧ zPmd mi2 md
  | 0, _, h => by cases h; exact ⟨mi, rfl, rfl, rfl, h0⟩
  | k + 1, md, h => h1 k md h
theorem zg2_e : ∀ (k : Nat) (md : Nat × Option FieldType × List (Option zEn)), zg ([] : zMs) k = some md → ∃ mi, zg ([] : List (Option zMi)) k = some mi ∧ zPmd mi md := fun _ _ h => by cases h
def zPy (mi : zMi) : Prop := zokY mi = true ∧ Cond.code mi.1 mi.2.1 mi.2.2.1 mi.2.2.2.1 ∈ zTw
theorem zg1_n {l1 : List (Option zMi)} (h1 : ∀ (k : Nat) (mi : zMi), zg l1 k = some mi → zPy mi) : ∀ (k : Nat) (mi : zMi), zg (none :: l1) k = some mi → zPy mi
  | 0, _, h => by cases h
  | k + 1, mi, h => h1 k mi h
theorem zg1_c {m0 : zMi} {l1 : List (Option zMi)} (h0 : zPy m0) (h1 : ∀ (k : Nat) (mi : zMi), zg l1 k = some mi → zPy mi) : ∀ (k : Nat) (mi : zMi), zg (some m0 :: l1) k = some mi → zPy mi
  | 0, _, h => by cases h; exact h0
  | k + 1, mi, h => h1 k mi h
theorem zg1_e : ∀ (k : Nat) (mi : zMi), zg ([] : List (Option zMi)) k = some mi → zPy mi := fun _ _ h => by cases h
set_option maxRecDepth 20000 in
theorem zt_all : ∀ (k : Nat) (md : Nat × Option FieldType × List (Option zEn)), zg zms k = some md → ∃ mi, zg zml k = some mi ∧ zPmd mi md := (zg2_c zok0 (zg2_c zok1 (zg2_c zok2 (zg2_c zok3 (zg2_c zok4 (zg2_c zok5 (zg2_c zok6 (zg2_c zok7 (zg2_c zok8 (zg2_c zok9 (zg2_c zok10 (zg2_c zok11 (zg2_c zok12 (zg2_c zok13 (zg2_c zok14 (zg2_c zok15 (zg2_c zok16 (zg2_c zok17 (zg2_c zok18 (zg2_c zok19 (zg2_c zok20 (zg2_c zok21 (zg2_c zok22 (zg2_c zok23 (zg2_c zok24 (zg2_c zok25 (zg2_c zok26 (zg2_c zok27 (zg2_c zok28 (zg2_c zok29 (zg2_c zok30 (zg2_c zok31 (zg2_c zok32 (zg2_c zok33 (zg2_c zok34 (zg2_c zok35 (zg2_c zok36 (zg2_c zok37 (zg2_c zok38 (zg2_c zok39 (zg2_c zok40 (zg2_c zok41 (zg2_c zok42 (zg2_c zok43 (zg2_c zok44 (zg2_c zok45 (zg2_c zok46 (zg2_c zok47 (zg2_c zok48 (zg2_c zok49 (zg2_c zok50 (zg2_c zok51 (zg2_c zok52 (zg2_c zok53 (zg2_c zok54 (zg2_c zok55 (zg2_c zok56 (zg2_c zok57 (zg2_c zok58 (zg2_c zok59 (zg2_c zok60 (zg2_c zok61 (zg2_c zok62 (zg2_c zok63 (zg2_c zok64 (zg2_c zok65 (zg2_c zok66 (zg2_c zok67 (zg2_c zok68 (zg2_c zok69 (zg2_c zok70 (zg2_c zok71 (zg2_c zok72 (zg2_c zok73 (zg2_c zok74 (zg2_c zok75 (zg2_c zok76 (zg2_c zok77 (zg2_c zok78 (zg2_c zok79 (zg2_c zok80 (zg2_c zok81 (zg2_c zok82 (zg2_c zok83 (zg2_c zok84 (zg2_c zok85 (zg2_c zok86 (zg2_c zok87 (zg2_c zok88 (zg2_c zok89 (zg2_c zok90 (zg2_c zok91 (zg2_c zok92 (zg2_c zok93 (zg2_c zok94 (zg2_c zok95 (zg2_c zok96 (zg2_c zok97 (zg2_c zok98 (zg2_c zok99 (zg2_c zok100 (zg2_c zok101 (zg2_c zok102 (zg2_c zok103 (zg2_c zok104 (zg2_c zok105 (zg2_c zok106 (zg2_c zok107 (zg2_c zok108 (zg2_c zok109 (zg2_c zok110 (zg2_c zok111 (zg2_c zok112 (zg2_c zok113 (zg2_c zok114 (zg2_c zok115 (zg2_c zok116 (zg2_c zok117 (zg2_c zok118 (zg2_c zok119 (zg2_c zok120 (zg2_c zok121 (zg2_c zok122 (zg2_c zok123 (zg2_c zok124 (zg2_c zok125 (zg2_c zok126 (zg2_c zok127 (zg2_c zok128 (zg2_c zok129 (zg2_c zok130 (zg2_c zok131 (zg2_c zok132 (zg2_c zok133 (zg2_c zok134 (zg2_c zok135 (zg2_c zok136 (zg2_c zok137 (zg2_c zok138 (zg2_c zok139 (zg2_c zok140 (zg2_c zok141 (zg2_c zok142 (zg2_c zok143 (zg2_c zok144 (zg2_c zok145 (zg2_c zok146 (zg2_c zok147 (zg2_c zok148 (zg2_c zok149 (zg2_c zok150 (zg2_c zok151 (zg2_c zok152 (zg2_c zok153 (zg2_c zok154 (zg2_c zok155 (zg2_c zok156 (zg2_c zok157 (zg2_c zok158 (zg2_c zok159 (zg2_c zok160 (zg2_c zok161 (zg2_c zok162 (zg2_c zok163 (zg2_c zok164 (zg2_c zok165 (zg2_c zok166 (zg2_c zok167 (zg2_c zok168 (zg2_c zok169 (zg2_c zok170 (zg2_c zok171 (zg2_c zok172 (zg2_c zok173 (zg2_c zok174 (zg2_c zok175 (zg2_c zok176 (zg2_c zok177 (zg2_c zok178 (zg2_c zok179 (zg2_c zok180 (zg2_c zok181 (zg2_c zok182 (zg2_c zok183 (zg2_c zok184 (zg2_c zok185 (zg2_c zok186 (zg2_c zok187 (zg2_c zok188 (zg2_c zok189 (zg2_c zok190 (zg2_c zok191 (zg2_c zok192 (zg2_c zok193 (zg2_c zok194 (zg2_c zok195 (zg2_c zok196 (zg2_c zok197 (zg2_c zok198 (zg2_c zok199 (zg2_c zok200 (zg2_c zok201 (zg2_c zok202 (zg2_c zok203 (zg2_c zok204 (zg2_c zok205 (zg2_c zok206 (zg2_c zok207 (zg2_c zok208 (zg2_c zok209 (zg2_c zok210 (zg2_c zok211 (zg2_c zok212 (zg2_c zok213 (zg2_c zok214 (zg2_c zok215 (zg2_c zok216 (zg2_c zok217 (zg2_c zok218 (zg2_c zok219 (zg2_c zok220 (zg2_c zok221 (zg2_c zok222 (zg2_c zok223 (zg2_c zok224 (zg2_c zok225 (zg2_c zok226 (zg2_c zok227 (zg2_c zok228 (zg2_c zok229 (zg2_c zok230 (zg2_c zok231 (zg2_c zok232 (zg2_c zok233 (zg2_c zok234 (zg2_c zok235 (zg2_c zok236 (zg2_c zok237 (zg2_c zok238 (zg2_c zok239 (zg2_c zok240 (zg2_c zok241 (zg2_c zok242 (zg2_c zok243 (zg2_c zok244 (zg2_c zok245 (zg2_c zok246 (zg2_c zok247 (zg2_c zok248 (zg2_c zok249 (zg2_c zok250 (zg2_c zok251 (zg2_c zok252 (zg2_c zok253 (zg2_c zok254 (zg2_c zok255 (zg2_c zok256 (zg2_c zok257 (zg2_c zok258 (zg2_c zok259 (zg2_c zok260 (zg2_c zok261 (zg2_c zok262 (zg2_c zok263 (zg2_c zok264 (zg2_c zok265 (zg2_c zok266 (zg2_c zok267 (zg2_c zok268 (zg2_c zok269 (zg2_c zok270 (zg2_c zok271 (zg2_c zok272 (zg2_c zok273 (zg2_c zok274 (zg2_c zok275 (zg2_c zok276 (zg2_c zok277 (zg2_c zok278 (zg2_c zok279 (zg2_c zok280 (zg2_c zok281 (zg2_c zok282 (zg2_c zok283 (zg2_c zok284 (zg2_c zok285 (zg2_c zok286 (zg2_c zok287 (zg2_c zok288 (zg2_c zok289 (zg2_c zok290 (zg2_c zok291 (zg2_c zok292 (zg2_c zok293 zg2_e))))))))))))))))))))))))))))))))))))))))))))))))))))))))))))))))))))))))))))))))))))))))))))))))))))))))))))))))))))))))))))))))))))))))))))))))))))))))))))))))))))))))))))))))))))))))))))))))))))))))))))))))))))))))))))))))))))))))))))))))))))))))))))))))))))))))))))))))))))))))))))))))))))))
set_option maxRecDepth 20000 in
theorem zy_all : ∀ (k : Nat) (mi : zMi), zg zml k = some mi → zPy mi := (zg1_c ⟨zoy0, zow0⟩ (zg1_c ⟨zoy1, zow1⟩ (zg1_c ⟨zoy2, zow2⟩ (zg1_c ⟨zoy3, zow3⟩ (zg1_c ⟨zoy4, zow4⟩ (zg1_c ⟨zoy5, zow5⟩ (zg1_c ⟨zoy6, zow6⟩ (zg1_c ⟨zoy7, zow7⟩ (zg1_c ⟨zoy8, zow8⟩ (zg1_c ⟨zoy9, zow9⟩ (zg1_c ⟨zoy10, zow10⟩ (zg1_c ⟨zoy11, zow11⟩ (zg1_c ⟨zoy12, zow12⟩ (zg1_c ⟨zoy13, zow13⟩ (zg1_c ⟨zoy14, zow14⟩ (zg1_c ⟨zoy15, zow15⟩ (zg1_c ⟨zoy16, zow16⟩ (zg1_c ⟨zoy17, zow17⟩ (zg1_c ⟨zoy18, zow18⟩ (zg1_c ⟨zoy19, zow19⟩ (zg1_c ⟨zoy20, zow20⟩ (zg1_c ⟨zoy21, zow21⟩ (zg1_c ⟨zoy22, zow22⟩ (zg1_c ⟨zoy23, zow23⟩ (zg1_c ⟨zoy24, zow24⟩ (zg1_c ⟨zoy25, zow25⟩ (zg1_c ⟨zoy26, zow26⟩ (zg1_c ⟨zoy27, zow27⟩ (zg1_c ⟨zoy28, zow28⟩ (zg1_c ⟨zoy29, zow29⟩ (zg1_c ⟨zoy30, zow30⟩ (zg1_c ⟨zoy31, zow31⟩ (zg1_c ⟨zoy32, zow32⟩ (zg1_c ⟨zoy33, zow33⟩ (zg1_c ⟨zoy34, zow34⟩ (zg1_c ⟨zoy35, zow35⟩ (zg1_c ⟨zoy36, zow36⟩ (zg1_c ⟨zoy37, zow37⟩ (zg1_c ⟨zoy38, zow38⟩ (zg1_c ⟨zoy39, zow39⟩ (zg1_c ⟨zoy40, zow40⟩ (zg1_c ⟨zoy41, zow41⟩ (zg1_c ⟨zoy42, zow42⟩ (zg1_c ⟨zoy43, zow43⟩ (zg1_c ⟨zoy44, zow44⟩ (zg1_c ⟨zoy45, zow45⟩ (zg1_c ⟨zoy46, zow46⟩ (zg1_c ⟨zoy47, zow47⟩ (zg1_c ⟨zoy48, zow48⟩ (zg1_c ⟨zoy49, zow49⟩ (zg1_c ⟨zoy50, zow50⟩ (zg1_c ⟨zoy51, zow51⟩ (zg1_c ⟨zoy52, zow52⟩ (zg1_c ⟨zoy53, zow53⟩ (zg1_c ⟨zoy54, zow54⟩ (zg1_c ⟨zoy55, zow55⟩ (zg1_c ⟨zoy56, zow56⟩ (zg1_c ⟨zoy57, zow57⟩ (zg1_c ⟨zoy58, zow58⟩ (zg1_c ⟨zoy59, zow59⟩ (zg1_c ⟨zoy60, zow60⟩ (zg1_c ⟨zoy61, zow61⟩ (zg1_c ⟨zoy62, zow62⟩ (zg1_c ⟨zoy63, zow63⟩ (zg1_c ⟨zoy64, zow64⟩ (zg1_c ⟨zoy65, zow65⟩ (zg1_c ⟨zoy66, zow66⟩ (zg1_c ⟨zoy67, zow67⟩ (zg1_c ⟨zoy68, zow68⟩ (zg1_c ⟨zoy69, zow69⟩ (zg1_c ⟨zoy70, zow70⟩ (zg1_c ⟨zoy71, zow71⟩ (zg1_c ⟨zoy72, zow72⟩ (zg1_c ⟨zoy73, zow73⟩ (zg1_c ⟨zoy74, zow74⟩ (zg1_c ⟨zoy75, zow75⟩ (zg1_c ⟨zoy76, zow76⟩ (zg1_c ⟨zoy77, zow77⟩ (zg1_c ⟨zoy78, zow78⟩ (zg1_c ⟨zoy79, zow79⟩ (zg1_c ⟨zoy80, zow80⟩ (zg1_c ⟨zoy81, zow81⟩ (zg1_c ⟨zoy82, zow82⟩ (zg1_c ⟨zoy83, zow83⟩ (zg1_c ⟨zoy84, zow84⟩ (zg1_c ⟨zoy85, zow85⟩ (zg1_c ⟨zoy86, zow86⟩ (zg1_c ⟨zoy87, zow87⟩ (zg1_c ⟨zoy88, zow88⟩ (zg1_c ⟨zoy89, zow89⟩ (zg1_c ⟨zoy90, zow90⟩ (zg1_c ⟨zoy91, zow91⟩ (zg1_c ⟨zoy92, zow92⟩ (zg1_c ⟨zoy93, zow93⟩ (zg1_c ⟨zoy94, zow94⟩ (zg1_c ⟨zoy95, zow95⟩ (zg1_c ⟨zoy96, zow96⟩ (zg1_c ⟨zoy97, zow97⟩ (zg1_c ⟨zoy98, zow98⟩ (zg1_c ⟨zoy99, zow99⟩ (zg1_c ⟨zoy100, zow100⟩ (zg1_c ⟨zoy101, zow101⟩ (zg1_c ⟨zoy102, zow102⟩ (zg1_c ⟨zoy103, zow103⟩ (zg1_c ⟨zoy104, zow104⟩ (zg1_c ⟨zoy105, zow105⟩ (zg1_c ⟨zoy106, zow106⟩ (zg1_c ⟨zoy107, zow107⟩ (zg1_c ⟨zoy108, zow108⟩ (zg1_c ⟨zoy109, zow109⟩ (zg1_c ⟨zoy110, zow110⟩ (zg1_c ⟨zoy111, zow111⟩ (zg1_c ⟨zoy112, zow112⟩ (zg1_c ⟨zoy113, zow113⟩ (zg1_c ⟨zoy114, zow114⟩ (zg1_c ⟨zoy115, zow115⟩ (zg1_c ⟨zoy116, zow116⟩ (zg1_c ⟨zoy117, zow117⟩ (zg1_c ⟨zoy118, zow118⟩ (zg1_c ⟨zoy119, zow119⟩ (zg1_c ⟨zoy120, zow120⟩ (zg1_c ⟨zoy121, zow121⟩ (zg1_c ⟨zoy122, zow122⟩ (zg1_c ⟨zoy123, zow123⟩ (zg1_c ⟨zoy124, zow124⟩ (zg1_c ⟨zoy125, zow125⟩ (zg1_c ⟨zoy126, zow126⟩ (zg1_c ⟨zoy127, zow127⟩ (zg1_c ⟨zoy128, zow128⟩ (zg1_c ⟨zoy129, zow129⟩ (zg1_c ⟨zoy130, zow130⟩ (zg1_c ⟨zoy131, zow131⟩ (zg1_c ⟨zoy132, zow132⟩ (zg1_c ⟨zoy133, zow133⟩ (zg1_c ⟨zoy134, zow134⟩ (zg1_c ⟨zoy135, zow135⟩ (zg1_c ⟨zoy136, zow136⟩ (zg1_c ⟨zoy137, zow137⟩ (zg1_c ⟨zoy138, zow138⟩ (zg1_c ⟨zoy139, zow139⟩ (zg1_c ⟨zoy140, zow140⟩ (zg1_c ⟨zoy141, zow141⟩ (zg1_c ⟨zoy142, zow142⟩ (zg1_c ⟨zoy143, zow143⟩ (zg1_c ⟨zoy144, zow144⟩ (zg1_c ⟨zoy145, zow145⟩ (zg1_c ⟨zoy146, zow146⟩ (zg1_c ⟨zoy147, zow147⟩ (zg1_c ⟨zoy148, zow148⟩ (zg1_c ⟨zoy149, zow149⟩ (zg1_c ⟨zoy150, zow150⟩ (zg1_c ⟨zoy151, zow151⟩ (zg1_c ⟨zoy152, zow152⟩ (zg1_c ⟨zoy153, zow153⟩ (zg1_c ⟨zoy154, zow154⟩ (zg1_c ⟨zoy155, zow155⟩ (zg1_c ⟨zoy156, zow156⟩ (zg1_c ⟨zoy157, zow157⟩ (zg1_c ⟨zoy158, zow158⟩ (zg1_c ⟨zoy159, zow159⟩ (zg1_c ⟨zoy160, zow160⟩ (zg1_c ⟨zoy161, zow161⟩ (zg1_c ⟨zoy162, zow162⟩ (zg1_c ⟨zoy163, zow163⟩ (zg1_c ⟨zoy164, zow164⟩ (zg1_c ⟨zoy165, zow165⟩ (zg1_c ⟨zoy166, zow166⟩ (zg1_c ⟨zoy167, zow167⟩ (zg1_c ⟨zoy168, zow168⟩ (zg1_c ⟨zoy169, zow169⟩ (zg1_c ⟨zoy170, zow170⟩ (zg1_c ⟨zoy171, zow171⟩ (zg1_c ⟨zoy172, zow172⟩ (zg1_c ⟨zoy173, zow173⟩ (zg1_c ⟨zoy174, zow174⟩ (zg1_c ⟨zoy175, zow175⟩ (zg1_c ⟨zoy176, zow176⟩ (zg1_c ⟨zoy177, zow177⟩ (zg1_c ⟨zoy178, zow178⟩ (zg1_c ⟨zoy179, zow179⟩ (zg1_c ⟨zoy180, zow180⟩ (zg1_c ⟨zoy181, zow181⟩ (zg1_c ⟨zoy182, zow182⟩ (zg1_c ⟨zoy183, zow183⟩ (zg1_c ⟨zoy184, zow184⟩ (zg1_c ⟨zoy185, zow185⟩ (zg1_c ⟨zoy186, zow186⟩ (zg1_c ⟨zoy187, zow187⟩ (zg1_c ⟨zoy188, zow188⟩ (zg1_c ⟨zoy189, zow189⟩ (zg1_c ⟨zoy190, zow190⟩ (zg1_c ⟨zoy191, zow191⟩ (zg1_c ⟨zoy192, zow192⟩ (zg1_c ⟨zoy193, zow193⟩ (zg1_c ⟨zoy194, zow194⟩ (zg1_c ⟨zoy195, zow195⟩ (zg1_c ⟨zoy196, zow196⟩ (zg1_c ⟨zoy197, zow197⟩ (zg1_c ⟨zoy198, zow198⟩ (zg1_c ⟨zoy199, zow199⟩ (zg1_c ⟨zoy200, zow200⟩ (zg1_c ⟨zoy201, zow201⟩ (zg1_c ⟨zoy202, zow202⟩ (zg1_c ⟨zoy203, zow203⟩ (zg1_c ⟨zoy204, zow204⟩ (zg1_c ⟨zoy205, zow205⟩ (zg1_c ⟨zoy206, zow206⟩ (zg1_c ⟨zoy207, zow207⟩ (zg1_c ⟨zoy208, zow208⟩ (zg1_c ⟨zoy209, zow209⟩ (zg1_c ⟨zoy210, zow210⟩ (zg1_c ⟨zoy211, zow211⟩ (zg1_c ⟨zoy212, zow212⟩ (zg1_c ⟨zoy213, zow213⟩ (zg1_c ⟨zoy214, zow214⟩ (zg1_c ⟨zoy215, zow215⟩ (zg1_c ⟨zoy216, zow216⟩ (zg1_c ⟨zoy217, zow217⟩ (zg1_c ⟨zoy218, zow218⟩ (zg1_c ⟨zoy219, zow219⟩ (zg1_c ⟨zoy220, zow220⟩ (zg1_c ⟨zoy221, zow221⟩ (zg1_c ⟨zoy222, zow222⟩ (zg1_c ⟨zoy223, zow223⟩ (zg1_c ⟨zoy224, zow224⟩ (zg1_c ⟨zoy225, zow225⟩ (zg1_c ⟨zoy226, zow226⟩ (zg1_c ⟨zoy227, zow227⟩ (zg1_c ⟨zoy228, zow228⟩ (zg1_c ⟨zoy229, zow229⟩ (zg1_c ⟨zoy230, zow230⟩ (zg1_c ⟨zoy231, zow231⟩ (zg1_c ⟨zoy232, zow232⟩ (zg1_c ⟨zoy233, zow233⟩ (zg1_c ⟨zoy234, zow234⟩ (zg1_c ⟨zoy235, zow235⟩ (zg1_c ⟨zoy236, zow236⟩ (zg1_c ⟨zoy237, zow237⟩ (zg1_c ⟨zoy238, zow238⟩ (zg1_c ⟨zoy239, zow239⟩ (zg1_c ⟨zoy240, zow240⟩ (zg1_c ⟨zoy241, zow241⟩ (zg1_c ⟨zoy242, zow242⟩ (zg1_c ⟨zoy243, zow243⟩ (zg1_c ⟨zoy244, zow244⟩ (zg1_c ⟨zoy245, zow245⟩ (zg1_c ⟨zoy246, zow246⟩ (zg1_c ⟨zoy247, zow247⟩ (zg1_c ⟨zoy248, zow248⟩ (zg1_c ⟨zoy249, zow249⟩ (zg1_c ⟨zoy250, zow250⟩ (zg1_c ⟨zoy251, zow251⟩ (zg1_c ⟨zoy252, zow252⟩ (zg1_c ⟨zoy253, zow253⟩ (zg1_c ⟨zoy254, zow254⟩ (zg1_c ⟨zoy255, zow255⟩ (zg1_c ⟨zoy256, zow256⟩ (zg1_c ⟨zoy257, zow257⟩ (zg1_c ⟨zoy258, zow258⟩ (zg1_c ⟨zoy259, zow259⟩ (zg1_c ⟨zoy260, zow260⟩ (zg1_c ⟨zoy261, zow261⟩ (zg1_c ⟨zoy262, zow262⟩ (zg1_c ⟨zoy263, zow263⟩ (zg1_c ⟨zoy264, zow264⟩ (zg1_c ⟨zoy265, zow265⟩ (zg1_c ⟨zoy266, zow266⟩ (zg1_c ⟨zoy267, zow267⟩ (zg1_c ⟨zoy268, zow268⟩ (zg1_c ⟨zoy269, zow269⟩ (zg1_c ⟨zoy270, zow270⟩ (zg1_c ⟨zoy271, zow271⟩ (zg1_c ⟨zoy272, zow272⟩ (zg1_c ⟨zoy273, zow273⟩ (zg1_c ⟨zoy274, zow274⟩ (zg1_c ⟨zoy275, zow275⟩ (zg1_c ⟨zoy276, zow276⟩ (zg1_c ⟨zoy277, zow277⟩ (zg1_c ⟨zoy278, zow278⟩ (zg1_c ⟨zoy279, zow279⟩ (zg1_c ⟨zoy280, zow280⟩ (zg1_c ⟨zoy281, zow281⟩ (zg1_c ⟨zoy282, zow282⟩ (zg1_c ⟨zoy283, zow283⟩ (zg1_c ⟨zoy284, zow284⟩ (zg1_c ⟨zoy285, zow285⟩ (zg1_c ⟨zoy286, zow286⟩ (zg1_c ⟨zoy287, zow287⟩ (zg1_c ⟨zoy288, zow288⟩ (zg1_c ⟨zoy289, zow289⟩ (zg1_c ⟨zoy290, zow290⟩ (zg1_c ⟨zoy291, zow291⟩ (zg1_c ⟨zoy292, zow292⟩ (zg1_c ⟨zoy293, zow293⟩ zg1_e))))))))))))))))))))))))))))))))))))))))))))))))))))))))))))))))))))))))))))))))))))))))))))))))))))))))))))))))))))))))))))))))))))))))))))))))))))))))))))))))))))))))))))))))))))))))))))))))))))))))))))))))))))))))))))))))))))))))))))))))))))))))))))))))))))))))))))))))))))))))))))))))))))))
end
section
/-! The world of ids against the machine's heap: ids below zSC lie in order from an address on. -/
/-- where our cells begin; addresses of what lies outside; the kinds of arrays; the tables' numbers of objects; the formatter -/
abbrev zWd : Type := Nat × (Nat → Nat) × (Nat → ClassId) × va_G × Option Nat
def zta (w : zWd) (i : Nat) : Nat := if i < zSC then w.1 + i else w.2.1 (i - zSC)
theorem zta_lo {w : zWd} {i : Nat} (h : i < zSC) : zta w i = w.1 + i := if_pos h
theorem zta_hi (w : zWd) {i : Nat} (h : ¬ i < zSC) : zta w i = w.2.1 (i - zSC) := if_neg h
def ztv (w : zWd) : Value → Value
  | .ref i => .ref (zta w i)
  | .retAddr _ => va_rf w.2.2.2.2
  | .int x => .int x
  | .long x => .long x
  | .float x => .float x
  | .double x => .double x
  | .null => .null
theorem ztv_cat (w : zWd) (v : Value) : (ztv w v).category = v.category := by
  cases v with
  | retAddr a => unfold ztv; cases w.2.2.2.2 <;> rfl
  | _ => rfl
def ztc (w : zWd) : zCl → va_E
  | .inl (t, n, .inl f) => .inl (w.2.2.1 t, n, .inl f)
  | .inl (t, n, .inr (.inl f)) => .inl (w.2.2.1 t, n, .inr (.inl f))
  | .inl (t, n, .inr (.inr (.inl f))) => .inl (w.2.2.1 t, n, .inr (.inr (.inl f)))
  | .inl (t, n, .inr (.inr (.inr (.inl f)))) => .inl (w.2.2.1 t, n, .inr (.inr (.inr (.inl f))))
  | .inl (t, n, .inr (.inr (.inr (.inr f)))) => .inl (w.2.2.1 t, n, .inr (.inr (.inr (.inr (fun j => (f j).map (zta w))))))
  | .inr (ci, fs) => .inr (ci, fs.map (ztv w))
theorem ztc_len (w : zWd) (t : Nat) (x : vp_A) : ∃ x2 : vp_A, ztc w (.inl (t, x)) = .inl (w.2.2.1 t, x2) ∧ x2.1 = x.1 := by
  obtain ⟨n, f⟩ := x
  rcases f with f | f | f | f | f <;> exact ⟨_, rfl, rfl⟩
def zA (w : zWd) : Nat → Prop := fun q => w.1 ≤ q
def zwl (w : zWd) (hp : zHp) : va_W := (List.range hp.1).map (fun i => (w.1 + i, ztc w (hp.2 i)))
def zHd (w : zWd) (hp : zHp) (H : Heap) : Prop := H.size = w.1 + hp.1 ∧ va_P w.2.2.2.1 zcls (zwl w hp) H
def zlm (w : zWd) (l : List (Nat × Value)) : List (Nat × Value) := l.map (fun q => (q.1, ztv w q.2))
theorem zwl_get {w : zWd} {hp : zHp} {i : Nat} (h : i < hp.1) : (zwl w hp)[i]? = some (w.1 + i, ztc w (hp.2 i)) := by
  unfold zwl
  rw [List.getElem?_map, List.getElem?_range h]
  rfl
theorem zwl_at {w : zWd} {hp : zHp} {k : Nat} {q : Nat × va_E} (h : (zwl w hp)[k]? = some q) : k < hp.1 ∧ q = (w.1 + k, ztc w (hp.2 k)) := by
  have hk : k < (zwl w hp).length := (List.getElem?_eq_some_iff.mp h).1
  have hk : k < hp.1 := by
    unfold zwl at hk
    rw [List.length_map, List.length_range] at hk
    exact hk
  rw [zwl_get hk] at h
  exact ⟨hk, (Option.some.inj h).symm⟩
theorem zwl_D (w : zWd) (hp : zHp) : va_D (zA w) (zwl w hp) := by
  refine ⟨fun i j p q hi hj hpq => ?_, fun k q hk => ?_⟩
  · have h1 := (zwl_at hi).2
    have h2 := (zwl_at hj).2
    rw [h1, h2] at hpq
    have h3 : w.1 + i = w.1 + j := hpq
    omega
  · rw [(zwl_at hk).2]
    exact Nat.le_add_right _ _
theorem zwl_set {w : zWd} {hp : zHp} {i : Nat} (c : zCl) (h : i < hp.1) : (zwl w hp).set i (w.1 + i, ztc w c) = zwl w (hp.1, zup hp.2 i c) := by
  apply List.ext_getElem?
  intro j
  by_cases hj : j < hp.1
  · rw [zwl_get (hp := (hp.1, zup hp.2 i c)) hj, List.getElem?_set]
    by_cases e : i = j
    · subst e
      rw [if_pos rfl, if_pos (by unfold zwl; simpa using h)]
      simp [zup]
    · rw [if_neg e, zwl_get hj]
      have e2 : ¬ j = i := fun q => e q.symm
      simp [zup, e2]
  · rw [List.getElem?_eq_none (by unfold zwl; simp; omega), List.getElem?_eq_none (by unfold zwl; simp; omega)]
theorem zwl_push {w : zWd} {hp : zHp} (c : zCl) : zwl w (hp.1 + 1, zup hp.2 hp.1 c) = zwl w hp ++ [(w.1 + hp.1, ztc w c)] := by
  unfold zwl
  rw [List.range_succ, List.map_append]
  congr 1
  · apply List.map_congr_left
    intro a ha
    have h2 : ¬ a = hp.1 := Nat.ne_of_lt (List.mem_range.mp ha)
    simp [zup, h2]
  · simp [zup]
theorem zHd_cell {w : zWd} {hp : zHp} {H : Heap} (h : zHd w hp H) {i : Nat} (hi : i < hp.1) : va_at w.2.2.2.1 zcls (w.1 + i, ztc w (hp.2 i)) H := h.2 i _ (zwl_get hi)
/-- one more cell -/
theorem zHd_push {w : zWd} {hp : zHp} {H H1 : Heap} {c : zCl} (h : zHd w hp H) (z : H1.size = H.size + 1) (o : ∀ q, q < H.size → H1[q]? = H[q]?) (hc : va_at w.2.2.2.1 zcls (H.size, ztc w c) H1) : zHd w (hp.1 + 1, zup hp.2 hp.1 c) H1 := by
  refine ⟨by rw [z, h.1]; show w.1 + hp.1 + 1 = w.1 + (hp.1 + 1); omega, ?_⟩
  rw [zwl_push]
  refine (h.2.kept (fun k q hk => ?_)).app (fun k q hk => ?_)
  · exact o _ ((h.2 k q hk).lt)
  · have hz : k < 1 := (List.getElem?_eq_some_iff.mp hk).1
    rw [show k = 0 by omega] at hk
    cases hk
    rw [← h.1]
    exact hc
theorem zld_mem : ∀ {l : List (Nat × Value)} {i : Nat} {v : Value}, zld l i = some v → (i, v) ∈ l
  | [], _, _, h => by cases h
  | q :: r, i, v, h => by
    unfold zld at h
    by_cases e : q.1 = i
    · rw [if_pos e] at h
      have e2 := Option.some.inj h
      rw [← e, ← e2]
      exact List.mem_cons_self
    · rw [if_neg e] at h
      exact List.mem_cons_of_mem _ (zld_mem h)
theorem zl_at {w : zWd} {ls : Array Slot} {nL i : Nat} {l : List (Nat × Value)} {v : Value} (h : lv_has ls nL (zlm w l)) (hv : zld l i = some v) : ls[i]? = some (.val (ztv w v)) := h.2.2 (i, ztv w v) (List.mem_map.mpr ⟨(i, v), zld_mem hv, rfl⟩)
theorem zlm_s1 (w : zWd) (l : List (Nat × Value)) (i : Nat) (v : Value) : (i, ztv w v) :: (zlm w l).filter (fun q => !(q.1 == i) && !(q.1 + 1 == i && q.2.category == 2)) = zlm w (zs1 l i v) := by
  unfold zlm zs1
  rw [List.map_cons, List.filter_map]
  congr 2
  apply List.filter_congr
  intro q _
  show (!(q.1 == i) && !(q.1 + 1 == i && (ztv w q.2).category == 2)) = _
  rw [ztv_cat]
theorem zlm_s2 (w : zWd) (l : List (Nat × Value)) (i : Nat) (v : Value) : (i, ztv w v) :: (zlm w l).filter (fun q => !(q.1 == i) && (!(q.1 == i + 1) && !(q.1 + 1 == i && q.2.category == 2))) = zlm w (zs2 l i v) := by
  unfold zlm zs2
  rw [List.map_cons, List.filter_map]
  congr 2
  apply List.filter_congr
  intro q _
  show (!(q.1 == i) && (!(q.1 == i + 1) && !(q.1 + 1 == i && (ztv w q.2).category == 2))) = _
  rw [ztv_cat]
theorem zlm_args (w : zWd) : ∀ (vs : List Value) (i : Nat), zlm w (lv_args i vs) = lv_args i (vs.map (ztv w))
  | [], _ => rfl
  | v :: vs, i => by
    show (i, ztv w v) :: zlm w (lv_args (if v.category = 2 then i + 2 else i + 1) vs) = (i, ztv w v) :: lv_args (if (ztv w v).category = 2 then i + 2 else i + 1) (vs.map (ztv w))
    rw [ztv_cat, zlm_args w vs]
theorem zmap_cat (w : zWd) (l : List Value) : ((l.map (ztv w)).map fun v => v.category) = l.map fun v => v.category := by
  rw [List.map_map]
  apply List.map_congr_left
  intro v _
  exact ztv_cat w v
/-- the kinds of arrays -/
def ztys (w : zWd) : List (ClassId × FieldType) := [(w.2.2.1 0, .int), (w.2.2.1 1, .byte), (w.2.2.1 2, .boolean), (w.2.2.1 3, .long), (w.2.2.1 4, .object "LentTools$Rule"), (w.2.2.1 5, .array .int)]
/-- rows of rows of ints can be made -/
def zAOA (U : State) : Prop := (Cond.arrayOver (.array .int)).before #[] U = true
/-- what holds of the tables, and of what lies outside our cells -/
def zSp (w : zWd) (ev : zEv) (U : State) (H : Heap) : Prop :=
  va_K w.2.2.2.1 zcls (ztys w) U ∧
  (∀ (j t n : Nat) (f : Nat → Int32), ztb ev j = some (t, n, f) → va_T (if t = 0 then .int else .byte) (w.2.1 j) n (fun i => .int (f i)) (zA w) U H) ∧
  (∀ j, j < 6 → va_O "java/lang/String" (w.2.1 (1 + j)) (zA w) U H ∧ va_OF "java/lang/String" "coder" "B" (.int 0) (w.2.1 (1 + j)) (zA w) U H ∧ va_OF "java/lang/String" "value" "[B" (.ref (w.2.1 (20 + j))) (w.2.1 (1 + j)) (zA w) U H) ∧
  (∀ q ∈ zstrs, vk_R q.1 q.2.1 q.2.2.1 (w.2.1 (1 + q.2.2.2)) U) ∧
  (∀ q ∈ znests, va_Nw (.methodLinkNest q.1 q.2.1 q.2.2 "LentTools") U) ∧
  (∀ a, a < 5 → va_Z (zsta a).1 (zsta a).2.1 (zsta a).2.2.1 (ztv w (zsta a).2.2.2) (zA w) U H) ∧
  va_AO "LentTools$Rule" U ∧ zAOA U ∧ va_Nw (.castable "[I" "java/lang/Cloneable") U
theorem zAOA.moved {u U : State} (hvm : u.vm.Alike U.vm) (h : zAOA u) : zAOA U := _root_.Jvm.Stand.arrayOver_alikeB hvm h
theorem ztb_none {ev : zEv} {j : Nat} {x : Nat × Nat × (Nat → Int32)} (h : ztb none j = some x) : ztb ev j = some x := by
  unfold ztb at h ⊢
  by_cases e : j = 0
  · rw [if_pos e] at h
    cases h
  · rw [if_neg e] at h ⊢
    exact h
theorem zSp.go {w : zWd} {ev : zEv} {s U : State} (h : zSp w ev s s.heap) (hW : s.WarmedH U.vm) (hk : ∀ a : Nat, a < s.heap.size → ¬ zA w a → U.heap[a]? = s.heap[a]?) : zSp w none U U.heap := by
  obtain ⟨h1, h2, h3, h4, h5, h6, h7, h8, h9⟩ := h
  exact ⟨va_K.moved hW.alike h1, fun j t n f hj => va_T.moved hW.alike ((h2 j t n f (ztb_none hj)).kept hk), fun j hj => ⟨va_O.moved hW.alike ((h3 j hj).1.kept hk), va_OF.moved hW.alike ((h3 j hj).2.1.kept hk), va_OF.moved hW.alike ((h3 j hj).2.2.kept hk)⟩, fun q hq => (h4 q hq).warm hW, fun q hq => va_Nw.warmM hW (h5 q hq), fun a ha => va_Z.moved hW.alike ((h6 a ha).kept hk), h7.moved hW.alike, zAOA.moved hW.alike h8, va_Nw.warmC hW h9⟩
theorem zSp.same {w : zWd} {ev : zEv} {U V : State} (hvm : V.vm = U.vm) (hh : V.heap = U.heap) (h : zSp w ev U U.heap) : zSp w ev V V.heap := by
  obtain ⟨h1, h2, h3, h4, h5, h6, h7, h8, h9⟩ := h
  have hA : U.vm.Alike V.vm := by rw [hvm]; exact Vm.Alike.refl U.vm
  rw [hh]
  exact ⟨va_K.moved hA h1, fun j t n f hj => va_T.moved hA (h2 j t n f hj), fun j hj => ⟨va_O.moved hA (h3 j hj).1, va_OF.moved hA (h3 j hj).2.1, va_OF.moved hA (h3 j hj).2.2⟩, fun q hq => (h4 q hq).same hvm, fun q hq => va_Nw.same rfl hvm.symm (h5 q hq), fun a ha => va_Z.moved hA (h6 a ha), h7.moved hA, zAOA.moved hA h8, va_Nw.same rfl hvm.symm h9⟩
end
section
/-! Each kind of instruction: a step of the interpreter is a step of the machine. -/
def zCx (w : zWd) (ev : zEv) (d : Nat) (y : MethodName) (cc : ByteArray) (nL : Nat) (rt : Option FieldType) (n0 nF : Nat) (p : Program) (R : Room) (s : State) (m : MethodId) (args : Array Value) (meth : Method) (c : Code) : Prop :=
  p.tables.exec = Jvm.exec ∧ c.code = cc ∧ c.maxLocals = nL ∧ meth.sig.returnType = rt ∧ s.vm.findClass y.cls = some m.cls ∧ (∀ q ∈ zTw, q.before args s = true) ∧ meth.locks = false ∧ (y.name = "<init>" → meth.name = "<init>") ∧ w.1 ≤ s.heap.size ∧ zSp w ev s s.heap ∧ d + 1 ≤ R.frames ∧ 60 * (d + 1) ≤ R.locals ∧ nF - n0 ≤ R.cells ∧ zSL * (nF - n0) ≤ R.slots
def zG (w : zWd) (nL n0 : Nat) (p : Program) (l : Launch) (e : Env) (R : Room) (s : State) (m : MethodId) (args : Array Value) (below : List Frame) (meth : Method) (c : Code) (Q : State → Prop) (fr : zFr) (hp : zHp) : Prop :=
  ∀ (H : Heap) (locs : List Loc) (ls : Array Slot), zHd w hp H → va_S (zA w) s.heap H locs → lv_has ls nL (zlm w fr.2.1) → W p l e R s m args below meth c H locs (hp.1 - n0) (zSL * (hp.1 - n0)) Q (F0 m fr.1 ls (fr.2.2.map (ztv w)))
section ZARM
variable {p : Program} {l : Launch} {e : Env} {R : Room} {s : State} {m : MethodId} {args : Array Value} {below : List Frame} {meth : Method} {c : Code} {Q : State → Prop} {w : zWd} {ev : zEv} {d : Nat} {y : MethodName} {cc : ByteArray} {nL : Nat} {rt : Option FieldType} {n0 nF : Nat} {fr fr' : zFr} {hp hp' : zHp}
theorem za_push {k : Nat} {v : Value} (h : zPush k v fr hp = some (.inl (fr', hp'))) (K : zG w nL n0 p l e R s m args below meth c Q fr' hp')
    (row : ∀ (H : Heap) (locs : List Loc) (cells slots : Nat) (ls : Array Slot) (rest : List Value), va_S (zA w) s.heap H locs → W p l e R s m args below meth c H locs cells slots Q (F0 m (fr.1 + k) ls (ztv w v :: rest)) → W p l e R s m args below meth c H locs cells slots Q (F0 m fr.1 ls rest)) : zG w nL n0 p l e R s m args below meth c Q fr hp := by
  unfold zPush zn at h
  cases h
  intro H locs ls hH hS hl
  exact row H locs _ _ ls _ hS (K H locs ls hH hS hl)
theorem za_loadI {k i : Nat} (h : zLoadI k i fr hp = some (.inl (fr', hp'))) (K : zG w nL n0 p l e R s m args below meth c Q fr' hp')
    (row : ∀ (H : Heap) (locs : List Loc) (cells slots : Nat) (ls : Array Slot) (rest : List Value) (x : Int32), ls[i]? = some (.val (.int x)) → W p l e R s m args below meth c H locs cells slots Q (F0 m (fr.1 + k) ls (.int x :: rest)) → W p l e R s m args below meth c H locs cells slots Q (F0 m fr.1 ls rest)) : zG w nL n0 p l e R s m args below meth c Q fr hp := by
  unfold zLoadI zn at h
  split at h
  · next x hx =>
    cases h
    intro H locs ls hH hS hl
    exact row H locs _ _ ls _ x (zl_at hl hx) (K H locs ls hH hS hl)
  · cases h
theorem za_loadL {k i : Nat} (h : zLoadL k i fr hp = some (.inl (fr', hp'))) (K : zG w nL n0 p l e R s m args below meth c Q fr' hp')
    (row : ∀ (H : Heap) (locs : List Loc) (cells slots : Nat) (ls : Array Slot) (rest : List Value) (x : Int64), ls[i]? = some (.val (.long x)) → W p l e R s m args below meth c H locs cells slots Q (F0 m (fr.1 + k) ls (.long x :: rest)) → W p l e R s m args below meth c H locs cells slots Q (F0 m fr.1 ls rest)) : zG w nL n0 p l e R s m args below meth c Q fr hp := by
  unfold zLoadL zn at h
  split at h
  · next x hx =>
    cases h
    intro H locs ls hH hS hl
    exact row H locs _ _ ls _ x (zl_at hl hx) (K H locs ls hH hS hl)
  · cases h
theorem za_loadA {k i : Nat} (h : zLoadA k i fr hp = some (.inl (fr', hp'))) (K : zG w nL n0 p l e R s m args below meth c Q fr' hp')
    (row : ∀ (H : Heap) (locs : List Loc) (cells slots : Nat) (ls : Array Slot) (rest : List Value) (x : Nat), ls[i]? = some (.val (.ref x)) → W p l e R s m args below meth c H locs cells slots Q (F0 m (fr.1 + k) ls (.ref x :: rest)) → W p l e R s m args below meth c H locs cells slots Q (F0 m fr.1 ls rest))
    (rowN : ∀ (H : Heap) (locs : List Loc) (cells slots : Nat) (ls : Array Slot) (rest : List Value), ls[i]? = some (.val .null) → W p l e R s m args below meth c H locs cells slots Q (F0 m (fr.1 + k) ls (.null :: rest)) → W p l e R s m args below meth c H locs cells slots Q (F0 m fr.1 ls rest)) : zG w nL n0 p l e R s m args below meth c Q fr hp := by
  unfold zLoadA zn at h
  split at h
  · next x hx =>
    cases h
    intro H locs ls hH hS hl
    exact row H locs _ _ ls _ _ (zl_at hl hx) (K H locs ls hH hS hl)
  · next hx =>
    cases h
    intro H locs ls hH hS hl
    exact rowN H locs _ _ ls _ (zl_at hl hx) (K H locs ls hH hS hl)
  · cases h
theorem za_stoI {k i : Nat} (h : zStoI k i nL fr hp = some (.inl (fr', hp'))) (K : zG w nL n0 p l e R s m args below meth c Q fr' hp')
    (row : ∀ (H : Heap) (locs : List Loc) (cells slots : Nat) (ls : Array Slot) (rest : List Value) (x : Int32) (lv lv' : List (Nat × Value)), lv_has ls nL lv → i < nL → (i, Value.int x) :: lv.filter (fun q => !(q.1 == i) && !(q.1 + 1 == i && q.2.category == 2)) = lv' → (∀ ls' : Array Slot, lv_has ls' nL lv' → W p l e R s m args below meth c H locs cells slots Q (F0 m (fr.1 + k) ls' rest)) → W p l e R s m args below meth c H locs cells slots Q (F0 m fr.1 ls (.int x :: rest))) : zG w nL n0 p l e R s m args below meth c Q fr hp := by
  unfold zStoI zn at h
  split at h
  · next x r hx =>
    split at h
    · next hi =>
      cases h
      intro H locs ls hH hS hl
      rw [hx]
      exact row H locs _ _ ls _ x _ _ hl hi (zlm_s1 w fr.2.1 i (.int x)) (fun ls' hl' => K H locs ls' hH hS hl')
    · cases h
  · cases h
theorem za_stoL {k i : Nat} (h : zStoL k i nL fr hp = some (.inl (fr', hp'))) (K : zG w nL n0 p l e R s m args below meth c Q fr' hp')
    (row : ∀ (H : Heap) (locs : List Loc) (cells slots : Nat) (ls : Array Slot) (rest : List Value) (x : Int64) (lv lv' : List (Nat × Value)), lv_has ls nL lv → i + 1 < nL → (i, Value.long x) :: lv.filter (fun q => !(q.1 == i) && (!(q.1 == i + 1) && !(q.1 + 1 == i && q.2.category == 2))) = lv' → (∀ ls' : Array Slot, lv_has ls' nL lv' → W p l e R s m args below meth c H locs cells slots Q (F0 m (fr.1 + k) ls' rest)) → W p l e R s m args below meth c H locs cells slots Q (F0 m fr.1 ls (.long x :: rest))) : zG w nL n0 p l e R s m args below meth c Q fr hp := by
  unfold zStoL zn at h
  split at h
  · next x r hx =>
    split at h
    · next hi =>
      cases h
      intro H locs ls hH hS hl
      rw [hx]
      exact row H locs _ _ ls _ x _ _ hl hi (zlm_s2 w fr.2.1 i (.long x)) (fun ls' hl' => K H locs ls' hH hS hl')
    · cases h
  · cases h
theorem za_stoA {k i : Nat} (h : zStoA k i nL fr hp = some (.inl (fr', hp'))) (K : zG w nL n0 p l e R s m args below meth c Q fr' hp')
    (row : ∀ (H : Heap) (locs : List Loc) (cells slots : Nat) (ls : Array Slot) (rest : List Value) (x : Nat) (lv lv' : List (Nat × Value)), lv_has ls nL lv → i < nL → (i, Value.ref x) :: lv.filter (fun q => !(q.1 == i) && !(q.1 + 1 == i && q.2.category == 2)) = lv' → (∀ ls' : Array Slot, lv_has ls' nL lv' → W p l e R s m args below meth c H locs cells slots Q (F0 m (fr.1 + k) ls' rest)) → W p l e R s m args below meth c H locs cells slots Q (F0 m fr.1 ls (.ref x :: rest)))
    (rowN : ∀ (H : Heap) (locs : List Loc) (cells slots : Nat) (ls : Array Slot) (rest : List Value) (lv lv' : List (Nat × Value)), lv_has ls nL lv → i < nL → (i, Value.null) :: lv.filter (fun q => !(q.1 == i) && !(q.1 + 1 == i && q.2.category == 2)) = lv' → (∀ ls' : Array Slot, lv_has ls' nL lv' → W p l e R s m args below meth c H locs cells slots Q (F0 m (fr.1 + k) ls' rest)) → W p l e R s m args below meth c H locs cells slots Q (F0 m fr.1 ls (.null :: rest))) : zG w nL n0 p l e R s m args below meth c Q fr hp := by
  unfold zStoA zn at h
  split at h
  · next x r hx =>
    split at h
    · next hi =>
      cases h
      intro H locs ls hH hS hl
      rw [hx]
      exact row H locs _ _ ls _ _ _ _ hl hi (zlm_s1 w fr.2.1 i (.ref x)) (fun ls' hl' => K H locs ls' hH hS hl')
    · cases h
  · next r hx =>
    split at h
    · next hi =>
      cases h
      intro H locs ls hH hS hl
      rw [hx]
      exact rowN H locs _ _ ls _ _ _ hl hi (zlm_s1 w fr.2.1 i .null) (fun ls' hl' => K H locs ls' hH hS hl')
    · cases h
  · cases h
theorem za_inc (C : zCx w ev d y cc nL rt n0 nF p R s m args meth c) {i : Nat} {n : Int} (hd : decode cc fr.1 = .ok (.iinc i n, 3)) (h : zInc i n nL fr hp = some (.inl (fr', hp'))) (K : zG w nL n0 p l e R s m args below meth c Q fr' hp') : zG w nL n0 p l e R s m args below meth c Q fr hp := by
  unfold zInc zn at h
  split at h
  · next x hx =>
    split at h
    · next hi =>
      cases h
      intro H locs ls hH hS hl
      obtain ⟨k, hk⟩ := List.getElem?_of_mem (List.mem_map.mpr ⟨(i, Value.int x), zld_mem hx, rfl⟩ : (i, ztv w (.int x)) ∈ zlm w fr.2.1)
      exact lv_iinc C.1 C.2.1 hd hl hk rfl hi (zlm_s1 w fr.2.1 i (.int (x + Int32.ofInt n))) (fun ls' hl' => K H locs ls' hH hS hl')
    · cases h
  · cases h
theorem za_bin {f : Int32 → Int32 → Int32} (h : zBin f fr hp = some (.inl (fr', hp'))) (K : zG w nL n0 p l e R s m args below meth c Q fr' hp')
    (row : ∀ (H : Heap) (locs : List Loc) (cells slots : Nat) (ls : Array Slot) (rest : List Value) (x y : Int32), W p l e R s m args below meth c H locs cells slots Q (F0 m (fr.1 + 1) ls (.int (f x y) :: rest)) → W p l e R s m args below meth c H locs cells slots Q (F0 m fr.1 ls (.int y :: .int x :: rest))) : zG w nL n0 p l e R s m args below meth c Q fr hp := by
  unfold zBin zn at h
  split at h
  · next y x r hx =>
    cases h
    intro H locs ls hH hS hl
    rw [hx]
    exact row H locs _ _ ls _ x y (K H locs ls hH hS hl)
  · cases h
theorem za_binD {f : Int32 → Int32 → Int32} (h : zBinD f fr hp = some (.inl (fr', hp'))) (K : zG w nL n0 p l e R s m args below meth c Q fr' hp')
    (row : ∀ (H : Heap) (locs : List Loc) (cells slots : Nat) (ls : Array Slot) (rest : List Value) (x y : Int32), ¬ y = 0 → W p l e R s m args below meth c H locs cells slots Q (F0 m (fr.1 + 1) ls (.int (f x y) :: rest)) → W p l e R s m args below meth c H locs cells slots Q (F0 m fr.1 ls (.int y :: .int x :: rest))) : zG w nL n0 p l e R s m args below meth c Q fr hp := by
  unfold zBinD zn at h
  split at h
  · next y x r hx =>
    split at h
    · cases h
    · next hy =>
      cases h
      intro H locs ls hH hS hl
      rw [hx]
      exact row H locs _ _ ls _ x y hy (K H locs ls hH hS hl)
  · cases h
theorem za_bnl {f : Int64 → Int64 → Int64} (h : zBnl f fr hp = some (.inl (fr', hp'))) (K : zG w nL n0 p l e R s m args below meth c Q fr' hp')
    (row : ∀ (H : Heap) (locs : List Loc) (cells slots : Nat) (ls : Array Slot) (rest : List Value) (x y : Int64), W p l e R s m args below meth c H locs cells slots Q (F0 m (fr.1 + 1) ls (.long (f x y) :: rest)) → W p l e R s m args below meth c H locs cells slots Q (F0 m fr.1 ls (.long y :: .long x :: rest))) : zG w nL n0 p l e R s m args below meth c Q fr hp := by
  unfold zBnl zn at h
  split at h
  · next y x r hx =>
    cases h
    intro H locs ls hH hS hl
    rw [hx]
    exact row H locs _ _ ls _ x y (K H locs ls hH hS hl)
  · cases h
theorem za_bnlD {f : Int64 → Int64 → Int64} (h : zBnlD f fr hp = some (.inl (fr', hp'))) (K : zG w nL n0 p l e R s m args below meth c Q fr' hp')
    (row : ∀ (H : Heap) (locs : List Loc) (cells slots : Nat) (ls : Array Slot) (rest : List Value) (x y : Int64), ¬ y = 0 → W p l e R s m args below meth c H locs cells slots Q (F0 m (fr.1 + 1) ls (.long (f x y) :: rest)) → W p l e R s m args below meth c H locs cells slots Q (F0 m fr.1 ls (.long y :: .long x :: rest))) : zG w nL n0 p l e R s m args below meth c Q fr hp := by
  unfold zBnlD zn at h
  split at h
  · next y x r hx =>
    split at h
    · cases h
    · next hy =>
      cases h
      intro H locs ls hH hS hl
      rw [hx]
      exact row H locs _ _ ls _ x y hy (K H locs ls hH hS hl)
  · cases h
theorem za_lshl (C : zCx w ev d y cc nL rt n0 nF p R s m args meth c) (hd : decode cc fr.1 = .ok (.lshl, 1)) (h : zLshl fr hp = some (.inl (fr', hp'))) (K : zG w nL n0 p l e R s m args below meth c Q fr' hp') : zG w nL n0 p l e R s m args below meth c Q fr hp := by
  unfold zLshl zn at h
  split at h
  · next y x r hx =>
    cases h
    intro H locs ls hH hS hl
    rw [hx]
    exact lv_lshl C.1 C.2.1 hd rfl (K H locs ls hH hS hl)
  · cases h
theorem za_lcmp (C : zCx w ev d y cc nL rt n0 nF p R s m args meth c) (hd : decode cc fr.1 = .ok (.lcmp, 1)) (h : zLcmp fr hp = some (.inl (fr', hp'))) (K : zG w nL n0 p l e R s m args below meth c Q fr' hp') : zG w nL n0 p l e R s m args below meth c Q fr hp := by
  unfold zLcmp zn at h
  split at h
  · next y x r hx =>
    cases h
    intro H locs ls hH hS hl
    rw [hx]
    exact W.lcmp C.1 C.2.1 hd (K H locs ls hH hS hl)
  · cases h
theorem za_un {f : Int32 → Value} (h : zUn f fr hp = some (.inl (fr', hp'))) (K : zG w nL n0 p l e R s m args below meth c Q fr' hp')
    (row : ∀ (H : Heap) (locs : List Loc) (cells slots : Nat) (ls : Array Slot) (rest : List Value) (x : Int32), W p l e R s m args below meth c H locs cells slots Q (F0 m (fr.1 + 1) ls (ztv w (f x) :: rest)) → W p l e R s m args below meth c H locs cells slots Q (F0 m fr.1 ls (.int x :: rest))) : zG w nL n0 p l e R s m args below meth c Q fr hp := by
  unfold zUn zn at h
  split at h
  · next x r hx =>
    cases h
    intro H locs ls hH hS hl
    rw [hx]
    exact row H locs _ _ ls _ x (K H locs ls hH hS hl)
  · cases h
theorem za_unl {f : Int64 → Value} (h : zUnl f fr hp = some (.inl (fr', hp'))) (K : zG w nL n0 p l e R s m args below meth c Q fr' hp')
    (row : ∀ (H : Heap) (locs : List Loc) (cells slots : Nat) (ls : Array Slot) (rest : List Value) (x : Int64), W p l e R s m args below meth c H locs cells slots Q (F0 m (fr.1 + 1) ls (ztv w (f x) :: rest)) → W p l e R s m args below meth c H locs cells slots Q (F0 m fr.1 ls (.long x :: rest))) : zG w nL n0 p l e R s m args below meth c Q fr hp := by
  unfold zUnl zn at h
  split at h
  · next x r hx =>
    cases h
    intro H locs ls hH hS hl
    rw [hx]
    exact row H locs _ _ ls _ x (K H locs ls hH hS hl)
  · cases h
theorem za_dup (C : zCx w ev d y cc nL rt n0 nF p R s m args meth c) (hd : decode cc fr.1 = .ok (.dup, 1)) (h : zDup fr hp = some (.inl (fr', hp'))) (K : zG w nL n0 p l e R s m args below meth c Q fr' hp') : zG w nL n0 p l e R s m args below meth c Q fr hp := by
  unfold zDup zn at h
  split at h
  · next v r hx =>
    split at h
    · next hv =>
      cases h
      intro H locs ls hH hS hl
      rw [hx]
      exact lv_dup C.1 C.2.1 hd ((ztv_cat w v).trans hv) (K H locs ls hH hS hl)
    · cases h
  · cases h
theorem za_dup2 (C : zCx w ev d y cc nL rt n0 nF p R s m args meth c) (hd : decode cc fr.1 = .ok (.dup2, 1)) (h : zDup2 fr hp = some (.inl (fr', hp'))) (K : zG w nL n0 p l e R s m args below meth c Q fr' hp') : zG w nL n0 p l e R s m args below meth c Q fr hp := by
  unfold zDup2 zn at h
  split at h
  · next v u r hx =>
    split at h
    · next hv =>
      cases h
      intro H locs ls hH hS hl
      rw [hx]
      exact lv_dup2_11 C.1 C.2.1 hd ((ztv_cat w v).trans hv.1) ((ztv_cat w u).trans hv.2) (K H locs ls hH hS hl)
    · cases h
  · cases h
theorem za_pop (C : zCx w ev d y cc nL rt n0 nF p R s m args meth c) (hd : decode cc fr.1 = .ok (.pop, 1)) (h : zPop fr hp = some (.inl (fr', hp'))) (K : zG w nL n0 p l e R s m args below meth c Q fr' hp') : zG w nL n0 p l e R s m args below meth c Q fr hp := by
  unfold zPop zn at h
  split at h
  · next v r hx =>
    split at h
    · next hv =>
      cases h
      intro H locs ls hH hS hl
      rw [hx]
      exact lv_pop C.1 C.2.1 hd ((ztv_cat w v).trans hv) (K H locs ls hH hS hl)
    · cases h
  · cases h
theorem za_if (C : zCx w ev d y cc nL rt n0 nF p R s m args meth c) {cd : _root_.Jvm.ClassFile.Cond} {off : Int} {a : Nat} (hd : decode cc fr.1 = .ok (.ifCond cd off, 3)) (ht : (fr.1 : Int) + off = (a : Int)) (h : zIf cd a fr hp = some (.inl (fr', hp'))) (K : zG w nL n0 p l e R s m args below meth c Q fr' hp') : zG w nL n0 p l e R s m args below meth c Q fr hp := by
  unfold zIf zn at h
  split at h
  · next x r hx =>
    cases h
    intro H locs ls hH hS hl
    rw [hx]
    have k1 : zcmp cd x 0 = true → W p l e R s m args below meth c H locs (hp.1 - n0) (zSL * (hp.1 - n0)) Q (F0 m a ls (r.map (ztv w))) := fun q => by
      have := K H locs ls hH hS hl
      rw [if_pos q] at this
      exact this
    have k2 : ¬ zcmp cd x 0 = true → W p l e R s m args below meth c H locs (hp.1 - n0) (zSL * (hp.1 - n0)) Q (F0 m (fr.1 + 3) ls (r.map (ztv w))) := fun q => by
      have := K H locs ls hH hS hl
      rw [if_neg q] at this
      exact this
    cases cd with
    | eq => exact lv_if_eq C.1 C.2.1 hd ht (fun q => k1 (decide_eq_true q)) (fun q => k2 (fun z => q (of_decide_eq_true z)))
    | ne => exact lv_if_ne C.1 C.2.1 hd ht (fun q => k1 (decide_eq_true q)) (fun q => k2 (fun z => of_decide_eq_true z q))
    | lt => exact lv_if_lt C.1 C.2.1 hd ht (fun q => k1 (decide_eq_true q)) (fun q => k2 (fun z => q (of_decide_eq_true z)))
    | ge => exact lv_if_ge C.1 C.2.1 hd ht (fun q => k1 (decide_eq_true q)) (fun q => k2 (fun z => q (of_decide_eq_true z)))
    | gt => exact lv_if_gt C.1 C.2.1 hd ht (fun q => k1 (decide_eq_true q)) (fun q => k2 (fun z => q (of_decide_eq_true z)))
    | le => exact lv_if_le C.1 C.2.1 hd ht (fun q => k1 (decide_eq_true q)) (fun q => k2 (fun z => q (of_decide_eq_true z)))
  · cases h
theorem za_ifc (C : zCx w ev d y cc nL rt n0 nF p R s m args meth c) {cd : _root_.Jvm.ClassFile.Cond} {off : Int} {a : Nat} (hd : decode cc fr.1 = .ok (.if_icmp cd off, 3)) (ht : (fr.1 : Int) + off = (a : Int)) (h : zIfc cd a fr hp = some (.inl (fr', hp'))) (K : zG w nL n0 p l e R s m args below meth c Q fr' hp') : zG w nL n0 p l e R s m args below meth c Q fr hp := by
  unfold zIfc zn at h
  split at h
  · next y x r hx =>
    cases h
    intro H locs ls hH hS hl
    rw [hx]
    have k1 : zcmp cd x y = true → W p l e R s m args below meth c H locs (hp.1 - n0) (zSL * (hp.1 - n0)) Q (F0 m a ls (r.map (ztv w))) := fun q => by
      have := K H locs ls hH hS hl
      rw [if_pos q] at this
      exact this
    have k2 : ¬ zcmp cd x y = true → W p l e R s m args below meth c H locs (hp.1 - n0) (zSL * (hp.1 - n0)) Q (F0 m (fr.1 + 3) ls (r.map (ztv w))) := fun q => by
      have := K H locs ls hH hS hl
      rw [if_neg q] at this
      exact this
    cases cd with
    | eq => exact lv_icmp_eq C.1 C.2.1 hd ht (fun q => k1 (decide_eq_true q)) (fun q => k2 (fun z => q (of_decide_eq_true z)))
    | ne => exact lv_icmp_ne C.1 C.2.1 hd ht (fun q => k1 (decide_eq_true q)) (fun q => k2 (fun z => of_decide_eq_true z q))
    | lt => exact lv_icmp_lt C.1 C.2.1 hd ht (fun q => k1 (decide_eq_true q)) (fun q => k2 (fun z => q (of_decide_eq_true z)))
    | ge => exact lv_icmp_ge C.1 C.2.1 hd ht (fun q => k1 (decide_eq_true q)) (fun q => k2 (fun z => q (of_decide_eq_true z)))
    | gt => exact lv_icmp_gt C.1 C.2.1 hd ht (fun q => k1 (decide_eq_true q)) (fun q => k2 (fun z => q (of_decide_eq_true z)))
    | le => exact lv_icmp_le C.1 C.2.1 hd ht (fun q => k1 (decide_eq_true q)) (fun q => k2 (fun z => q (of_decide_eq_true z)))
  · cases h
theorem za_goto (C : zCx w ev d y cc nL rt n0 nF p R s m args meth c) {off : Int} {a : Nat} (hd : decode cc fr.1 = .ok (.goto off, 3)) (ht : (fr.1 : Int) + off = (a : Int)) (h : zn a fr.2.1 fr.2.2 hp = some (.inl (fr', hp'))) (K : zG w nL n0 p l e R s m args below meth c Q fr' hp') : zG w nL n0 p l e R s m args below meth c Q fr hp := by
  unfold zn at h
  cases h
  intro H locs ls hH hS hl
  exact lv_goto C.1 C.2.1 hd ht (K H locs ls hH hS hl)
theorem za_nul (C : zCx w ev d y cc nL rt n0 nF p R s m args meth c) {off : Int} {a : Nat} (hd : decode cc fr.1 = .ok (.ifnull off, 3)) (ht : (fr.1 : Int) + off = (a : Int)) (h : zNul a fr hp = some (.inl (fr', hp'))) (K : zG w nL n0 p l e R s m args below meth c Q fr' hp') : zG w nL n0 p l e R s m args below meth c Q fr hp := by
  unfold zNul zn at h
  split at h
  · next i r hx =>
    cases h
    intro H locs ls hH hS hl
    rw [hx]
    exact lv_ifnull C.1 C.2.1 hd (K H locs ls hH hS hl)
  · next r hx =>
    cases h
    intro H locs ls hH hS hl
    rw [hx]
    exact lv_ifnullN C.1 C.2.1 hd ht (K H locs ls hH hS hl)
  · cases h
theorem za_nnl (C : zCx w ev d y cc nL rt n0 nF p R s m args meth c) {off : Int} {a : Nat} (hd : decode cc fr.1 = .ok (.ifnonnull off, 3)) (ht : (fr.1 : Int) + off = (a : Int)) (h : zNnl a fr hp = some (.inl (fr', hp'))) (K : zG w nL n0 p l e R s m args below meth c Q fr' hp') : zG w nL n0 p l e R s m args below meth c Q fr hp := by
  unfold zNnl zn at h
  split at h
  · next i r hx =>
    cases h
    intro H locs ls hH hS hl
    rw [hx]
    exact lv_ifnonnull C.1 C.2.1 hd ht (K H locs ls hH hS hl)
  · next r hx =>
    cases h
    intro H locs ls hH hS hl
    rw [hx]
    exact lv_ifnonnullN C.1 C.2.1 hd (K H locs ls hH hS hl)
  · cases h
theorem zu_jmp {off : Int} {lv : List (Nat × Value)} {r : List Value} {pc : Nat} {z : (zFr × zHp) ⊕ zRe} (h : zJmp off lv r pc hp = some z) : ∃ t : Nat, (pc : Int) + off = (t : Int) ∧ z = .inl ((t, lv, r), hp) := by
  unfold zJmp zn at h
  split at h
  · next q => exact ⟨_, q, (Option.some.inj h).symm⟩
  · cases h
theorem za_tab (C : zCx w ev d y cc nL rt n0 nF p R s m args meth c) {df lo hi : Int} {offs : Array Int} {len : Nat} (hd : decode cc fr.1 = .ok (.tableswitch df lo hi offs, len)) (h : zTab df lo hi offs fr hp = some (.inl (fr', hp'))) (K : zG w nL n0 p l e R s m args below meth c Q fr' hp') : zG w nL n0 p l e R s m args below meth c Q fr hp := by
  unfold zTab at h
  split at h
  · next x r hx =>
    split at h
    · next ho =>
      obtain ⟨t, ht, hz⟩ := zu_jmp h
      cases hz
      intro H locs ls hH hS hl
      rw [hx]
      exact lv_tableOut C.1 C.2.1 hd ho ht (K H locs ls hH hS hl)
    · next ho =>
      split at h
      · next off hoff =>
        obtain ⟨t, ht, hz⟩ := zu_jmp h
        cases hz
        intro H locs ls hH hS hl
        rw [hx]
        exact lv_tableIn C.1 C.2.1 hd (fun q => ho (Or.inl q)) (fun q => ho (Or.inr q)) hoff ht (K H locs ls hH hS hl)
      · cases h
  · cases h
theorem za_lkp (C : zCx w ev d y cc nL rt n0 nF p R s m args meth c) {df : Int} {ps : Array (Int × Int)} {len : Nat} (hd : decode cc fr.1 = .ok (.lookupswitch df ps, len)) (h : zLkp df ps fr hp = some (.inl (fr', hp'))) (K : zG w nL n0 p l e R s m args below meth c Q fr' hp') : zG w nL n0 p l e R s m args below meth c Q fr hp := by
  unfold zLkp at h
  split at h
  · next x r hx =>
    split at h
    · next ho =>
      obtain ⟨t, ht, hz⟩ := zu_jmp h
      cases hz
      intro H locs ls hH hS hl
      rw [hx]
      exact lv_lookup C.1 C.2.1 hd ho rfl ht (K H locs ls hH hS hl)
    · cases h
  · cases h
end ZARM
end
