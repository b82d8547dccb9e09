/-! Specs by specs. -/
def yFP : yM := [(0, 0, 8), (72, 72, 1000), (74, 75, 1000), (80, 80, 0), (80, 80, 2), (81, 81, 1000), (84, 84, 0), (84, 84, 2), (85, 85, 1000)]
/-- from some depth on the spec holds -/
def yTs (E : zHp → Prop) (sp : ySp) : Prop := ∃ d0 : Nat, ∀ d, d0 ≤ d → yTr E d sp
def yAl (E : zHp → Prop) (l : List ySp) : Prop := ∃ d0 : Nat, ∀ d, d0 ≤ d → ∀ sp ∈ l, yTr E d sp ∧ ywf sp.2.2.1 = true
theorem yal_n {E : zHp → Prop} : yAl E [] := ⟨0, fun _ _ sp h => by cases h⟩
theorem yal_c {E : zHp → Prop} {sp : ySp} {l : List ySp} (h : yTs E sp) (w : ywf sp.2.2.1 = true) (hl : yAl E l) : yAl E (sp :: l) := by
  obtain ⟨d1, h1⟩ := h
  obtain ⟨d2, h2⟩ := hl
  refine ⟨d1 + d2, fun d hd x hx => ?_⟩
  rcases List.mem_cons.mp hx with rfl | hx
  · exact ⟨h1 d (by omega), w⟩
  · exact h2 d (by omega) x hx
theorem yver_s {E : zHp → Prop} {k : Nat} {x : yCx} {P : yS} {f : Nat} (hE : yEF E x.2.2.1) (hs : yAl E x.1) (hm : zg zms k = some (x.2.2.2.1, x.2.2.2.2.1, x.2.2.2.2.2.1)) (h : yver x P f = true) : yTs E (k, x.2.2.2.1, P, x.2.2.2.2.2.2.2.1, x.2.1) := by
  obtain ⟨d0, hs⟩ := hs
  refine ⟨d0 + 1, fun d hd => ?_⟩
  obtain ⟨e, rfl⟩ : ∃ e, d = e + 1 := ⟨d - 1, by omega⟩
  exact yver_ok hE (hs e (by omega)) hm h
def ys0 : ySp := (220, 2, (0, [], [], [], [(0, (2, yc 70, yc 0))], []), [(0, [], [], [], [], [])], [(70, 70, 25), (81, 81, 1000)])
theorem yw0 : ywf ys0.2.2.1 = true := by decide +kernel
def ys1 : ySp := (221, 2, (0, [], [], [], [(0, (2, yc 70, yc 0))], []), [(1, [(0, (-2147483648), 2147483647)], [], [], [], [(0, (1, 0, 0), yc 0)])], [(70, 70, 25), (80, 80, 1000)])
theorem yw1 : ywf ys1.2.2.1 = true := by decide +kernel
def ys2 : ySp := (259, 2, (0, [], [], [], [(0, (2, yc 70, yc 0))], []), [(0, [], [], [], [], [])], [(84, 84, 1000)])
theorem yw2 : ywf ys2.2.2.1 = true := by decide +kernel
def ys3 : ySp := (260, 2, (0, [], [], [], [(0, (2, yc 70, yc 0))], []), [(0, [], [], [], [], [])], [(80, 80, 1000)])
theorem yw3 : ywf ys3.2.2.1 = true := by decide +kernel
def ys4 : ySp := (267, 3, (2, [(0, (-2147483648), 2147483647), (1, (-2147483648), 2147483647)], [], [], [(0, (2, yc 70, yc 0)), (1, (0, (1, 0, 0), yc 0)), (2, (0, (1, 1, 0), yc 0))], []), [(3, [(2, (-2147483648), 2147483647)], [], [], [], [(0, (1, 2, 0), yc 0)])], [(70, 70, 32), (70, 70, 33), (70, 70, 34)])
theorem yw4 : ywf ys4.2.2.1 = true := by decide +kernel
def ys5 : ySp := (278, 3, (1, [(0, (-2147483648), 2147483647)], [], [], [(0, (2, yc 70, yc 0)), (1, (0, (1, 0, 0), yc 0))], []), [(2, [(1, (-2147483648), 2147483647)], [], [], [], [(0, (1, 1, 0), yc 0)])], [(85, 87, 1000)])
theorem yw5 : ywf ys5.2.2.1 = true := by decide +kernel
def ys6 : ySp := (279, 3, (1, [(0, (-2147483648), 2147483647)], [], [], [(0, (2, yc 70, yc 0)), (1, (0, (1, 0, 0), yc 0))], []), [(2, [(1, (-2147483648), 2147483647)], [], [], [], [(0, (1, 1, 0), yc 0)])], [(70, 70, 23), (70, 70, 25), (80, 80, 1000)])
theorem yw6 : ywf ys6.2.2.1 = true := by decide +kernel
def ys7 : ySp := (244, 4, (1, [(0, 0, 5)], [], [], [(0, (2, yc 70, yc 0)), (1, (0, (1, 0, 0), yc 0))], []), [(2, [(1, (-9223372036854775808), 9223372036854775807)], [], [], [], [(1, (1, 1, 0), yc 0)])], [(70, 70, 20), (78, 78, 1000)])
theorem yw7 : ywf ys7.2.2.1 = true := by decide +kernel
def ys8 : ySp := (197, 1, (0, [], [], [], [(0, (2, yc 70, yc 0))], []), [(1, [(0, (-2147483648), 2147483647)], [], [], [], [(0, (1, 0, 0), yc 0)])], [(70, 70, 1), (70, 70, 2), (70, 70, 8), (70, 70, 9), (70, 70, 10), (70, 70, 11), (70, 70, 12), (70, 70, 13), (70, 70, 14), (70, 70, 16), (72, 75, 1000), (77, 77, 1000)])
theorem yw8 : ywf ys8.2.2.1 = true := by decide +kernel
def ys9 : ySp := (198, 2, (0, [], [], [], [(0, (2, yc 70, yc 0))], []), [(1, [(0, (-2147483648), 2147483647)], [], [], [], [(0, (1, 0, 0), yc 0)])], [(70, 70, 1), (70, 70, 8), (70, 70, 9), (70, 70, 10), (70, 70, 11), (70, 70, 12), (70, 70, 14), (70, 70, 17), (70, 70, 18), (70, 70, 25), (73, 73, 1000), (76, 76, 1000), (80, 80, 1000)])
theorem yw9 : ywf ys9.2.2.1 = true := by decide +kernel
def yXl : List ySp := [ys0, ys1, ys2, ys3, ys4, ys5, ys6, ys7, ys8, ys9]
def yXt (E : zHp → Prop) : Prop := yEF E yFP ∧ ∀ sp ∈ yXl, yTs E sp
theorem yt0 {E : zHp → Prop} (h : yXt E) : yTs E ys0 := h.2 _ (List.mem_of_getElem? (i := 0) rfl)
theorem yt1 {E : zHp → Prop} (h : yXt E) : yTs E ys1 := h.2 _ (List.mem_of_getElem? (i := 1) rfl)
theorem yt2 {E : zHp → Prop} (h : yXt E) : yTs E ys2 := h.2 _ (List.mem_of_getElem? (i := 2) rfl)
theorem yt3 {E : zHp → Prop} (h : yXt E) : yTs E ys3 := h.2 _ (List.mem_of_getElem? (i := 3) rfl)
theorem yt4 {E : zHp → Prop} (h : yXt E) : yTs E ys4 := h.2 _ (List.mem_of_getElem? (i := 4) rfl)
theorem yt5 {E : zHp → Prop} (h : yXt E) : yTs E ys5 := h.2 _ (List.mem_of_getElem? (i := 5) rfl)
theorem yt6 {E : zHp → Prop} (h : yXt E) : yTs E ys6 := h.2 _ (List.mem_of_getElem? (i := 6) rfl)
theorem yt7 {E : zHp → Prop} (h : yXt E) : yTs E ys7 := h.2 _ (List.mem_of_getElem? (i := 7) rfl)
theorem yt8 {E : zHp → Prop} (h : yXt E) : yTs E ys8 := h.2 _ (List.mem_of_getElem? (i := 8) rfl)
theorem yt9 {E : zHp → Prop} (h : yXt E) : yTs E ys9 := h.2 _ (List.mem_of_getElem? (i := 9) rfl)
set_option maxRecDepth 4000 in
theorem yg50 : zg zms 50 = some (zm50.2.2.1, zm50.2.2.2.1, zc50) := rfl
set_option maxRecDepth 4000 in
theorem yg53 : zg zms 53 = some (zm53.2.2.1, zm53.2.2.2.1, zc53) := rfl
set_option maxRecDepth 4000 in
theorem yg57 : zg zms 57 = some (zm57.2.2.1, zm57.2.2.2.1, zc57) := rfl
set_option maxRecDepth 4000 in
theorem yg122 : zg zms 122 = some (zm122.2.2.1, zm122.2.2.2.1, zc122) := rfl
set_option maxRecDepth 4000 in
theorem yg123 : zg zms 123 = some (zm123.2.2.1, zm123.2.2.2.1, zc123) := rfl
set_option maxRecDepth 4000 in
theorem yg124 : zg zms 124 = some (zm124.2.2.1, zm124.2.2.2.1, zc124) := rfl
set_option maxRecDepth 4000 in
theorem yg127 : zg zms 127 = some (zm127.2.2.1, zm127.2.2.2.1, zc127) := rfl
set_option maxRecDepth 4000 in
theorem yg197 : zg zms 197 = some (zm197.2.2.1, zm197.2.2.2.1, zc197) := rfl
set_option maxRecDepth 4000 in
theorem yg198 : zg zms 198 = some (zm198.2.2.1, zm198.2.2.2.1, zc198) := rfl
set_option maxRecDepth 4000 in
theorem yg220 : zg zms 220 = some (zm220.2.2.1, zm220.2.2.2.1, zc220) := rfl
set_option maxRecDepth 4000 in
theorem yg221 : zg zms 221 = some (zm221.2.2.1, zm221.2.2.2.1, zc221) := rfl
set_option maxRecDepth 4000 in
theorem yg244 : zg zms 244 = some (zm244.2.2.1, zm244.2.2.2.1, zc244) := rfl
set_option maxRecDepth 4000 in
theorem yg259 : zg zms 259 = some (zm259.2.2.1, zm259.2.2.2.1, zc259) := rfl
set_option maxRecDepth 4000 in
theorem yg260 : zg zms 260 = some (zm260.2.2.1, zm260.2.2.2.1, zc260) := rfl
set_option maxRecDepth 4000 in
theorem yg267 : zg zms 267 = some (zm267.2.2.1, zm267.2.2.2.1, zc267) := rfl
set_option maxRecDepth 4000 in
theorem yg278 : zg zms 278 = some (zm278.2.2.1, zm278.2.2.2.1, zc278) := rfl
set_option maxRecDepth 4000 in
theorem yg279 : zg zms 279 = some (zm279.2.2.1, zm279.2.2.2.1, zc279) := rfl
set_option maxRecDepth 4000 in
theorem yg281 : zg zms 281 = some (zm281.2.2.1, zm281.2.2.2.1, zc281) := rfl
set_option maxRecDepth 4000 in
theorem yg282 : zg zms 282 = some (zm282.2.2.1, zm282.2.2.2.1, zc282) := rfl
set_option maxRecDepth 4000 in
theorem yg283 : zg zms 283 = some (zm283.2.2.1, zm283.2.2.2.1, zc283) := rfl
set_option maxRecDepth 4000 in
theorem yg284 : zg zms 284 = some (zm284.2.2.1, zm284.2.2.2.1, zc284) := rfl
set_option maxRecDepth 4000 in
theorem yg285 : zg zms 285 = some (zm285.2.2.1, zm285.2.2.2.1, zc285) := rfl
set_option maxRecDepth 4000 in
theorem yg286 : zg zms 286 = some (zm286.2.2.1, zm286.2.2.2.1, zc286) := rfl
set_option maxRecDepth 4000 in
theorem yg293 : zg zms 293 = some (zm293.2.2.1, zm293.2.2.2.1, zc293) := rfl
