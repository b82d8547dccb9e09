/-! Specs by specs. -/
def yFP : yM := [(0, 0, 8), (72, 72, 1000), (74, 75, 1000), (80, 80, 0), (80, 80, 2), (81, 81, 1000), (84, 84, 0), (84, 84, 2), (85, 85, 1000)]
/-- from depth n on the spec holds -/
def yTs (E : zHp → Prop) (n : Nat) (sp : ySp) : Prop := ∀ d, n ≤ d → yTr E d sp
def yAl (E : zHp → Prop) (n : Nat) (l : List ySp) : Prop := ∀ d, n ≤ d → ∀ sp ∈ l, yTr E d sp ∧ ywf sp.2.2.1 = true
theorem yal_n {E : zHp → Prop} {n : Nat} : yAl E n [] := fun _ _ sp h => by cases h
theorem yal_c {E : zHp → Prop} {a n : Nat} {sp : ySp} {l : List ySp} (h : yTs E a sp) (ha : a ≤ n) (w : ywf sp.2.2.1 = true) (hl : yAl E n l) : yAl E n (sp :: l) := by
  intro d hd x hx
  rcases List.mem_cons.mp hx with rfl | hx
  · exact ⟨h d (Nat.le_trans ha hd), w⟩
  · exact hl d hd x hx
theorem yver_s {E : zHp → Prop} {k n : Nat} {x : yCx} {P : yS} {f : Nat} (hE : yEF E x.2.2.1) (hs : yAl E n x.1) (hm : zg zms k = some (x.2.2.2.1, x.2.2.2.2.1, x.2.2.2.2.2.1)) (h : yver x P f = true) : yTs E (n + 1) (k, x.2.2.2.1, P, x.2.2.2.2.2.2.2.1, x.2.1) := by
  intro d hd
  obtain ⟨e, rfl⟩ : ∃ e, d = e + 1 := ⟨d - 1, by omega⟩
  exact yver_ok hE (hs e (by omega)) hm h
/-- the check in pieces: all but the cuts' own runs, and each cut's -/
def yver0 (x : yCx) (P : yS) (f : Nat) : Bool :=
  decide (x.2.2.2.1 ≤ 41) && (decide (x.2.2.2.2.2.2.1 = P.1) && (P.2.2.2.2.2.isEmpty && (x.2.2.2.2.2.2.2.1.all (fun q => ywf q && (decide (P.1 ≤ q.1) && q.2.2.2.2.1.isEmpty)) && (x.2.2.2.2.2.2.2.2.1.all (fun c => ywf c.2.1 && (decide (P.1 ≤ c.2.1.1) && (yge0 c.2.1.2.1 c.2.2 && c.2.2.1.all (fun t => decide (t.2 < c.2.1.1))))) && yexec none x none f 0 P))))
def ycc (x : yCx) (f : Nat) (c : yCu) : Bool := (yspl x c.1 c.2.1).all (ystp none (yexec none x (some c.2.2) f) x c.1)
theorem yver_join {x : yCx} {P : yS} {f : Nat} (h : yver0 x P f = true) (hc : ∀ c ∈ x.2.2.2.2.2.2.2.2.1, ycc x f c = true) : yver x P f = true := by
  unfold yver0 at h
  unfold yver
  simp only [Bool.and_eq_true] at h ⊢
  obtain ⟨h1, h2, h3, h4, h5, h6⟩ := h
  refine ⟨h1, h2, h3, h4, ?_, h6⟩
  rw [List.all_eq_true] at h5 ⊢
  intro c hm
  have k := h5 c hm
  simp only [Bool.and_eq_true] at k ⊢
  exact ⟨k.1, k.2.1, k.2.2.1, k.2.2.2, hc c hm⟩
theorem ycc_n {x : yCx} {f : Nat} : ∀ c ∈ ([] : List yCu), ycc x f c = true := fun _ h => by cases h
theorem ycc_c {x : yCx} {f : Nat} {c : yCu} {l : List yCu} (h : ycc x f c = true) (hl : ∀ c ∈ l, ycc x f c = true) : ∀ d ∈ c :: l, ycc x f d = true := fun d hd => by
  rcases List.mem_cons.mp hd with rfl | hd
  · exact h
  · exact hl d hd
theorem yEF_T (F : yM) : yEF (fun _ => True) F := fun _ _ _ _ _ => trivial
/-- LTModel.keepsAct -/
def ys0 : ySp := (220, 2, (0, [], [], [], [(0, (2, yc 70, yc 0))], []), [(0, [], [], [], [], [])], [(70, 70, 25), (81, 81, 1000)])
theorem yw0 : ywf ys0.2.2.1 = true := by decide +kernel
/-- LTModel.came -/
def ys1 : ySp := (267, 3, (2, [(0, (-2147483648), 2147483647), (1, (-2147483648), 2147483647)], [], [], [(0, (2, yc 70, yc 0)), (1, (0, (1, 0, 0), yc 0)), (2, (0, (1, 1, 0), yc 0))], []), [(3, [(2, (-2147483648), 2147483647)], [], [], [], [(0, (1, 2, 0), yc 0)])], [(70, 70, 32), (70, 70, 33), (70, 70, 34)])
theorem yw1 : ywf ys1.2.2.1 = true := by decide +kernel
/-- LTModel.summedBy -/
def ys2 : ySp := (244, 4, (1, [(0, 0, 5)], [], [], [(0, (2, yc 70, yc 0)), (1, (0, (1, 0, 0), yc 0))], []), [(2, [(1, (-9223372036854775808), 9223372036854775807)], [], [], [], [(1, (1, 1, 0), yc 0)])], [(70, 70, 20), (78, 78, 1000)])
theorem yw2 : ywf ys2.2.2.1 = true := by decide +kernel
/-- LTModel.rule -/
def ys3 : ySp := (197, 1, (0, [], [], [], [(0, (2, yc 70, yc 0))], []), [(1, [(0, (-2147483648), 2147483647)], [], [], [], [(0, (1, 0, 0), yc 0)])], [(70, 70, 1), (70, 70, 2), (70, 70, 8), (70, 70, 9), (70, 70, 10), (70, 70, 11), (70, 70, 12), (70, 70, 13), (70, 70, 14), (70, 70, 16), (72, 75, 1000), (77, 77, 1000)])
theorem yw3 : ywf ys3.2.2.1 = true := by decide +kernel
/-- LTModel.keeps -/
def ys4 : ySp := (259, 2, (2, [(0, 0, 6), (1, 0, 6)], [], [(yc 80, yc 0, (0, (1, 0, 0), yc 0)), (yc 80, yc 2, (0, (1, 1, 0), yc 0))], [(0, (2, yc 70, yc 0))], []), [(2, [], [], [(yc 80, yc 0, (0, (1, 0, 0), yc 0)), (yc 80, yc 2, (0, (1, 1, 0), yc 0)), (yc 84, yc 0, (0, (1, 0, 0), yc 0)), (yc 84, yc 2, (0, (1, 1, 0), yc 0))], [], [])], [(84, 84, 1000)])
theorem yw4 : ywf ys4.2.2.1 = true := by decide +kernel
/-- LTModel.laysBack -/
def ys5 : ySp := (260, 2, (2, [(0, 0, 6), (1, 0, 6)], [], [(yc 84, yc 0, (0, (1, 0, 0), yc 0)), (yc 84, yc 2, (0, (1, 1, 0), yc 0))], [(0, (2, yc 70, yc 0))], []), [(2, [], [], [(yc 84, yc 0, (0, (1, 0, 0), yc 0)), (yc 84, yc 2, (0, (1, 1, 0), yc 0)), (yc 80, yc 0, (0, (1, 0, 0), yc 0)), (yc 80, yc 2, (0, (1, 1, 0), yc 0))], [], [])], [(80, 80, 1000)])
theorem yw5 : ywf ys5.2.2.1 = true := by decide +kernel
/-- LTModel.image -/
def ys7 : ySp := (278, 3, (20, [(0, (-2147483648), 2147483647), (1, 0, 2147483647), (2, 0, 2147483647), (3, 0, 2147483647), (4, 0, 2147483647), (5, 0, 1), (6, 0, 1), (7, 0, 1), (8, 0, 1), (9, 0, 2147483647), (10, 0, 6), (11, 0, 6), (12, 0, 6), (13, 0, 6), (14, 0, 6), (15, 0, 6), (16, 0, 6), (17, 0, 6), (18, 0, 6), (19, 0, 6)], [], [(yc 86, yc 0, (0, (1, 1, 0), yc 0)), (yc 86, yc 1, (0, (1, 2, 0), yc 0)), (yc 86, yc 2, (0, (1, 3, 0), yc 0)), (yc 86, yc 3, (0, (1, 4, 0), yc 0)), (yc 87, yc 0, (0, (1, 5, 0), yc 0)), (yc 87, yc 1, (0, (1, 6, 0), yc 0)), (yc 87, yc 2, (0, (1, 7, 0), yc 0)), (yc 87, yc 3, (0, (1, 8, 0), yc 0)), (yc 70, yc 23, (0, (1, 9, 0), yc 0)), (yc 80, yc 0, (0, (1, 10, 0), yc 0)), (yc 80, yc 2, (0, (1, 11, 0), yc 0)), (yc 85, yc 0, (0, (1, 12, 0), yc 0)), (yc 85, yc 2, (0, (1, 13, 0), yc 0)), (yc 85, yc 148, (0, (1, 14, 0), yc 0)), (yc 85, yc 150, (0, (1, 15, 0), yc 0)), (yc 85, yc 296, (0, (1, 16, 0), yc 0)), (yc 85, yc 298, (0, (1, 17, 0), yc 0)), (yc 85, yc 444, (0, (1, 18, 0), yc 0)), (yc 85, yc 446, (0, (1, 19, 0), yc 0))], [(0, (2, yc 70, yc 0)), (1, (0, (1, 0, 0), yc 0))], []), [(20, [(0, (-2147483648), (-1))], [], [(yc 86, yc 0, (0, (1, 1, 0), yc 0)), (yc 86, yc 1, (0, (1, 2, 0), yc 0)), (yc 86, yc 2, (0, (1, 3, 0), yc 0)), (yc 86, yc 3, (0, (1, 4, 0), yc 0)), (yc 87, yc 0, (0, (1, 5, 0), yc 0)), (yc 87, yc 1, (0, (1, 6, 0), yc 0)), (yc 87, yc 2, (0, (1, 7, 0), yc 0)), (yc 87, yc 3, (0, (1, 8, 0), yc 0)), (yc 70, yc 23, (0, (1, 9, 0), yc 0)), (yc 80, yc 0, (0, (1, 10, 0), yc 0)), (yc 80, yc 2, (0, (1, 11, 0), yc 0)), (yc 85, yc 0, (0, (1, 12, 0), yc 0)), (yc 85, yc 2, (0, (1, 13, 0), yc 0)), (yc 85, yc 148, (0, (1, 14, 0), yc 0)), (yc 85, yc 150, (0, (1, 15, 0), yc 0)), (yc 85, yc 296, (0, (1, 16, 0), yc 0)), (yc 85, yc 298, (0, (1, 17, 0), yc 0)), (yc 85, yc 444, (0, (1, 18, 0), yc 0)), (yc 85, yc 446, (0, (1, 19, 0), yc 0))], [], [(0, yc (-1), yc 0)]), (20, [(0, 4, 2147483647)], [], [(yc 86, yc 0, (0, (1, 1, 0), yc 0)), (yc 86, yc 1, (0, (1, 2, 0), yc 0)), (yc 86, yc 2, (0, (1, 3, 0), yc 0)), (yc 86, yc 3, (0, (1, 4, 0), yc 0)), (yc 87, yc 0, (0, (1, 5, 0), yc 0)), (yc 87, yc 1, (0, (1, 6, 0), yc 0)), (yc 87, yc 2, (0, (1, 7, 0), yc 0)), (yc 87, yc 3, (0, (1, 8, 0), yc 0)), (yc 70, yc 23, (0, (1, 9, 0), yc 0)), (yc 80, yc 0, (0, (1, 10, 0), yc 0)), (yc 80, yc 2, (0, (1, 11, 0), yc 0)), (yc 85, yc 0, (0, (1, 12, 0), yc 0)), (yc 85, yc 2, (0, (1, 13, 0), yc 0)), (yc 85, yc 148, (0, (1, 14, 0), yc 0)), (yc 85, yc 150, (0, (1, 15, 0), yc 0)), (yc 85, yc 296, (0, (1, 16, 0), yc 0)), (yc 85, yc 298, (0, (1, 17, 0), yc 0)), (yc 85, yc 444, (0, (1, 18, 0), yc 0)), (yc 85, yc 446, (0, (1, 19, 0), yc 0))], [], [(0, yc (-1), yc 0)]), (21, [(0, 0, 0), (20, (-2147483648), 2147483647)], [], [(yc 86, yc 1, (0, (1, 2, 0), yc 0)), (yc 86, yc 2, (0, (1, 3, 0), yc 0)), (yc 86, yc 3, (0, (1, 4, 0), yc 0)), (yc 87, yc 1, (0, (1, 6, 0), yc 0)), (yc 87, yc 2, (0, (1, 7, 0), yc 0)), (yc 87, yc 3, (0, (1, 8, 0), yc 0)), (yc 70, yc 23, (0, (1, 9, 0), yc 0)), (yc 80, yc 0, (0, (1, 10, 0), yc 0)), (yc 80, yc 2, (0, (1, 11, 0), yc 0)), (yc 85, yc 148, (0, (1, 14, 0), yc 0)), (yc 85, yc 150, (0, (1, 15, 0), yc 0)), (yc 85, yc 296, (0, (1, 16, 0), yc 0)), (yc 85, yc 298, (0, (1, 17, 0), yc 0)), (yc 85, yc 444, (0, (1, 18, 0), yc 0)), (yc 85, yc 446, (0, (1, 19, 0), yc 0)), (yc 87, yc 0, (0, yc 1, yc 0)), (yc 86, yc 0, (0, (1, 9, 0), yc 0)), (yc 85, yc 0, (0, (1, 10, 0), yc 0)), (yc 85, yc 2, (0, (1, 11, 0), yc 0))], [], [(0, (1, 20, 0), yc 0)]), (21, [(0, 1, 1), (20, (-2147483648), 2147483647)], [], [(yc 86, yc 0, (0, (1, 1, 0), yc 0)), (yc 86, yc 2, (0, (1, 3, 0), yc 0)), (yc 86, yc 3, (0, (1, 4, 0), yc 0)), (yc 87, yc 0, (0, (1, 5, 0), yc 0)), (yc 87, yc 2, (0, (1, 7, 0), yc 0)), (yc 87, yc 3, (0, (1, 8, 0), yc 0)), (yc 70, yc 23, (0, (1, 9, 0), yc 0)), (yc 80, yc 0, (0, (1, 10, 0), yc 0)), (yc 80, yc 2, (0, (1, 11, 0), yc 0)), (yc 85, yc 0, (0, (1, 12, 0), yc 0)), (yc 85, yc 2, (0, (1, 13, 0), yc 0)), (yc 85, yc 296, (0, (1, 16, 0), yc 0)), (yc 85, yc 298, (0, (1, 17, 0), yc 0)), (yc 85, yc 444, (0, (1, 18, 0), yc 0)), (yc 85, yc 446, (0, (1, 19, 0), yc 0)), (yc 87, yc 1, (0, yc 1, yc 0)), (yc 86, yc 1, (0, (1, 9, 0), yc 0)), (yc 85, yc 148, (0, (1, 10, 0), yc 0)), (yc 85, yc 150, (0, (1, 11, 0), yc 0))], [], [(0, (1, 20, 0), yc 0)]), (21, [(0, 2, 2), (20, (-2147483648), 2147483647)], [], [(yc 86, yc 0, (0, (1, 1, 0), yc 0)), (yc 86, yc 1, (0, (1, 2, 0), yc 0)), (yc 86, yc 3, (0, (1, 4, 0), yc 0)), (yc 87, yc 0, (0, (1, 5, 0), yc 0)), (yc 87, yc 1, (0, (1, 6, 0), yc 0)), (yc 87, yc 3, (0, (1, 8, 0), yc 0)), (yc 70, yc 23, (0, (1, 9, 0), yc 0)), (yc 80, yc 0, (0, (1, 10, 0), yc 0)), (yc 80, yc 2, (0, (1, 11, 0), yc 0)), (yc 85, yc 0, (0, (1, 12, 0), yc 0)), (yc 85, yc 2, (0, (1, 13, 0), yc 0)), (yc 85, yc 148, (0, (1, 14, 0), yc 0)), (yc 85, yc 150, (0, (1, 15, 0), yc 0)), (yc 85, yc 444, (0, (1, 18, 0), yc 0)), (yc 85, yc 446, (0, (1, 19, 0), yc 0)), (yc 87, yc 2, (0, yc 1, yc 0)), (yc 86, yc 2, (0, (1, 9, 0), yc 0)), (yc 85, yc 296, (0, (1, 10, 0), yc 0)), (yc 85, yc 298, (0, (1, 11, 0), yc 0))], [], [(0, (1, 20, 0), yc 0)]), (21, [(0, 3, 3), (20, (-2147483648), 2147483647)], [], [(yc 86, yc 0, (0, (1, 1, 0), yc 0)), (yc 86, yc 1, (0, (1, 2, 0), yc 0)), (yc 86, yc 2, (0, (1, 3, 0), yc 0)), (yc 87, yc 0, (0, (1, 5, 0), yc 0)), (yc 87, yc 1, (0, (1, 6, 0), yc 0)), (yc 87, yc 2, (0, (1, 7, 0), yc 0)), (yc 70, yc 23, (0, (1, 9, 0), yc 0)), (yc 80, yc 0, (0, (1, 10, 0), yc 0)), (yc 80, yc 2, (0, (1, 11, 0), yc 0)), (yc 85, yc 0, (0, (1, 12, 0), yc 0)), (yc 85, yc 2, (0, (1, 13, 0), yc 0)), (yc 85, yc 148, (0, (1, 14, 0), yc 0)), (yc 85, yc 150, (0, (1, 15, 0), yc 0)), (yc 85, yc 296, (0, (1, 16, 0), yc 0)), (yc 85, yc 298, (0, (1, 17, 0), yc 0)), (yc 87, yc 3, (0, yc 1, yc 0)), (yc 86, yc 3, (0, (1, 9, 0), yc 0)), (yc 85, yc 444, (0, (1, 10, 0), yc 0)), (yc 85, yc 446, (0, (1, 11, 0), yc 0))], [], [(0, (1, 20, 0), yc 0)])], [(85, 85, 1000), (86, 86, 1000), (87, 87, 1000)])
theorem yw7 : ywf ys7.2.2.1 = true := by decide +kernel
/-- LTModel.back -/
def ys8 : ySp := (279, 3, (20, [(0, (-2147483648), 2147483647), (1, 0, 2147483647), (2, 0, 2147483647), (3, 0, 2147483647), (4, 0, 2147483647), (5, 0, 1), (6, 0, 1), (7, 0, 1), (8, 0, 1), (9, 0, 2147483647), (10, 0, 6), (11, 0, 6), (12, 0, 6), (13, 0, 6), (14, 0, 6), (15, 0, 6), (16, 0, 6), (17, 0, 6), (18, 0, 6), (19, 0, 6)], [], [(yc 86, yc 0, (0, (1, 1, 0), yc 0)), (yc 86, yc 1, (0, (1, 2, 0), yc 0)), (yc 86, yc 2, (0, (1, 3, 0), yc 0)), (yc 86, yc 3, (0, (1, 4, 0), yc 0)), (yc 87, yc 0, (0, (1, 5, 0), yc 0)), (yc 87, yc 1, (0, (1, 6, 0), yc 0)), (yc 87, yc 2, (0, (1, 7, 0), yc 0)), (yc 87, yc 3, (0, (1, 8, 0), yc 0)), (yc 70, yc 23, (0, (1, 9, 0), yc 0)), (yc 80, yc 0, (0, (1, 10, 0), yc 0)), (yc 80, yc 2, (0, (1, 11, 0), yc 0)), (yc 85, yc 0, (0, (1, 12, 0), yc 0)), (yc 85, yc 2, (0, (1, 13, 0), yc 0)), (yc 85, yc 148, (0, (1, 14, 0), yc 0)), (yc 85, yc 150, (0, (1, 15, 0), yc 0)), (yc 85, yc 296, (0, (1, 16, 0), yc 0)), (yc 85, yc 298, (0, (1, 17, 0), yc 0)), (yc 85, yc 444, (0, (1, 18, 0), yc 0)), (yc 85, yc 446, (0, (1, 19, 0), yc 0))], [(0, (2, yc 70, yc 0)), (1, (0, (1, 0, 0), yc 0))], []), [(20, [(0, (-2147483648), (-1))], [], [(yc 86, yc 0, (0, (1, 1, 0), yc 0)), (yc 86, yc 1, (0, (1, 2, 0), yc 0)), (yc 86, yc 2, (0, (1, 3, 0), yc 0)), (yc 86, yc 3, (0, (1, 4, 0), yc 0)), (yc 87, yc 0, (0, (1, 5, 0), yc 0)), (yc 87, yc 1, (0, (1, 6, 0), yc 0)), (yc 87, yc 2, (0, (1, 7, 0), yc 0)), (yc 87, yc 3, (0, (1, 8, 0), yc 0)), (yc 70, yc 23, (0, (1, 9, 0), yc 0)), (yc 80, yc 0, (0, (1, 10, 0), yc 0)), (yc 80, yc 2, (0, (1, 11, 0), yc 0)), (yc 85, yc 0, (0, (1, 12, 0), yc 0)), (yc 85, yc 2, (0, (1, 13, 0), yc 0)), (yc 85, yc 148, (0, (1, 14, 0), yc 0)), (yc 85, yc 150, (0, (1, 15, 0), yc 0)), (yc 85, yc 296, (0, (1, 16, 0), yc 0)), (yc 85, yc 298, (0, (1, 17, 0), yc 0)), (yc 85, yc 444, (0, (1, 18, 0), yc 0)), (yc 85, yc 446, (0, (1, 19, 0), yc 0))], [], [(0, yc (-1), yc 0)]), (20, [(0, 0, 0), (5, 0, 0)], [], [(yc 86, yc 0, (0, (1, 1, 0), yc 0)), (yc 86, yc 1, (0, (1, 2, 0), yc 0)), (yc 86, yc 2, (0, (1, 3, 0), yc 0)), (yc 86, yc 3, (0, (1, 4, 0), yc 0)), (yc 87, yc 0, (0, yc 0, yc 0)), (yc 87, yc 1, (0, (1, 6, 0), yc 0)), (yc 87, yc 2, (0, (1, 7, 0), yc 0)), (yc 87, yc 3, (0, (1, 8, 0), yc 0)), (yc 70, yc 23, (0, (1, 9, 0), yc 0)), (yc 80, yc 0, (0, (1, 10, 0), yc 0)), (yc 80, yc 2, (0, (1, 11, 0), yc 0)), (yc 85, yc 0, (0, (1, 12, 0), yc 0)), (yc 85, yc 2, (0, (1, 13, 0), yc 0)), (yc 85, yc 148, (0, (1, 14, 0), yc 0)), (yc 85, yc 150, (0, (1, 15, 0), yc 0)), (yc 85, yc 296, (0, (1, 16, 0), yc 0)), (yc 85, yc 298, (0, (1, 17, 0), yc 0)), (yc 85, yc 444, (0, (1, 18, 0), yc 0)), (yc 85, yc 446, (0, (1, 19, 0), yc 0))], [], [(0, yc (-1), yc 0)]), (20, [(0, 1, 1), (6, 0, 0)], [], [(yc 86, yc 0, (0, (1, 1, 0), yc 0)), (yc 86, yc 1, (0, (1, 2, 0), yc 0)), (yc 86, yc 2, (0, (1, 3, 0), yc 0)), (yc 86, yc 3, (0, (1, 4, 0), yc 0)), (yc 87, yc 0, (0, (1, 5, 0), yc 0)), (yc 87, yc 1, (0, yc 0, yc 0)), (yc 87, yc 2, (0, (1, 7, 0), yc 0)), (yc 87, yc 3, (0, (1, 8, 0), yc 0)), (yc 70, yc 23, (0, (1, 9, 0), yc 0)), (yc 80, yc 0, (0, (1, 10, 0), yc 0)), (yc 80, yc 2, (0, (1, 11, 0), yc 0)), (yc 85, yc 0, (0, (1, 12, 0), yc 0)), (yc 85, yc 2, (0, (1, 13, 0), yc 0)), (yc 85, yc 148, (0, (1, 14, 0), yc 0)), (yc 85, yc 150, (0, (1, 15, 0), yc 0)), (yc 85, yc 296, (0, (1, 16, 0), yc 0)), (yc 85, yc 298, (0, (1, 17, 0), yc 0)), (yc 85, yc 444, (0, (1, 18, 0), yc 0)), (yc 85, yc 446, (0, (1, 19, 0), yc 0))], [], [(0, yc (-1), yc 0)]), (20, [(0, 2, 2), (7, 0, 0)], [], [(yc 86, yc 0, (0, (1, 1, 0), yc 0)), (yc 86, yc 1, (0, (1, 2, 0), yc 0)), (yc 86, yc 2, (0, (1, 3, 0), yc 0)), (yc 86, yc 3, (0, (1, 4, 0), yc 0)), (yc 87, yc 0, (0, (1, 5, 0), yc 0)), (yc 87, yc 1, (0, (1, 6, 0), yc 0)), (yc 87, yc 2, (0, yc 0, yc 0)), (yc 87, yc 3, (0, (1, 8, 0), yc 0)), (yc 70, yc 23, (0, (1, 9, 0), yc 0)), (yc 80, yc 0, (0, (1, 10, 0), yc 0)), (yc 80, yc 2, (0, (1, 11, 0), yc 0)), (yc 85, yc 0, (0, (1, 12, 0), yc 0)), (yc 85, yc 2, (0, (1, 13, 0), yc 0)), (yc 85, yc 148, (0, (1, 14, 0), yc 0)), (yc 85, yc 150, (0, (1, 15, 0), yc 0)), (yc 85, yc 296, (0, (1, 16, 0), yc 0)), (yc 85, yc 298, (0, (1, 17, 0), yc 0)), (yc 85, yc 444, (0, (1, 18, 0), yc 0)), (yc 85, yc 446, (0, (1, 19, 0), yc 0))], [], [(0, yc (-1), yc 0)]), (20, [(0, 3, 3), (8, 0, 0)], [], [(yc 86, yc 0, (0, (1, 1, 0), yc 0)), (yc 86, yc 1, (0, (1, 2, 0), yc 0)), (yc 86, yc 2, (0, (1, 3, 0), yc 0)), (yc 86, yc 3, (0, (1, 4, 0), yc 0)), (yc 87, yc 0, (0, (1, 5, 0), yc 0)), (yc 87, yc 1, (0, (1, 6, 0), yc 0)), (yc 87, yc 2, (0, (1, 7, 0), yc 0)), (yc 87, yc 3, (0, yc 0, yc 0)), (yc 70, yc 23, (0, (1, 9, 0), yc 0)), (yc 80, yc 0, (0, (1, 10, 0), yc 0)), (yc 80, yc 2, (0, (1, 11, 0), yc 0)), (yc 85, yc 0, (0, (1, 12, 0), yc 0)), (yc 85, yc 2, (0, (1, 13, 0), yc 0)), (yc 85, yc 148, (0, (1, 14, 0), yc 0)), (yc 85, yc 150, (0, (1, 15, 0), yc 0)), (yc 85, yc 296, (0, (1, 16, 0), yc 0)), (yc 85, yc 298, (0, (1, 17, 0), yc 0)), (yc 85, yc 444, (0, (1, 18, 0), yc 0)), (yc 85, yc 446, (0, (1, 19, 0), yc 0))], [], [(0, yc (-1), yc 0)]), (20, [(0, 4, 2147483647)], [], [(yc 86, yc 0, (0, (1, 1, 0), yc 0)), (yc 86, yc 1, (0, (1, 2, 0), yc 0)), (yc 86, yc 2, (0, (1, 3, 0), yc 0)), (yc 86, yc 3, (0, (1, 4, 0), yc 0)), (yc 87, yc 0, (0, (1, 5, 0), yc 0)), (yc 87, yc 1, (0, (1, 6, 0), yc 0)), (yc 87, yc 2, (0, (1, 7, 0), yc 0)), (yc 87, yc 3, (0, (1, 8, 0), yc 0)), (yc 70, yc 23, (0, (1, 9, 0), yc 0)), (yc 80, yc 0, (0, (1, 10, 0), yc 0)), (yc 80, yc 2, (0, (1, 11, 0), yc 0)), (yc 85, yc 0, (0, (1, 12, 0), yc 0)), (yc 85, yc 2, (0, (1, 13, 0), yc 0)), (yc 85, yc 148, (0, (1, 14, 0), yc 0)), (yc 85, yc 150, (0, (1, 15, 0), yc 0)), (yc 85, yc 296, (0, (1, 16, 0), yc 0)), (yc 85, yc 298, (0, (1, 17, 0), yc 0)), (yc 85, yc 444, (0, (1, 18, 0), yc 0)), (yc 85, yc 446, (0, (1, 19, 0), yc 0))], [], [(0, yc (-1), yc 0)]), (21, [(0, 0, 0), (5, 1, 1), (20, (-2147483648), 2147483647)], [], [(yc 86, yc 0, (0, (1, 1, 0), yc 0)), (yc 86, yc 1, (0, (1, 2, 0), yc 0)), (yc 86, yc 2, (0, (1, 3, 0), yc 0)), (yc 86, yc 3, (0, (1, 4, 0), yc 0)), (yc 87, yc 0, (0, yc 1, yc 0)), (yc 87, yc 1, (0, (1, 6, 0), yc 0)), (yc 87, yc 2, (0, (1, 7, 0), yc 0)), (yc 87, yc 3, (0, (1, 8, 0), yc 0)), (yc 85, yc 0, (0, (1, 12, 0), yc 0)), (yc 85, yc 2, (0, (1, 13, 0), yc 0)), (yc 85, yc 148, (0, (1, 14, 0), yc 0)), (yc 85, yc 150, (0, (1, 15, 0), yc 0)), (yc 85, yc 296, (0, (1, 16, 0), yc 0)), (yc 85, yc 298, (0, (1, 17, 0), yc 0)), (yc 85, yc 444, (0, (1, 18, 0), yc 0)), (yc 85, yc 446, (0, (1, 19, 0), yc 0)), (yc 70, yc 23, (0, (1, 1, 0), yc 0)), (yc 80, yc 0, (0, (1, 12, 0), yc 0)), (yc 80, yc 2, (0, (1, 13, 0), yc 0))], [], [(0, (1, 20, 0), yc 0)]), (21, [(0, 1, 1), (6, 1, 1), (20, (-2147483648), 2147483647)], [], [(yc 86, yc 0, (0, (1, 1, 0), yc 0)), (yc 86, yc 1, (0, (1, 2, 0), yc 0)), (yc 86, yc 2, (0, (1, 3, 0), yc 0)), (yc 86, yc 3, (0, (1, 4, 0), yc 0)), (yc 87, yc 0, (0, (1, 5, 0), yc 0)), (yc 87, yc 1, (0, yc 1, yc 0)), (yc 87, yc 2, (0, (1, 7, 0), yc 0)), (yc 87, yc 3, (0, (1, 8, 0), yc 0)), (yc 85, yc 0, (0, (1, 12, 0), yc 0)), (yc 85, yc 2, (0, (1, 13, 0), yc 0)), (yc 85, yc 148, (0, (1, 14, 0), yc 0)), (yc 85, yc 150, (0, (1, 15, 0), yc 0)), (yc 85, yc 296, (0, (1, 16, 0), yc 0)), (yc 85, yc 298, (0, (1, 17, 0), yc 0)), (yc 85, yc 444, (0, (1, 18, 0), yc 0)), (yc 85, yc 446, (0, (1, 19, 0), yc 0)), (yc 70, yc 23, (0, (1, 2, 0), yc 0)), (yc 80, yc 0, (0, (1, 14, 0), yc 0)), (yc 80, yc 2, (0, (1, 15, 0), yc 0))], [], [(0, (1, 20, 0), yc 0)]), (21, [(0, 2, 2), (7, 1, 1), (20, (-2147483648), 2147483647)], [], [(yc 86, yc 0, (0, (1, 1, 0), yc 0)), (yc 86, yc 1, (0, (1, 2, 0), yc 0)), (yc 86, yc 2, (0, (1, 3, 0), yc 0)), (yc 86, yc 3, (0, (1, 4, 0), yc 0)), (yc 87, yc 0, (0, (1, 5, 0), yc 0)), (yc 87, yc 1, (0, (1, 6, 0), yc 0)), (yc 87, yc 2, (0, yc 1, yc 0)), (yc 87, yc 3, (0, (1, 8, 0), yc 0)), (yc 85, yc 0, (0, (1, 12, 0), yc 0)), (yc 85, yc 2, (0, (1, 13, 0), yc 0)), (yc 85, yc 148, (0, (1, 14, 0), yc 0)), (yc 85, yc 150, (0, (1, 15, 0), yc 0)), (yc 85, yc 296, (0, (1, 16, 0), yc 0)), (yc 85, yc 298, (0, (1, 17, 0), yc 0)), (yc 85, yc 444, (0, (1, 18, 0), yc 0)), (yc 85, yc 446, (0, (1, 19, 0), yc 0)), (yc 70, yc 23, (0, (1, 3, 0), yc 0)), (yc 80, yc 0, (0, (1, 16, 0), yc 0)), (yc 80, yc 2, (0, (1, 17, 0), yc 0))], [], [(0, (1, 20, 0), yc 0)]), (21, [(0, 3, 3), (8, 1, 1), (20, (-2147483648), 2147483647)], [], [(yc 86, yc 0, (0, (1, 1, 0), yc 0)), (yc 86, yc 1, (0, (1, 2, 0), yc 0)), (yc 86, yc 2, (0, (1, 3, 0), yc 0)), (yc 86, yc 3, (0, (1, 4, 0), yc 0)), (yc 87, yc 0, (0, (1, 5, 0), yc 0)), (yc 87, yc 1, (0, (1, 6, 0), yc 0)), (yc 87, yc 2, (0, (1, 7, 0), yc 0)), (yc 87, yc 3, (0, yc 1, yc 0)), (yc 85, yc 0, (0, (1, 12, 0), yc 0)), (yc 85, yc 2, (0, (1, 13, 0), yc 0)), (yc 85, yc 148, (0, (1, 14, 0), yc 0)), (yc 85, yc 150, (0, (1, 15, 0), yc 0)), (yc 85, yc 296, (0, (1, 16, 0), yc 0)), (yc 85, yc 298, (0, (1, 17, 0), yc 0)), (yc 85, yc 444, (0, (1, 18, 0), yc 0)), (yc 85, yc 446, (0, (1, 19, 0), yc 0)), (yc 70, yc 23, (0, (1, 4, 0), yc 0)), (yc 80, yc 0, (0, (1, 18, 0), yc 0)), (yc 80, yc 2, (0, (1, 19, 0), yc 0))], [], [(0, (1, 20, 0), yc 0)])], [(70, 70, 23), (70, 70, 25), (80, 80, 1000)])
theorem yw8 : ywf ys8.2.2.1 = true := by decide +kernel
/-- LTModel.village -/
def ys243 : ySp := (198, 2, (2, [(0, 0, 6), (1, 0, 6)], [], [(yc 80, yc 0, (0, (1, 0, 0), yc 0)), (yc 80, yc 2, (0, (1, 1, 0), yc 0))], [(0, (2, yc 70, yc 0))], []), [(7, [(2, 0, 6), (3, 1, 40), (4, 0, 50), (5, 2, 6), (6, 0, 400)], [], [(yc 70, yc 11, (0, yc 6, yc 0)), (yc 70, yc 14, (0, (1, 3, 0), yc 0)), (yc 76, yc 2, (0, (1, 2, 0), yc 0)), (yc 70, yc 9, (0, yc 0, yc 0)), (yc 70, yc 10, (0, (1, 4, 0), yc 0)), (yc 76, yc 0, (0, (1, 5, 0), yc 0)), (yc 70, yc 8, (0, (1, 6, 0), yc 0)), (yc 70, yc 1, (0, yc 0, yc 0)), (yc 80, yc 0, (0, (1, 5, 0), yc 0)), (yc 80, yc 2, (0, (1, 2, 0), yc 0))], [], [(0, (1, 2, 0), yc 0)]), (9, [(2, (-2147483648), 2147483647), (3, 0, 40), (4, 0, 6), (5, 0, 99999), (6, 0, 6), (7, 0, 400), (8, 1, 2147483647)], [], [(yc 80, yc 0, (0, (1, 0, 0), yc 0)), (yc 80, yc 2, (0, (1, 1, 0), yc 0)), (yc 70, yc 11, (0, yc 6, yc 0)), (yc 70, yc 14, (0, (1, 3, 0), yc 0)), (yc 76, yc 2, (0, (1, 4, 0), yc 0)), (yc 70, yc 10, (0, (1, 5, 0), yc 0)), (yc 76, yc 0, (0, (1, 6, 0), yc 0)), (yc 70, yc 8, (0, (1, 7, 0), yc 0)), (yc 70, yc 9, (0, (1, 8, 0), yc 0)), (yc 70, yc 1, (0, yc 0, yc 0))], [], [(0, (1, 2, 0), yc 0)])], [(70, 70, 1), (70, 70, 8), (70, 70, 9), (70, 70, 10), (70, 70, 11), (70, 70, 12), (70, 70, 14), (70, 70, 17), (70, 70, 18), (70, 70, 25), (73, 73, 1000), (76, 76, 1000), (80, 80, 1000)])
theorem yw243 : ywf ys243.2.2.1 = true := by decide +kernel
/-- LTModel.undo -/
def ys244 : ySp := (221, 2, (3, [(0, 1, 20), (1, 0, 6), (2, 0, 6)], [], [(yc 70, yc 25, (0, (1, 0, 0), yc 0)), (yc 81, (124, 0, (-124)), (0, (1, 1, 0), yc 0)), (yc 81, (124, 0, (-122)), (0, (1, 2, 0), yc 0))], [(0, (2, yc 70, yc 0))], []), [(3, [], [], [(yc 81, (124, 0, (-124)), (0, (1, 1, 0), yc 0)), (yc 81, (124, 0, (-122)), (0, (1, 2, 0), yc 0)), (yc 70, yc 25, (0, (1, 0, (-1)), yc 0)), (yc 80, yc 0, (0, (1, 1, 0), yc 0)), (yc 80, yc 2, (0, (1, 2, 0), yc 0))], [], [(0, (1, 0, (-1)), yc 0)])], [(70, 70, 25), (80, 80, 1000)])
theorem yw244 : ywf ys244.2.2.1 = true := by decide +kernel
/-- LTModel.undo -/
def ys245 : ySp := (221, 2, (0, [], [], [(yc 70, yc 25, (0, yc 0, yc 0))], [(0, (2, yc 70, yc 0))], []), [(0, [], [], [(yc 70, yc 25, (0, yc 0, yc 0))], [], [(0, yc (-1), yc 0)])], [])
theorem yw245 : ywf ys245.2.2.1 = true := by decide +kernel
/-- LTModel.undo -/
def ys246 : ySp := (221, 2, (0, [], [], [], [(0, (2, yc 70, yc 0))], []), [(1, [(0, (-2147483648), 2147483647)], [], [], [], [(0, (1, 0, 0), yc 0)])], [(70, 70, 25), (80, 80, 1000)])
theorem yw246 : ywf ys246.2.2.1 = true := by decide +kernel
/-- LT.rule -/
def ys646 : ySp := (126, 2, (0, [], [], [], [(0, (2, yc 0, yc 0))], []), [(1, [(0, (-2147483648), 2147483647)], [], [], [], [(0, (1, 0, 0), yc 0)])], [(0, 0, 1), (0, 0, 8), (2, 2, 0), (2, 2, 1), (2, 2, 2), (2, 2, 3), (2, 2, 4), (6, 6, 1), (6, 6, 3), (6, 6, 4), (6, 6, 5), (6, 6, 6), (6, 6, 7), (6, 6, 8), (6, 6, 9), (7, 8, 1000), (13, 13, 1000), (88, 999, 1000)])
theorem yw646 : ywf ys646.2.2.1 = true := by decide +kernel
def yXl : List (Nat × ySp) := [(1, ys0), (8, ys1), (5, ys2), (16, ys3), (1, ys4), (1, ys5), (2, ys7), (2, ys8), (8, ys243), (1, ys246), (12, ys646)]
/-- what is proved by hand -/
def yXt (E : zHp → Prop) : Prop := yEF E yFP ∧ ∀ q ∈ yXl, yTs E q.1 q.2
theorem yl0 {E : zHp → Prop} (h : yXt E) : yTs E 1 ys0 := h.2 (1, ys0) (List.mem_of_getElem? (i := 0) rfl)
theorem yl1 {E : zHp → Prop} (h : yXt E) : yTs E 8 ys1 := h.2 (8, ys1) (List.mem_of_getElem? (i := 1) rfl)
theorem yl2 {E : zHp → Prop} (h : yXt E) : yTs E 5 ys2 := h.2 (5, ys2) (List.mem_of_getElem? (i := 2) rfl)
theorem yl3 {E : zHp → Prop} (h : yXt E) : yTs E 16 ys3 := h.2 (16, ys3) (List.mem_of_getElem? (i := 3) rfl)
theorem yl4 {E : zHp → Prop} (h : yXt E) : yTs E 1 ys4 := h.2 (1, ys4) (List.mem_of_getElem? (i := 4) rfl)
theorem yl5 {E : zHp → Prop} (h : yXt E) : yTs E 1 ys5 := h.2 (1, ys5) (List.mem_of_getElem? (i := 5) rfl)
theorem yl7 {E : zHp → Prop} (h : yXt E) : yTs E 2 ys7 := h.2 (2, ys7) (List.mem_of_getElem? (i := 6) rfl)
theorem yl8 {E : zHp → Prop} (h : yXt E) : yTs E 2 ys8 := h.2 (2, ys8) (List.mem_of_getElem? (i := 7) rfl)
theorem yl243 {E : zHp → Prop} (h : yXt E) : yTs E 8 ys243 := h.2 (8, ys243) (List.mem_of_getElem? (i := 8) rfl)
theorem yl246 {E : zHp → Prop} (h : yXt E) : yTs E 1 ys246 := h.2 (1, ys246) (List.mem_of_getElem? (i := 9) rfl)
theorem yl646 {E : zHp → Prop} (h : yXt E) : yTs E 12 ys646 := h.2 (12, ys646) (List.mem_of_getElem? (i := 10) rfl)
set_option maxRecDepth 4000 in
theorem yg1 : zg zms 1 = some (zm1.2.2.1, zm1.2.2.2.1, zc1) := rfl
set_option maxRecDepth 4000 in
theorem yg2 : zg zms 2 = some (zm2.2.2.1, zm2.2.2.2.1, zc2) := rfl
set_option maxRecDepth 4000 in
theorem yg3 : zg zms 3 = some (zm3.2.2.1, zm3.2.2.2.1, zc3) := rfl
set_option maxRecDepth 4000 in
theorem yg4 : zg zms 4 = some (zm4.2.2.1, zm4.2.2.2.1, zc4) := rfl
set_option maxRecDepth 4000 in
theorem yg5 : zg zms 5 = some (zm5.2.2.1, zm5.2.2.2.1, zc5) := rfl
set_option maxRecDepth 4000 in
theorem yg6 : zg zms 6 = some (zm6.2.2.1, zm6.2.2.2.1, zc6) := rfl
set_option maxRecDepth 4000 in
theorem yg7 : zg zms 7 = some (zm7.2.2.1, zm7.2.2.2.1, zc7) := rfl
set_option maxRecDepth 4000 in
theorem yg8 : zg zms 8 = some (zm8.2.2.1, zm8.2.2.2.1, zc8) := rfl
set_option maxRecDepth 4000 in
theorem yg9 : zg zms 9 = some (zm9.2.2.1, zm9.2.2.2.1, zc9) := rfl
set_option maxRecDepth 4000 in
theorem yg11 : zg zms 11 = some (zm11.2.2.1, zm11.2.2.2.1, zc11) := rfl
set_option maxRecDepth 4000 in
theorem yg12 : zg zms 12 = some (zm12.2.2.1, zm12.2.2.2.1, zc12) := rfl
set_option maxRecDepth 4000 in
theorem yg14 : zg zms 14 = some (zm14.2.2.1, zm14.2.2.2.1, zc14) := rfl
set_option maxRecDepth 4000 in
theorem yg15 : zg zms 15 = some (zm15.2.2.1, zm15.2.2.2.1, zc15) := rfl
set_option maxRecDepth 4000 in
theorem yg16 : zg zms 16 = some (zm16.2.2.1, zm16.2.2.2.1, zc16) := rfl
set_option maxRecDepth 4000 in
theorem yg17 : zg zms 17 = some (zm17.2.2.1, zm17.2.2.2.1, zc17) := rfl
set_option maxRecDepth 4000 in
theorem yg19 : zg zms 19 = some (zm19.2.2.1, zm19.2.2.2.1, zc19) := rfl
set_option maxRecDepth 4000 in
theorem yg20 : zg zms 20 = some (zm20.2.2.1, zm20.2.2.2.1, zc20) := rfl
set_option maxRecDepth 4000 in
theorem yg21 : zg zms 21 = some (zm21.2.2.1, zm21.2.2.2.1, zc21) := rfl
set_option maxRecDepth 4000 in
theorem yg22 : zg zms 22 = some (zm22.2.2.1, zm22.2.2.2.1, zc22) := rfl
set_option maxRecDepth 4000 in
theorem yg23 : zg zms 23 = some (zm23.2.2.1, zm23.2.2.2.1, zc23) := rfl
set_option maxRecDepth 4000 in
theorem yg24 : zg zms 24 = some (zm24.2.2.1, zm24.2.2.2.1, zc24) := rfl
set_option maxRecDepth 4000 in
theorem yg26 : zg zms 26 = some (zm26.2.2.1, zm26.2.2.2.1, zc26) := rfl
set_option maxRecDepth 4000 in
theorem yg27 : zg zms 27 = some (zm27.2.2.1, zm27.2.2.2.1, zc27) := rfl
set_option maxRecDepth 4000 in
theorem yg28 : zg zms 28 = some (zm28.2.2.1, zm28.2.2.2.1, zc28) := rfl
set_option maxRecDepth 4000 in
theorem yg29 : zg zms 29 = some (zm29.2.2.1, zm29.2.2.2.1, zc29) := rfl
set_option maxRecDepth 4000 in
theorem yg30 : zg zms 30 = some (zm30.2.2.1, zm30.2.2.2.1, zc30) := rfl
set_option maxRecDepth 4000 in
theorem yg31 : zg zms 31 = some (zm31.2.2.1, zm31.2.2.2.1, zc31) := rfl
set_option maxRecDepth 4000 in
theorem yg34 : zg zms 34 = some (zm34.2.2.1, zm34.2.2.2.1, zc34) := rfl
set_option maxRecDepth 4000 in
theorem yg35 : zg zms 35 = some (zm35.2.2.1, zm35.2.2.2.1, zc35) := rfl
set_option maxRecDepth 4000 in
theorem yg36 : zg zms 36 = some (zm36.2.2.1, zm36.2.2.2.1, zc36) := rfl
set_option maxRecDepth 4000 in
theorem yg37 : zg zms 37 = some (zm37.2.2.1, zm37.2.2.2.1, zc37) := rfl
set_option maxRecDepth 4000 in
theorem yg38 : zg zms 38 = some (zm38.2.2.1, zm38.2.2.2.1, zc38) := rfl
set_option maxRecDepth 4000 in
theorem yg39 : zg zms 39 = some (zm39.2.2.1, zm39.2.2.2.1, zc39) := rfl
set_option maxRecDepth 4000 in
theorem yg40 : zg zms 40 = some (zm40.2.2.1, zm40.2.2.2.1, zc40) := rfl
set_option maxRecDepth 4000 in
theorem yg41 : zg zms 41 = some (zm41.2.2.1, zm41.2.2.2.1, zc41) := rfl
set_option maxRecDepth 4000 in
theorem yg42 : zg zms 42 = some (zm42.2.2.1, zm42.2.2.2.1, zc42) := rfl
set_option maxRecDepth 4000 in
theorem yg43 : zg zms 43 = some (zm43.2.2.1, zm43.2.2.2.1, zc43) := rfl
set_option maxRecDepth 4000 in
theorem yg44 : zg zms 44 = some (zm44.2.2.1, zm44.2.2.2.1, zc44) := rfl
set_option maxRecDepth 4000 in
theorem yg45 : zg zms 45 = some (zm45.2.2.1, zm45.2.2.2.1, zc45) := rfl
set_option maxRecDepth 4000 in
theorem yg46 : zg zms 46 = some (zm46.2.2.1, zm46.2.2.2.1, zc46) := rfl
set_option maxRecDepth 4000 in
theorem yg47 : zg zms 47 = some (zm47.2.2.1, zm47.2.2.2.1, zc47) := rfl
set_option maxRecDepth 4000 in
theorem yg48 : zg zms 48 = some (zm48.2.2.1, zm48.2.2.2.1, zc48) := rfl
set_option maxRecDepth 4000 in
theorem yg50 : zg zms 50 = some (zm50.2.2.1, zm50.2.2.2.1, zc50) := rfl
set_option maxRecDepth 4000 in
theorem yg51 : zg zms 51 = some (zm51.2.2.1, zm51.2.2.2.1, zc51) := rfl
set_option maxRecDepth 4000 in
theorem yg52 : zg zms 52 = some (zm52.2.2.1, zm52.2.2.2.1, zc52) := rfl
set_option maxRecDepth 4000 in
theorem yg53 : zg zms 53 = some (zm53.2.2.1, zm53.2.2.2.1, zc53) := rfl
set_option maxRecDepth 4000 in
theorem yg54 : zg zms 54 = some (zm54.2.2.1, zm54.2.2.2.1, zc54) := rfl
set_option maxRecDepth 4000 in
theorem yg55 : zg zms 55 = some (zm55.2.2.1, zm55.2.2.2.1, zc55) := rfl
set_option maxRecDepth 4000 in
theorem yg56 : zg zms 56 = some (zm56.2.2.1, zm56.2.2.2.1, zc56) := rfl
set_option maxRecDepth 4000 in
theorem yg57 : zg zms 57 = some (zm57.2.2.1, zm57.2.2.2.1, zc57) := rfl
set_option maxRecDepth 4000 in
theorem yg58 : zg zms 58 = some (zm58.2.2.1, zm58.2.2.2.1, zc58) := rfl
set_option maxRecDepth 4000 in
theorem yg59 : zg zms 59 = some (zm59.2.2.1, zm59.2.2.2.1, zc59) := rfl
set_option maxRecDepth 4000 in
theorem yg60 : zg zms 60 = some (zm60.2.2.1, zm60.2.2.2.1, zc60) := rfl
set_option maxRecDepth 4000 in
theorem yg61 : zg zms 61 = some (zm61.2.2.1, zm61.2.2.2.1, zc61) := rfl
set_option maxRecDepth 4000 in
theorem yg63 : zg zms 63 = some (zm63.2.2.1, zm63.2.2.2.1, zc63) := rfl
set_option maxRecDepth 4000 in
theorem yg64 : zg zms 64 = some (zm64.2.2.1, zm64.2.2.2.1, zc64) := rfl
set_option maxRecDepth 4000 in
theorem yg65 : zg zms 65 = some (zm65.2.2.1, zm65.2.2.2.1, zc65) := rfl
set_option maxRecDepth 4000 in
theorem yg66 : zg zms 66 = some (zm66.2.2.1, zm66.2.2.2.1, zc66) := rfl
set_option maxRecDepth 4000 in
theorem yg68 : zg zms 68 = some (zm68.2.2.1, zm68.2.2.2.1, zc68) := rfl
set_option maxRecDepth 4000 in
theorem yg69 : zg zms 69 = some (zm69.2.2.1, zm69.2.2.2.1, zc69) := rfl
set_option maxRecDepth 4000 in
theorem yg70 : zg zms 70 = some (zm70.2.2.1, zm70.2.2.2.1, zc70) := rfl
set_option maxRecDepth 4000 in
theorem yg71 : zg zms 71 = some (zm71.2.2.1, zm71.2.2.2.1, zc71) := rfl
set_option maxRecDepth 4000 in
theorem yg72 : zg zms 72 = some (zm72.2.2.1, zm72.2.2.2.1, zc72) := rfl
set_option maxRecDepth 4000 in
theorem yg73 : zg zms 73 = some (zm73.2.2.1, zm73.2.2.2.1, zc73) := rfl
set_option maxRecDepth 4000 in
theorem yg74 : zg zms 74 = some (zm74.2.2.1, zm74.2.2.2.1, zc74) := rfl
set_option maxRecDepth 4000 in
theorem yg75 : zg zms 75 = some (zm75.2.2.1, zm75.2.2.2.1, zc75) := rfl
set_option maxRecDepth 4000 in
theorem yg76 : zg zms 76 = some (zm76.2.2.1, zm76.2.2.2.1, zc76) := rfl
set_option maxRecDepth 4000 in
theorem yg77 : zg zms 77 = some (zm77.2.2.1, zm77.2.2.2.1, zc77) := rfl
set_option maxRecDepth 4000 in
theorem yg78 : zg zms 78 = some (zm78.2.2.1, zm78.2.2.2.1, zc78) := rfl
set_option maxRecDepth 4000 in
theorem yg79 : zg zms 79 = some (zm79.2.2.1, zm79.2.2.2.1, zc79) := rfl
set_option maxRecDepth 4000 in
theorem yg80 : zg zms 80 = some (zm80.2.2.1, zm80.2.2.2.1, zc80) := rfl
set_option maxRecDepth 4000 in
theorem yg81 : zg zms 81 = some (zm81.2.2.1, zm81.2.2.2.1, zc81) := rfl
set_option maxRecDepth 4000 in
theorem yg82 : zg zms 82 = some (zm82.2.2.1, zm82.2.2.2.1, zc82) := rfl
set_option maxRecDepth 4000 in
theorem yg83 : zg zms 83 = some (zm83.2.2.1, zm83.2.2.2.1, zc83) := rfl
set_option maxRecDepth 4000 in
theorem yg84 : zg zms 84 = some (zm84.2.2.1, zm84.2.2.2.1, zc84) := rfl
set_option maxRecDepth 4000 in
theorem yg85 : zg zms 85 = some (zm85.2.2.1, zm85.2.2.2.1, zc85) := rfl
set_option maxRecDepth 4000 in
theorem yg86 : zg zms 86 = some (zm86.2.2.1, zm86.2.2.2.1, zc86) := rfl
set_option maxRecDepth 4000 in
theorem yg87 : zg zms 87 = some (zm87.2.2.1, zm87.2.2.2.1, zc87) := rfl
set_option maxRecDepth 4000 in
theorem yg88 : zg zms 88 = some (zm88.2.2.1, zm88.2.2.2.1, zc88) := rfl
set_option maxRecDepth 4000 in
theorem yg89 : zg zms 89 = some (zm89.2.2.1, zm89.2.2.2.1, zc89) := rfl
set_option maxRecDepth 4000 in
theorem yg90 : zg zms 90 = some (zm90.2.2.1, zm90.2.2.2.1, zc90) := rfl
set_option maxRecDepth 4000 in
theorem yg91 : zg zms 91 = some (zm91.2.2.1, zm91.2.2.2.1, zc91) := rfl
set_option maxRecDepth 4000 in
theorem yg92 : zg zms 92 = some (zm92.2.2.1, zm92.2.2.2.1, zc92) := rfl
set_option maxRecDepth 4000 in
theorem yg93 : zg zms 93 = some (zm93.2.2.1, zm93.2.2.2.1, zc93) := rfl
set_option maxRecDepth 4000 in
theorem yg94 : zg zms 94 = some (zm94.2.2.1, zm94.2.2.2.1, zc94) := rfl
set_option maxRecDepth 4000 in
theorem yg95 : zg zms 95 = some (zm95.2.2.1, zm95.2.2.2.1, zc95) := rfl
set_option maxRecDepth 4000 in
theorem yg96 : zg zms 96 = some (zm96.2.2.1, zm96.2.2.2.1, zc96) := rfl
set_option maxRecDepth 4000 in
theorem yg97 : zg zms 97 = some (zm97.2.2.1, zm97.2.2.2.1, zc97) := rfl
set_option maxRecDepth 4000 in
theorem yg98 : zg zms 98 = some (zm98.2.2.1, zm98.2.2.2.1, zc98) := rfl
set_option maxRecDepth 4000 in
theorem yg99 : zg zms 99 = some (zm99.2.2.1, zm99.2.2.2.1, zc99) := rfl
set_option maxRecDepth 4000 in
theorem yg100 : zg zms 100 = some (zm100.2.2.1, zm100.2.2.2.1, zc100) := rfl
set_option maxRecDepth 4000 in
theorem yg101 : zg zms 101 = some (zm101.2.2.1, zm101.2.2.2.1, zc101) := rfl
set_option maxRecDepth 4000 in
theorem yg102 : zg zms 102 = some (zm102.2.2.1, zm102.2.2.2.1, zc102) := rfl
set_option maxRecDepth 4000 in
theorem yg103 : zg zms 103 = some (zm103.2.2.1, zm103.2.2.2.1, zc103) := rfl
set_option maxRecDepth 4000 in
theorem yg104 : zg zms 104 = some (zm104.2.2.1, zm104.2.2.2.1, zc104) := rfl
set_option maxRecDepth 4000 in
theorem yg105 : zg zms 105 = some (zm105.2.2.1, zm105.2.2.2.1, zc105) := rfl
set_option maxRecDepth 4000 in
theorem yg106 : zg zms 106 = some (zm106.2.2.1, zm106.2.2.2.1, zc106) := rfl
set_option maxRecDepth 4000 in
theorem yg107 : zg zms 107 = some (zm107.2.2.1, zm107.2.2.2.1, zc107) := rfl
set_option maxRecDepth 4000 in
theorem yg108 : zg zms 108 = some (zm108.2.2.1, zm108.2.2.2.1, zc108) := rfl
set_option maxRecDepth 4000 in
theorem yg109 : zg zms 109 = some (zm109.2.2.1, zm109.2.2.2.1, zc109) := rfl
set_option maxRecDepth 4000 in
theorem yg110 : zg zms 110 = some (zm110.2.2.1, zm110.2.2.2.1, zc110) := rfl
set_option maxRecDepth 4000 in
theorem yg111 : zg zms 111 = some (zm111.2.2.1, zm111.2.2.2.1, zc111) := rfl
set_option maxRecDepth 4000 in
theorem yg112 : zg zms 112 = some (zm112.2.2.1, zm112.2.2.2.1, zc112) := rfl
set_option maxRecDepth 4000 in
theorem yg113 : zg zms 113 = some (zm113.2.2.1, zm113.2.2.2.1, zc113) := rfl
set_option maxRecDepth 4000 in
theorem yg114 : zg zms 114 = some (zm114.2.2.1, zm114.2.2.2.1, zc114) := rfl
set_option maxRecDepth 4000 in
theorem yg116 : zg zms 116 = some (zm116.2.2.1, zm116.2.2.2.1, zc116) := rfl
set_option maxRecDepth 4000 in
theorem yg117 : zg zms 117 = some (zm117.2.2.1, zm117.2.2.2.1, zc117) := rfl
set_option maxRecDepth 4000 in
theorem yg118 : zg zms 118 = some (zm118.2.2.1, zm118.2.2.2.1, zc118) := rfl
set_option maxRecDepth 4000 in
theorem yg119 : zg zms 119 = some (zm119.2.2.1, zm119.2.2.2.1, zc119) := rfl
set_option maxRecDepth 4000 in
theorem yg120 : zg zms 120 = some (zm120.2.2.1, zm120.2.2.2.1, zc120) := rfl
set_option maxRecDepth 4000 in
theorem yg122 : zg zms 122 = some (zm122.2.2.1, zm122.2.2.2.1, zc122) := rfl
set_option maxRecDepth 4000 in
theorem yg123 : zg zms 123 = some (zm123.2.2.1, zm123.2.2.2.1, zc123) := rfl
set_option maxRecDepth 4000 in
theorem yg124 : zg zms 124 = some (zm124.2.2.1, zm124.2.2.2.1, zc124) := rfl
set_option maxRecDepth 4000 in
theorem yg125 : zg zms 125 = some (zm125.2.2.1, zm125.2.2.2.1, zc125) := rfl
set_option maxRecDepth 4000 in
theorem yg126 : zg zms 126 = some (zm126.2.2.1, zm126.2.2.2.1, zc126) := rfl
set_option maxRecDepth 4000 in
theorem yg127 : zg zms 127 = some (zm127.2.2.1, zm127.2.2.2.1, zc127) := rfl
set_option maxRecDepth 4000 in
theorem yg128 : zg zms 128 = some (zm128.2.2.1, zm128.2.2.2.1, zc128) := rfl
set_option maxRecDepth 4000 in
theorem yg129 : zg zms 129 = some (zm129.2.2.1, zm129.2.2.2.1, zc129) := rfl
set_option maxRecDepth 4000 in
theorem yg130 : zg zms 130 = some (zm130.2.2.1, zm130.2.2.2.1, zc130) := rfl
set_option maxRecDepth 4000 in
theorem yg131 : zg zms 131 = some (zm131.2.2.1, zm131.2.2.2.1, zc131) := rfl
set_option maxRecDepth 4000 in
theorem yg132 : zg zms 132 = some (zm132.2.2.1, zm132.2.2.2.1, zc132) := rfl
set_option maxRecDepth 4000 in
theorem yg133 : zg zms 133 = some (zm133.2.2.1, zm133.2.2.2.1, zc133) := rfl
set_option maxRecDepth 4000 in
theorem yg134 : zg zms 134 = some (zm134.2.2.1, zm134.2.2.2.1, zc134) := rfl
set_option maxRecDepth 4000 in
theorem yg135 : zg zms 135 = some (zm135.2.2.1, zm135.2.2.2.1, zc135) := rfl
set_option maxRecDepth 4000 in
theorem yg136 : zg zms 136 = some (zm136.2.2.1, zm136.2.2.2.1, zc136) := rfl
set_option maxRecDepth 4000 in
theorem yg137 : zg zms 137 = some (zm137.2.2.1, zm137.2.2.2.1, zc137) := rfl
set_option maxRecDepth 4000 in
theorem yg138 : zg zms 138 = some (zm138.2.2.1, zm138.2.2.2.1, zc138) := rfl
set_option maxRecDepth 4000 in
theorem yg139 : zg zms 139 = some (zm139.2.2.1, zm139.2.2.2.1, zc139) := rfl
set_option maxRecDepth 4000 in
theorem yg140 : zg zms 140 = some (zm140.2.2.1, zm140.2.2.2.1, zc140) := rfl
set_option maxRecDepth 4000 in
theorem yg141 : zg zms 141 = some (zm141.2.2.1, zm141.2.2.2.1, zc141) := rfl
set_option maxRecDepth 4000 in
theorem yg142 : zg zms 142 = some (zm142.2.2.1, zm142.2.2.2.1, zc142) := rfl
set_option maxRecDepth 4000 in
theorem yg143 : zg zms 143 = some (zm143.2.2.1, zm143.2.2.2.1, zc143) := rfl
set_option maxRecDepth 4000 in
theorem yg144 : zg zms 144 = some (zm144.2.2.1, zm144.2.2.2.1, zc144) := rfl
set_option maxRecDepth 4000 in
theorem yg145 : zg zms 145 = some (zm145.2.2.1, zm145.2.2.2.1, zc145) := rfl
set_option maxRecDepth 4000 in
theorem yg146 : zg zms 146 = some (zm146.2.2.1, zm146.2.2.2.1, zc146) := rfl
set_option maxRecDepth 4000 in
theorem yg147 : zg zms 147 = some (zm147.2.2.1, zm147.2.2.2.1, zc147) := rfl
set_option maxRecDepth 4000 in
theorem yg148 : zg zms 148 = some (zm148.2.2.1, zm148.2.2.2.1, zc148) := rfl
set_option maxRecDepth 4000 in
theorem yg149 : zg zms 149 = some (zm149.2.2.1, zm149.2.2.2.1, zc149) := rfl
set_option maxRecDepth 4000 in
theorem yg150 : zg zms 150 = some (zm150.2.2.1, zm150.2.2.2.1, zc150) := rfl
set_option maxRecDepth 4000 in
theorem yg151 : zg zms 151 = some (zm151.2.2.1, zm151.2.2.2.1, zc151) := rfl
set_option maxRecDepth 4000 in
theorem yg152 : zg zms 152 = some (zm152.2.2.1, zm152.2.2.2.1, zc152) := rfl
set_option maxRecDepth 4000 in
theorem yg153 : zg zms 153 = some (zm153.2.2.1, zm153.2.2.2.1, zc153) := rfl
set_option maxRecDepth 4000 in
theorem yg154 : zg zms 154 = some (zm154.2.2.1, zm154.2.2.2.1, zc154) := rfl
set_option maxRecDepth 4000 in
theorem yg155 : zg zms 155 = some (zm155.2.2.1, zm155.2.2.2.1, zc155) := rfl
set_option maxRecDepth 4000 in
theorem yg156 : zg zms 156 = some (zm156.2.2.1, zm156.2.2.2.1, zc156) := rfl
set_option maxRecDepth 4000 in
theorem yg158 : zg zms 158 = some (zm158.2.2.1, zm158.2.2.2.1, zc158) := rfl
set_option maxRecDepth 4000 in
theorem yg159 : zg zms 159 = some (zm159.2.2.1, zm159.2.2.2.1, zc159) := rfl
set_option maxRecDepth 4000 in
theorem yg160 : zg zms 160 = some (zm160.2.2.1, zm160.2.2.2.1, zc160) := rfl
set_option maxRecDepth 4000 in
theorem yg161 : zg zms 161 = some (zm161.2.2.1, zm161.2.2.2.1, zc161) := rfl
set_option maxRecDepth 4000 in
theorem yg162 : zg zms 162 = some (zm162.2.2.1, zm162.2.2.2.1, zc162) := rfl
set_option maxRecDepth 4000 in
theorem yg163 : zg zms 163 = some (zm163.2.2.1, zm163.2.2.2.1, zc163) := rfl
set_option maxRecDepth 4000 in
theorem yg164 : zg zms 164 = some (zm164.2.2.1, zm164.2.2.2.1, zc164) := rfl
set_option maxRecDepth 4000 in
theorem yg165 : zg zms 165 = some (zm165.2.2.1, zm165.2.2.2.1, zc165) := rfl
set_option maxRecDepth 4000 in
theorem yg166 : zg zms 166 = some (zm166.2.2.1, zm166.2.2.2.1, zc166) := rfl
set_option maxRecDepth 4000 in
theorem yg167 : zg zms 167 = some (zm167.2.2.1, zm167.2.2.2.1, zc167) := rfl
set_option maxRecDepth 4000 in
theorem yg168 : zg zms 168 = some (zm168.2.2.1, zm168.2.2.2.1, zc168) := rfl
set_option maxRecDepth 4000 in
theorem yg170 : zg zms 170 = some (zm170.2.2.1, zm170.2.2.2.1, zc170) := rfl
set_option maxRecDepth 4000 in
theorem yg186 : zg zms 186 = some (zm186.2.2.1, zm186.2.2.2.1, zc186) := rfl
set_option maxRecDepth 4000 in
theorem yg187 : zg zms 187 = some (zm187.2.2.1, zm187.2.2.2.1, zc187) := rfl
set_option maxRecDepth 4000 in
theorem yg188 : zg zms 188 = some (zm188.2.2.1, zm188.2.2.2.1, zc188) := rfl
set_option maxRecDepth 4000 in
theorem yg189 : zg zms 189 = some (zm189.2.2.1, zm189.2.2.2.1, zc189) := rfl
set_option maxRecDepth 4000 in
theorem yg190 : zg zms 190 = some (zm190.2.2.1, zm190.2.2.2.1, zc190) := rfl
set_option maxRecDepth 4000 in
theorem yg191 : zg zms 191 = some (zm191.2.2.1, zm191.2.2.2.1, zc191) := rfl
set_option maxRecDepth 4000 in
theorem yg192 : zg zms 192 = some (zm192.2.2.1, zm192.2.2.2.1, zc192) := rfl
set_option maxRecDepth 4000 in
theorem yg193 : zg zms 193 = some (zm193.2.2.1, zm193.2.2.2.1, zc193) := rfl
set_option maxRecDepth 4000 in
theorem yg194 : zg zms 194 = some (zm194.2.2.1, zm194.2.2.2.1, zc194) := rfl
set_option maxRecDepth 4000 in
theorem yg195 : zg zms 195 = some (zm195.2.2.1, zm195.2.2.2.1, zc195) := rfl
set_option maxRecDepth 4000 in
theorem yg196 : zg zms 196 = some (zm196.2.2.1, zm196.2.2.2.1, zc196) := rfl
set_option maxRecDepth 4000 in
theorem yg197 : zg zms 197 = some (zm197.2.2.1, zm197.2.2.2.1, zc197) := rfl
set_option maxRecDepth 4000 in
theorem yg198 : zg zms 198 = some (zm198.2.2.1, zm198.2.2.2.1, zc198) := rfl
set_option maxRecDepth 4000 in
theorem yg199 : zg zms 199 = some (zm199.2.2.1, zm199.2.2.2.1, zc199) := rfl
set_option maxRecDepth 4000 in
theorem yg204 : zg zms 204 = some (zm204.2.2.1, zm204.2.2.2.1, zc204) := rfl
set_option maxRecDepth 4000 in
theorem yg205 : zg zms 205 = some (zm205.2.2.1, zm205.2.2.2.1, zc205) := rfl
set_option maxRecDepth 4000 in
theorem yg206 : zg zms 206 = some (zm206.2.2.1, zm206.2.2.2.1, zc206) := rfl
set_option maxRecDepth 4000 in
theorem yg207 : zg zms 207 = some (zm207.2.2.1, zm207.2.2.2.1, zc207) := rfl
set_option maxRecDepth 4000 in
theorem yg208 : zg zms 208 = some (zm208.2.2.1, zm208.2.2.2.1, zc208) := rfl
set_option maxRecDepth 4000 in
theorem yg209 : zg zms 209 = some (zm209.2.2.1, zm209.2.2.2.1, zc209) := rfl
set_option maxRecDepth 4000 in
theorem yg210 : zg zms 210 = some (zm210.2.2.1, zm210.2.2.2.1, zc210) := rfl
set_option maxRecDepth 4000 in
theorem yg211 : zg zms 211 = some (zm211.2.2.1, zm211.2.2.2.1, zc211) := rfl
set_option maxRecDepth 4000 in
theorem yg212 : zg zms 212 = some (zm212.2.2.1, zm212.2.2.2.1, zc212) := rfl
set_option maxRecDepth 4000 in
theorem yg213 : zg zms 213 = some (zm213.2.2.1, zm213.2.2.2.1, zc213) := rfl
set_option maxRecDepth 4000 in
theorem yg214 : zg zms 214 = some (zm214.2.2.1, zm214.2.2.2.1, zc214) := rfl
set_option maxRecDepth 4000 in
theorem yg215 : zg zms 215 = some (zm215.2.2.1, zm215.2.2.2.1, zc215) := rfl
set_option maxRecDepth 4000 in
theorem yg216 : zg zms 216 = some (zm216.2.2.1, zm216.2.2.2.1, zc216) := rfl
set_option maxRecDepth 4000 in
theorem yg217 : zg zms 217 = some (zm217.2.2.1, zm217.2.2.2.1, zc217) := rfl
set_option maxRecDepth 4000 in
theorem yg218 : zg zms 218 = some (zm218.2.2.1, zm218.2.2.2.1, zc218) := rfl
set_option maxRecDepth 4000 in
theorem yg219 : zg zms 219 = some (zm219.2.2.1, zm219.2.2.2.1, zc219) := rfl
set_option maxRecDepth 4000 in
theorem yg220 : zg zms 220 = some (zm220.2.2.1, zm220.2.2.2.1, zc220) := rfl
set_option maxRecDepth 4000 in
theorem yg221 : zg zms 221 = some (zm221.2.2.1, zm221.2.2.2.1, zc221) := rfl
set_option maxRecDepth 4000 in
theorem yg222 : zg zms 222 = some (zm222.2.2.1, zm222.2.2.2.1, zc222) := rfl
set_option maxRecDepth 4000 in
theorem yg223 : zg zms 223 = some (zm223.2.2.1, zm223.2.2.2.1, zc223) := rfl
set_option maxRecDepth 4000 in
theorem yg224 : zg zms 224 = some (zm224.2.2.1, zm224.2.2.2.1, zc224) := rfl
set_option maxRecDepth 4000 in
theorem yg225 : zg zms 225 = some (zm225.2.2.1, zm225.2.2.2.1, zc225) := rfl
set_option maxRecDepth 4000 in
theorem yg226 : zg zms 226 = some (zm226.2.2.1, zm226.2.2.2.1, zc226) := rfl
set_option maxRecDepth 4000 in
theorem yg227 : zg zms 227 = some (zm227.2.2.1, zm227.2.2.2.1, zc227) := rfl
set_option maxRecDepth 4000 in
theorem yg228 : zg zms 228 = some (zm228.2.2.1, zm228.2.2.2.1, zc228) := rfl
set_option maxRecDepth 4000 in
theorem yg229 : zg zms 229 = some (zm229.2.2.1, zm229.2.2.2.1, zc229) := rfl
set_option maxRecDepth 4000 in
theorem yg230 : zg zms 230 = some (zm230.2.2.1, zm230.2.2.2.1, zc230) := rfl
set_option maxRecDepth 4000 in
theorem yg231 : zg zms 231 = some (zm231.2.2.1, zm231.2.2.2.1, zc231) := rfl
set_option maxRecDepth 4000 in
theorem yg232 : zg zms 232 = some (zm232.2.2.1, zm232.2.2.2.1, zc232) := rfl
set_option maxRecDepth 4000 in
theorem yg233 : zg zms 233 = some (zm233.2.2.1, zm233.2.2.2.1, zc233) := rfl
set_option maxRecDepth 4000 in
theorem yg234 : zg zms 234 = some (zm234.2.2.1, zm234.2.2.2.1, zc234) := rfl
set_option maxRecDepth 4000 in
theorem yg235 : zg zms 235 = some (zm235.2.2.1, zm235.2.2.2.1, zc235) := rfl
set_option maxRecDepth 4000 in
theorem yg236 : zg zms 236 = some (zm236.2.2.1, zm236.2.2.2.1, zc236) := rfl
set_option maxRecDepth 4000 in
theorem yg237 : zg zms 237 = some (zm237.2.2.1, zm237.2.2.2.1, zc237) := rfl
set_option maxRecDepth 4000 in
theorem yg238 : zg zms 238 = some (zm238.2.2.1, zm238.2.2.2.1, zc238) := rfl
set_option maxRecDepth 4000 in
theorem yg239 : zg zms 239 = some (zm239.2.2.1, zm239.2.2.2.1, zc239) := rfl
set_option maxRecDepth 4000 in
theorem yg240 : zg zms 240 = some (zm240.2.2.1, zm240.2.2.2.1, zc240) := rfl
set_option maxRecDepth 4000 in
theorem yg241 : zg zms 241 = some (zm241.2.2.1, zm241.2.2.2.1, zc241) := rfl
set_option maxRecDepth 4000 in
theorem yg242 : zg zms 242 = some (zm242.2.2.1, zm242.2.2.2.1, zc242) := rfl
set_option maxRecDepth 4000 in
theorem yg243 : zg zms 243 = some (zm243.2.2.1, zm243.2.2.2.1, zc243) := rfl
set_option maxRecDepth 4000 in
theorem yg244 : zg zms 244 = some (zm244.2.2.1, zm244.2.2.2.1, zc244) := rfl
set_option maxRecDepth 4000 in
theorem yg245 : zg zms 245 = some (zm245.2.2.1, zm245.2.2.2.1, zc245) := rfl
set_option maxRecDepth 4000 in
theorem yg246 : zg zms 246 = some (zm246.2.2.1, zm246.2.2.2.1, zc246) := rfl
set_option maxRecDepth 4000 in
theorem yg247 : zg zms 247 = some (zm247.2.2.1, zm247.2.2.2.1, zc247) := rfl
set_option maxRecDepth 4000 in
theorem yg248 : zg zms 248 = some (zm248.2.2.1, zm248.2.2.2.1, zc248) := rfl
set_option maxRecDepth 4000 in
theorem yg249 : zg zms 249 = some (zm249.2.2.1, zm249.2.2.2.1, zc249) := rfl
set_option maxRecDepth 4000 in
theorem yg250 : zg zms 250 = some (zm250.2.2.1, zm250.2.2.2.1, zc250) := rfl
set_option maxRecDepth 4000 in
theorem yg251 : zg zms 251 = some (zm251.2.2.1, zm251.2.2.2.1, zc251) := rfl
set_option maxRecDepth 4000 in
theorem yg252 : zg zms 252 = some (zm252.2.2.1, zm252.2.2.2.1, zc252) := rfl
set_option maxRecDepth 4000 in
theorem yg253 : zg zms 253 = some (zm253.2.2.1, zm253.2.2.2.1, zc253) := rfl
set_option maxRecDepth 4000 in
theorem yg254 : zg zms 254 = some (zm254.2.2.1, zm254.2.2.2.1, zc254) := rfl
set_option maxRecDepth 4000 in
theorem yg255 : zg zms 255 = some (zm255.2.2.1, zm255.2.2.2.1, zc255) := rfl
set_option maxRecDepth 4000 in
theorem yg256 : zg zms 256 = some (zm256.2.2.1, zm256.2.2.2.1, zc256) := rfl
set_option maxRecDepth 4000 in
theorem yg257 : zg zms 257 = some (zm257.2.2.1, zm257.2.2.2.1, zc257) := rfl
set_option maxRecDepth 4000 in
theorem yg258 : zg zms 258 = some (zm258.2.2.1, zm258.2.2.2.1, zc258) := rfl
set_option maxRecDepth 4000 in
theorem yg259 : zg zms 259 = some (zm259.2.2.1, zm259.2.2.2.1, zc259) := rfl
set_option maxRecDepth 4000 in
theorem yg260 : zg zms 260 = some (zm260.2.2.1, zm260.2.2.2.1, zc260) := rfl
set_option maxRecDepth 4000 in
theorem yg261 : zg zms 261 = some (zm261.2.2.1, zm261.2.2.2.1, zc261) := rfl
set_option maxRecDepth 4000 in
theorem yg262 : zg zms 262 = some (zm262.2.2.1, zm262.2.2.2.1, zc262) := rfl
set_option maxRecDepth 4000 in
theorem yg263 : zg zms 263 = some (zm263.2.2.1, zm263.2.2.2.1, zc263) := rfl
set_option maxRecDepth 4000 in
theorem yg264 : zg zms 264 = some (zm264.2.2.1, zm264.2.2.2.1, zc264) := rfl
set_option maxRecDepth 4000 in
theorem yg265 : zg zms 265 = some (zm265.2.2.1, zm265.2.2.2.1, zc265) := rfl
set_option maxRecDepth 4000 in
theorem yg267 : zg zms 267 = some (zm267.2.2.1, zm267.2.2.2.1, zc267) := rfl
set_option maxRecDepth 4000 in
theorem yg268 : zg zms 268 = some (zm268.2.2.1, zm268.2.2.2.1, zc268) := rfl
set_option maxRecDepth 4000 in
theorem yg269 : zg zms 269 = some (zm269.2.2.1, zm269.2.2.2.1, zc269) := rfl
set_option maxRecDepth 4000 in
theorem yg270 : zg zms 270 = some (zm270.2.2.1, zm270.2.2.2.1, zc270) := rfl
set_option maxRecDepth 4000 in
theorem yg271 : zg zms 271 = some (zm271.2.2.1, zm271.2.2.2.1, zc271) := rfl
set_option maxRecDepth 4000 in
theorem yg272 : zg zms 272 = some (zm272.2.2.1, zm272.2.2.2.1, zc272) := rfl
set_option maxRecDepth 4000 in
theorem yg273 : zg zms 273 = some (zm273.2.2.1, zm273.2.2.2.1, zc273) := rfl
set_option maxRecDepth 4000 in
theorem yg274 : zg zms 274 = some (zm274.2.2.1, zm274.2.2.2.1, zc274) := rfl
set_option maxRecDepth 4000 in
theorem yg275 : zg zms 275 = some (zm275.2.2.1, zm275.2.2.2.1, zc275) := rfl
set_option maxRecDepth 4000 in
theorem yg276 : zg zms 276 = some (zm276.2.2.1, zm276.2.2.2.1, zc276) := rfl
set_option maxRecDepth 4000 in
theorem yg277 : zg zms 277 = some (zm277.2.2.1, zm277.2.2.2.1, zc277) := rfl
set_option maxRecDepth 4000 in
theorem yg278 : zg zms 278 = some (zm278.2.2.1, zm278.2.2.2.1, zc278) := rfl
set_option maxRecDepth 4000 in
theorem yg279 : zg zms 279 = some (zm279.2.2.1, zm279.2.2.2.1, zc279) := rfl
set_option maxRecDepth 4000 in
theorem yg280 : zg zms 280 = some (zm280.2.2.1, zm280.2.2.2.1, zc280) := rfl
set_option maxRecDepth 4000 in
theorem yg281 : zg zms 281 = some (zm281.2.2.1, zm281.2.2.2.1, zc281) := rfl
set_option maxRecDepth 4000 in
theorem yg282 : zg zms 282 = some (zm282.2.2.1, zm282.2.2.2.1, zc282) := rfl
set_option maxRecDepth 4000 in
theorem yg283 : zg zms 283 = some (zm283.2.2.1, zm283.2.2.2.1, zc283) := rfl
set_option maxRecDepth 4000 in
theorem yg284 : zg zms 284 = some (zm284.2.2.1, zm284.2.2.2.1, zc284) := rfl
set_option maxRecDepth 4000 in
theorem yg285 : zg zms 285 = some (zm285.2.2.1, zm285.2.2.2.1, zc285) := rfl
set_option maxRecDepth 4000 in
theorem yg286 : zg zms 286 = some (zm286.2.2.1, zm286.2.2.2.1, zc286) := rfl
set_option maxRecDepth 4000 in
theorem yg291 : zg zms 291 = some (zm291.2.2.1, zm291.2.2.2.1, zc291) := rfl
set_option maxRecDepth 4000 in
theorem yg293 : zg zms 293 = some (zm293.2.2.1, zm293.2.2.2.1, zc293) := rfl
