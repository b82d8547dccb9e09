/-! Rows: tools only where there are houses. What copies rows, keeps it. -/
/-- in this row, from place j on: with a tool there is a house -/
def yP (hp : zHp) (c j : Nat) : Prop := ∀ x y : Int32, yrd hp c (j : Int) = some (.int x) → yrd hp c ((j + 2 : Nat) : Int) = some (.int y) → 0 < y.toInt → 0 < x.toInt
def yE1 (hp : zHp) : Prop := yP hp 80 0 ∧ yP hp 84 0 ∧ (∀ k, k < 20 → yP hp 81 (124 * k)) ∧ ∀ k, k < 4 → yP hp 85 (148 * k)
def yQ (r : Nat → Int) (l0 l2 : yL) : Prop := 0 < yev r l2 → 0 < yev r l0
section YLIF
variable {hp hp' : zHp} {r : Nat → Int} {q : yS} {lv : List (Nat × Value)} {st : List Value}
theorem yat {c : Nat} {j : Int} {l a : yL} (g : yG hp r q lv st) (m : (yc c, yc j, ((0, l, a) : yV)) ∈ q.2.2.2.1) : ∃ x : Int32, yrd hp c j = some (.int x) ∧ x.toInt = yev r l := by
  obtain ⟨-, k1, w, k2, k3⟩ := g.2.2.1 _ m
  have k2 : yrd hp (yev r (yc c)).toNat (yev r (yc j)) = some w := k2
  rw [yev_c, yev_c, Int.toNat_natCast] at k2
  obtain ⟨x, rfl, hx⟩ := yvI' rfl k3
  exact ⟨x, k2, hx⟩
theorem yP_post {c j : Nat} {l0 l2 a0 a2 : yL} (g : yG hp r q lv st) (m0 : (yc c, yc (j : Int), ((0, l0, a0) : yV)) ∈ q.2.2.2.1) (m2 : (yc c, yc ((j + 2 : Nat) : Int), ((0, l2, a2) : yV)) ∈ q.2.2.2.1) (h : yQ r l0 l2) : yP hp c j := by
  obtain ⟨x, e1, e2⟩ := yat g m0
  obtain ⟨y, e3, e4⟩ := yat g m2
  intro x2 y2 h1 h2 h3
  rw [e1] at h1
  rw [e3] at h2
  cases h1
  cases h2
  rw [e2]
  exact h (by rw [← e4]; exact h3)
theorem yP_pre {c j : Nat} {l0 l2 a0 a2 : yL} (g : yG hp r q lv st) (m0 : (yc c, yc (j : Int), ((0, l0, a0) : yV)) ∈ q.2.2.2.1) (m2 : (yc c, yc ((j + 2 : Nat) : Int), ((0, l2, a2) : yV)) ∈ q.2.2.2.1) (h : yP hp c j) : yQ r l0 l2 := by
  obtain ⟨x, e1, e2⟩ := yat g m0
  obtain ⟨y, e3, e4⟩ := yat g m2
  intro h3
  rw [← e2]
  exact h x y e1 e3 (by rw [e4]; exact h3)
theorem yQ_ag {n : Nat} {r2 : Nat → Int} (ha : yag n r r2) {l0 l2 : yL} (w0 : yw n l0) (w2 : yw n l2) (h : yQ r l0 l2) : yQ r2 l0 l2 := by
  unfold yQ
  rw [yev_ag ha w0, yev_ag ha w2]
  exact h
theorem yP_F {M : yM} {c j : Nat} (f : yF M hp hp') (h0 : yinM M c (j : Int) = false) (h2 : yinM M c ((j + 2 : Nat) : Int) = false) (h : yP hp c j) : yP hp' c j := by
  intro x y e1 e2 e3
  rw [f.2.2 c _ (Or.inr h0)] at e1
  rw [f.2.2 c _ (Or.inr h2)] at e2
  exact h x y e1 e2 e3
/-- from nothing to E -/
theorem ylift {E : zHp → Prop} {n : Nat} {sp : ySp} (h : yTs (fun _ => True) n sp) (k : ∀ (hp : zHp) (r : Nat → Int) (lv : List (Nat × Value)) (x : zRe) (q : yS) (r2 : Nat → Int) (s : List Value), E hp → yG hp r sp.2.2.1 lv [] → yF sp.2.2.2.2 hp x.2 → q ∈ sp.2.2.2.1 → yag sp.2.2.1.1 r r2 → yG x.2 r2 q [] s → E x.2) : yTs E n sp := by
  intro d hd hp r as H g hl hlen
  obtain ⟨x, x1, x2, x3, q, hq, r2, a1, a2, g2⟩ := h d hd hp r as ⟨H.1, trivial⟩ g hl hlen
  exact ⟨x, x1, ⟨x2.1, k hp r _ x q r2 _ H.2 g x3 hq a1 g2⟩, x3, q, hq, r2, a1, a2, g2⟩
end YLIF
