section
/-! The heap behind the two constructors, closed; the law from its entry on. -/
def zpre : Option (zFr × zHp) := zstN (zcall zts zms 1000 20) 4 ret zcL 10 (0, [(0, .ref zSC)], []) zh0
def hpC : zHp := match zpre with
  | some x => x.2
  | none => zh0
theorem zpre_fr : zpre.map (fun x => x.1) = some (18, [(3, .int 0), (2, .ref 70), (1, .ref 0), (0, .ref 1000)], []) := by decide +kernel
theorem zpre_eq : zpre = some ((18, [(3, .int 0), (2, .ref 70), (1, .ref 0), (0, .ref 1000)], []), hpC) := by
  have h := zpre_fr
  unfold hpC
  cases hz : zpre with
  | none => rw [hz] at h; cases h
  | some x =>
    rw [hz] at h
    have h2 : x.1 = (18, [(3, .int 0), (2, .ref 70), (1, .ref 0), (0, .ref 1000)], []) := Option.some.inj h
    show some x = some (_, x.2)
    rw [← h2]
theorem hpC_n : hpC.1 = 88 := by decide +kernel
/-- a cell at the start is as its kind says -/
def ychf (t : Nat × Int × Int) (v : Value) : Bool := match t.1, v with
  | 0, .int x => decide (t.2.1 ≤ x.toInt) && decide (x.toInt ≤ t.2.2)
  | 1, .long x => decide (t.2.1 ≤ x.toInt) && decide (x.toInt ≤ t.2.2)
  | 2, .ref i => decide (t.2.1 ≤ ((i : Nat) : Int)) && decide (((i : Nat) : Int) ≤ t.2.2)
  | _, _ => false
def ychfs : List (Nat × Int × Int) → List Value → Bool
  | [], [] => true
  | t :: l, v :: m => ychf t v && ychfs l m
  | _, _ => false
def ychc (c : yC) (x : zCl) : Bool := match c.1, x with
  | 0, .inr q => q.1 == c.2.1 && ychfs c.2.2.2.2 q.2
  | 1, .inl (t, n, .inl f) => decide (c.2.1 < 3) && (t == c.2.1 && (n == c.2.2.1 && (List.range n).all (fun j => decide ((yel c.2.2.2.1 j).1 ≤ (f j).toInt) && decide ((f j).toInt ≤ (yel c.2.2.2.1 j).2))))
  | 1, .inl (t, n, .inr (.inl _)) => c.2.1 == 3 && (t == 3 && n == c.2.2.1)
  | 1, .inl (t, n, .inr (.inr (.inr (.inr f)))) => (c.2.1 == 4 && (t == 4 && (n == c.2.2.1 && (List.range n).all (fun j => (f j).isNone)))) || (c.2.1 == 5 && (t == 5 && (n == c.2.2.1 && (List.range n).all (fun j => f j == some (c.2.2.2.1 + j)))))
  | _, _ => false
theorem ychf_ok {t : Nat × Int × Int} {v : Value} (h : ychf t v = true) : yft t v := by
  obtain ⟨k, lo, hi⟩ := t
  unfold ychf at h
  split at h
  · next x e =>
    have e : k = 0 := e
    subst e
    simp only [Bool.and_eq_true, decide_eq_true_eq] at h
    exact ⟨x, rfl, h.1, h.2⟩
  · next x e =>
    have e : k = 1 := e
    subst e
    simp only [Bool.and_eq_true, decide_eq_true_eq] at h
    exact ⟨x, rfl, h.1, h.2⟩
  · next i e =>
    have e : k = 2 := e
    subst e
    simp only [Bool.and_eq_true, decide_eq_true_eq] at h
    exact ⟨i, rfl, h.1, h.2⟩
  · cases h
theorem ychfs_ok : ∀ {l : List (Nat × Int × Int)} {m : List Value}, ychfs l m = true → m.length = l.length ∧ ∀ (j : Nat) (t : Nat × Int × Int), l[j]? = some t → ∃ v, m[j]? = some v ∧ yft t v
  | [], [], _ => ⟨rfl, fun j t h => by cases j <;> cases h⟩
  | [], _ :: _, h => by cases h
  | _ :: _, [], h => by cases h
  | t :: l, v :: m, h => by
    unfold ychfs at h
    rw [Bool.and_eq_true] at h
    have ih := ychfs_ok h.2
    refine ⟨congrArg (· + 1) ih.1, fun j t2 ht => ?_⟩
    cases j with
    | zero => cases ht; exact ⟨v, rfl, ychf_ok h.1⟩
    | succ j => exact ih.2 j t2 (by simpa using ht)
theorem ychc_ok {h : Nat} {c : yC} {x : zCl} (k : ychc c x = true) : yokc h c x := by
  obtain ⟨c1, c2, c3, c4, c5⟩ := c
  unfold ychc at k
  split at k
  · next q e =>
    have e : c1 = 0 := e
    subst e
    simp only [Bool.and_eq_true, beq_iff_eq] at k
    obtain ⟨q1, q2⟩ := q
    have k1 : q1 = c2 := k.1
    subst k1
    have := ychfs_ok k.2
    exact ⟨q2, rfl, this.1, this.2⟩
  · next t n f e =>
    have e : c1 = 1 := e
    subst e
    simp only [Bool.and_eq_true, beq_iff_eq, decide_eq_true_eq] at k
    obtain ⟨k1, k2, k3, k4⟩ := k
    have k2 : t = c2 := k2
    have k3 : n = c3 := k3
    subst k2
    subst k3
    have el : ∀ j, j < n → (yel c4 j).1 ≤ (f j).toInt ∧ (f j).toInt ≤ (yel c4 j).2 := fun j hj => by
      have := List.all_eq_true.mp k4 j (List.mem_range.mpr hj)
      simpa using this
    have t3 : t = 0 ∨ t = 1 ∨ t = 2 := by have : t < 3 := k1; omega
    rcases t3 with rfl | rfl | rfl
    · exact ⟨(show (0 : Nat) < 3 by decide), f, rfl, el⟩
    · exact ⟨(show (1 : Nat) < 3 by decide), f, rfl, el⟩
    · exact ⟨(show (2 : Nat) < 3 by decide), f, rfl, el⟩
  · next t n f e =>
    have e : c1 = 1 := e
    subst e
    simp only [Bool.and_eq_true, beq_iff_eq] at k
    obtain ⟨k1, k2, k3⟩ := k
    have k1 : c2 = 3 := k1
    have k3 : n = c3 := k3
    subst k1
    subst k2
    subst k3
    exact ⟨f, rfl⟩
  · next t n f e =>
    have e : c1 = 1 := e
    subst e
    simp only [Bool.or_eq_true, Bool.and_eq_true, beq_iff_eq] at k
    rcases k with ⟨k1, k2, k3, k4⟩ | ⟨k1, k2, k3, k4⟩
    · have k1 : c2 = 4 := k1
      have k3 : n = c3 := k3
      subst k1
      subst k2
      subst k3
      refine ⟨f, rfl, fun j hj => Or.inl ?_⟩
      have := List.all_eq_true.mp k4 j (List.mem_range.mpr hj)
      simpa using this
    · have k1 : c2 = 5 := k1
      have k3 : n = c3 := k3
      subst k1
      subst k2
      subst k3
      refine ⟨f, rfl, fun j hj => ?_⟩
      have := List.all_eq_true.mp k4 j (List.mem_range.mpr hj)
      simpa using this
  · cases k
theorem hpC_c : (List.range 88).all (fun i => ychc (yty i) (hpC.2 i)) = true := by decide +kernel
theorem hpC_H : yH0 hpC := by
  refine ⟨by rw [hpC_n]; decide, by rw [hpC_n]; decide, fun i hi => ?_⟩
  rw [hpC_n] at hi
  exact ychc_ok (List.all_eq_true.mp hpC_c i (List.mem_range.mpr hi))
end
section
/-! Rows: tools only where there are houses. What copies rows, keeps it. -/
/-- in this row, from place j on: with a tool there is a house -/
def yP (hp : zHp) (c j : Nat) : Prop := ∀ x y : Int32, yrd hp c (j : Int) = some (.int x) → yrd hp c ((j + 2 : Nat) : Int) = some (.int y) → 0 < y.toInt → 0 < x.toInt
def yE1 (hp : zHp) : Prop := yP hp 80 0 ∧ yP hp 84 0 ∧ (∀ k, k < 20 → yP hp 81 (124 * k)) ∧ ∀ k, k < 4 → yP hp 85 (148 * k)
def yQ (r : Nat → Int) (l0 l2 : yL) : Prop := 0 < yev r l2 → 0 < yev r l0
section YLIF
variable {hp hp' : zHp} {r : Nat → Int} {q : yS} {lv : List (Nat × Value)} {st : List Value}
theorem yat {c : Nat} {j : Int} {l a : yL} (g : yG hp r q lv st) (m : (yc c, yc j, ((0, l, a) : yV)) ∈ q.2.2.2.1) : ∃ x : Int32, yrd hp c j = some (.int x) ∧ x.toInt = yev r l := by
  obtain ⟨-, k1, w, k2, k3⟩ := g.2.2.1 _ m
  have k2 : yrd hp (yev r (yc c)).toNat (yev r (yc j)) = some w := k2
  rw [yev_c, yev_c, Int.toNat_natCast] at k2
  obtain ⟨x, rfl, hx⟩ := yvI' rfl k3
  exact ⟨x, k2, hx⟩
theorem yP_post {c j : Nat} {l0 l2 a0 a2 : yL} (g : yG hp r q lv st) (m0 : (yc c, yc (j : Int), ((0, l0, a0) : yV)) ∈ q.2.2.2.1) (m2 : (yc c, yc ((j + 2 : Nat) : Int), ((0, l2, a2) : yV)) ∈ q.2.2.2.1) (h : yQ r l0 l2) : yP hp c j := by
  obtain ⟨x, e1, e2⟩ := yat g m0
  obtain ⟨y, e3, e4⟩ := yat g m2
  intro x2 y2 h1 h2 h3
  rw [e1] at h1
  rw [e3] at h2
  cases h1
  cases h2
  rw [e2]
  exact h (by rw [← e4]; exact h3)
theorem yP_pre {c j : Nat} {l0 l2 a0 a2 : yL} (g : yG hp r q lv st) (m0 : (yc c, yc (j : Int), ((0, l0, a0) : yV)) ∈ q.2.2.2.1) (m2 : (yc c, yc ((j + 2 : Nat) : Int), ((0, l2, a2) : yV)) ∈ q.2.2.2.1) (h : yP hp c j) : yQ r l0 l2 := by
  obtain ⟨x, e1, e2⟩ := yat g m0
  obtain ⟨y, e3, e4⟩ := yat g m2
  intro h3
  rw [← e2]
  exact h x y e1 e3 (by rw [e4]; exact h3)
theorem yQ_ag {n : Nat} {r2 : Nat → Int} (ha : yag n r r2) {l0 l2 : yL} (w0 : yw n l0) (w2 : yw n l2) (h : yQ r l0 l2) : yQ r2 l0 l2 := by
  unfold yQ
  rw [yev_ag ha w0, yev_ag ha w2]
  exact h
theorem yP_F {M : yM} {c j : Nat} (f : yF M hp hp') (h0 : yinM M c (j : Int) = false) (h2 : yinM M c ((j + 2 : Nat) : Int) = false) (h : yP hp c j) : yP hp' c j := by
  intro x y e1 e2 e3
  rw [f.2.2 c _ (Or.inr h0)] at e1
  rw [f.2.2 c _ (Or.inr h2)] at e2
  exact h x y e1 e2 e3
/-- from nothing to E -/
theorem ylift {E : zHp → Prop} {n : Nat} {sp : ySp} (h : yTs (fun _ => True) n sp) (k : ∀ (hp : zHp) (r : Nat → Int) (lv : List (Nat × Value)) (x : zRe) (q : yS) (r2 : Nat → Int) (s : List Value), E hp → yG hp r sp.2.2.1 lv [] → yF sp.2.2.2.2 hp x.2 → q ∈ sp.2.2.2.1 → yag sp.2.2.1.1 r r2 → yG x.2 r2 q [] s → E x.2) : yTs E n sp := by
  intro d hd hp r as H g hl hlen
  obtain ⟨x, x1, x2, x3, q, hq, r2, a1, a2, g2⟩ := h d hd hp r as ⟨H.1, trivial⟩ g hl hlen
  exact ⟨x, x1, ⟨x2.1, k hp r _ x q r2 _ H.2 g x3 hq a1 g2⟩, x3, q, hq, r2, a1, a2, g2⟩
end YLIF
end
section
/-! The lifts of what copies rows. -/
def yFA : yM := [(72, 72, 1000), (74, 75, 1000), (0, 0, 8)]
def yEA (A : zHp → Prop) (hp : zHp) : Prop := yE1 hp ∧ A hp
theorem yA_F {A : zHp → Prop} (hA : yEF A yFA) {M : yM} {hp hp' : zHp} (h9 : yinM M 999 0 = false) (hd : ∀ i j, yinM yFA i j = true → yinM M i j = false) (f : yF M hp hp') (h : A hp) : A hp' := hA hp hp' h (f.2.1 h9) (fun i j k => f.2.2 i j (Or.inr (hd i j k)))
/-- masks that meet nowhere, by their cells and places -/
def ydj (M N : yM) : Bool := M.all (fun m => N.all (fun n => decide (m.2.1 < n.1) || decide (n.2.1 < m.1) || (!(m.2.2 == 1000) && !(n.2.2 == 1000) && !(m.2.2 == n.2.2))))
theorem ydj_ok {M N : yM} (h : ydj M N = true) : ∀ i j, yinM N i j = true → yinM M i j = false := by
  intro i j hn
  cases e : yinM M i j with
  | false => rfl
  | true =>
    exfalso
    unfold yinM at e hn
    rw [List.any_eq_true] at e hn
    obtain ⟨m, hm, e⟩ := e
    obtain ⟨n, hn1, e2⟩ := hn
    have k := List.all_eq_true.mp (List.all_eq_true.mp h m hm) n hn1
    simp only [Bool.and_eq_true, Bool.or_eq_true, decide_eq_true_eq, beq_iff_eq, Bool.not_eq_true', beq_eq_false_iff_ne] at e e2 k
    obtain ⟨⟨a1, a2⟩, a3⟩ := e
    obtain ⟨⟨b1, b2⟩, b3⟩ := e2
    rcases k with (k | k) | ⟨⟨k1, k2⟩, k3⟩
    · omega
    · omega
    · rcases a3 with a3 | a3
      · exact k1 a3
      · rcases b3 with b3 | b3
        · exact k2 b3
        · omega
theorem y4 {hp : zHp} (h0 : yP hp 85 (148 * 0)) (h1 : yP hp 85 (148 * 1)) (h2 : yP hp 85 (148 * 2)) (h3 : yP hp 85 (148 * 3)) : ∀ k, k < 4 → yP hp 85 (148 * k)
  | 0, _ => h0
  | 1, _ => h1
  | 2, _ => h2
  | 3, _ => h3
theorem yposl {hp : zHp} {r : Nat → Int} {q : yS} {lv : List (Nat × Value)} {st : List Value} (g : yG hp r q lv st) {i s : Nat} {lo hi : Int} (h : q.2.1[i]? = some (s, lo, hi)) (h0 : 0 < lo) : 0 < yev r (1, s, 0) := by
  have k := g.1 _ (List.mem_of_getElem? h)
  have k1 : lo ≤ r s := k.2.1
  show 0 < 1 * r s + 0
  omega
/-- LTModel.keeps -/
theorem yL4 {A : zHp → Prop} (hA : yEF A yFA) : yTs (yEA A) 1 ys4 := ylift yt4 (fun hp r lv x q r2 s hE g hf hq ha g2 => by
  refine ⟨?_, yA_F hA (M := ys4.2.2.2.2) (by decide) (ydj_ok (by decide)) hf hE.2⟩
  have hq : q ∈ [(2, [], [], [(yc 80, yc 0, (0, (1, 0, 0), yc 0)), (yc 80, yc 2, (0, (1, 1, 0), yc 0)), (yc 84, yc 0, (0, (1, 0, 0), yc 0)), (yc 84, yc 2, (0, (1, 1, 0), yc 0))], [], [])] := hq
  simp only [List.mem_cons, List.mem_nil_iff, or_false] at hq
  rcases hq with rfl
  · exact ⟨(yP_F hf (by decide) (by decide) hE.1.1), (yP_post (j := 0) g2 (List.mem_of_getElem? (i := 2) rfl) (List.mem_of_getElem? (i := 3) rfl) (yQ_ag ha (Or.inr (by decide)) (Or.inr (by decide)) (yP_pre (j := 0) g (List.mem_of_getElem? (i := 0) rfl) (List.mem_of_getElem? (i := 1) rfl) hE.1.1))), (fun k hk => yP_F hf (by simp [yinM, ys4]) (by simp [yinM, ys4]) (hE.1.2.2.1 k hk)), (fun k hk => yP_F hf (by simp [yinM, ys4]) (by simp [yinM, ys4]) (hE.1.2.2.2 k hk))⟩)
/-- LTModel.laysBack -/
theorem yL5 {A : zHp → Prop} (hA : yEF A yFA) : yTs (yEA A) 1 ys5 := ylift yt5 (fun hp r lv x q r2 s hE g hf hq ha g2 => by
  refine ⟨?_, yA_F hA (M := ys5.2.2.2.2) (by decide) (ydj_ok (by decide)) hf hE.2⟩
  have hq : q ∈ [(2, [], [], [(yc 84, yc 0, (0, (1, 0, 0), yc 0)), (yc 84, yc 2, (0, (1, 1, 0), yc 0)), (yc 80, yc 0, (0, (1, 0, 0), yc 0)), (yc 80, yc 2, (0, (1, 1, 0), yc 0))], [], [])] := hq
  simp only [List.mem_cons, List.mem_nil_iff, or_false] at hq
  rcases hq with rfl
  · exact ⟨(yP_post (j := 0) g2 (List.mem_of_getElem? (i := 2) rfl) (List.mem_of_getElem? (i := 3) rfl) (yQ_ag ha (Or.inr (by decide)) (Or.inr (by decide)) (yP_pre (j := 0) g (List.mem_of_getElem? (i := 0) rfl) (List.mem_of_getElem? (i := 1) rfl) hE.1.2.1))), (yP_F hf (by decide) (by decide) hE.1.2.1), (fun k hk => yP_F hf (by simp [yinM, ys5]) (by simp [yinM, ys5]) (hE.1.2.2.1 k hk)), (fun k hk => yP_F hf (by simp [yinM, ys5]) (by simp [yinM, ys5]) (hE.1.2.2.2 k hk))⟩)
/-- LTModel.image -/
theorem yL7 {A : zHp → Prop} (hA : yEF A yFA) : yTs (yEA A) 2 ys7 := ylift yt7 (fun hp r lv x q r2 s hE g hf hq ha g2 => by
  refine ⟨?_, yA_F hA (M := ys7.2.2.2.2) (by decide) (ydj_ok (by decide)) hf hE.2⟩
  have hq : q ∈ [(20, [(0, (-2147483648), (-1))], [], [(yc 86, yc 0, (0, (1, 1, 0), yc 0)), (yc 86, yc 1, (0, (1, 2, 0), yc 0)), (yc 86, yc 2, (0, (1, 3, 0), yc 0)), (yc 86, yc 3, (0, (1, 4, 0), yc 0)), (yc 87, yc 0, (0, (1, 5, 0), yc 0)), (yc 87, yc 1, (0, (1, 6, 0), yc 0)), (yc 87, yc 2, (0, (1, 7, 0), yc 0)), (yc 87, yc 3, (0, (1, 8, 0), yc 0)), (yc 70, yc 23, (0, (1, 9, 0), yc 0)), (yc 80, yc 0, (0, (1, 10, 0), yc 0)), (yc 80, yc 2, (0, (1, 11, 0), yc 0)), (yc 85, yc 0, (0, (1, 12, 0), yc 0)), (yc 85, yc 2, (0, (1, 13, 0), yc 0)), (yc 85, yc 148, (0, (1, 14, 0), yc 0)), (yc 85, yc 150, (0, (1, 15, 0), yc 0)), (yc 85, yc 296, (0, (1, 16, 0), yc 0)), (yc 85, yc 298, (0, (1, 17, 0), yc 0)), (yc 85, yc 444, (0, (1, 18, 0), yc 0)), (yc 85, yc 446, (0, (1, 19, 0), yc 0))], [], [(0, yc (-1), yc 0)]), (20, [(0, 4, 2147483647)], [], [(yc 86, yc 0, (0, (1, 1, 0), yc 0)), (yc 86, yc 1, (0, (1, 2, 0), yc 0)), (yc 86, yc 2, (0, (1, 3, 0), yc 0)), (yc 86, yc 3, (0, (1, 4, 0), yc 0)), (yc 87, yc 0, (0, (1, 5, 0), yc 0)), (yc 87, yc 1, (0, (1, 6, 0), yc 0)), (yc 87, yc 2, (0, (1, 7, 0), yc 0)), (yc 87, yc 3, (0, (1, 8, 0), yc 0)), (yc 70, yc 23, (0, (1, 9, 0), yc 0)), (yc 80, yc 0, (0, (1, 10, 0), yc 0)), (yc 80, yc 2, (0, (1, 11, 0), yc 0)), (yc 85, yc 0, (0, (1, 12, 0), yc 0)), (yc 85, yc 2, (0, (1, 13, 0), yc 0)), (yc 85, yc 148, (0, (1, 14, 0), yc 0)), (yc 85, yc 150, (0, (1, 15, 0), yc 0)), (yc 85, yc 296, (0, (1, 16, 0), yc 0)), (yc 85, yc 298, (0, (1, 17, 0), yc 0)), (yc 85, yc 444, (0, (1, 18, 0), yc 0)), (yc 85, yc 446, (0, (1, 19, 0), yc 0))], [], [(0, yc (-1), yc 0)]), (21, [(0, 0, 0), (20, (-2147483648), 2147483647)], [], [(yc 86, yc 1, (0, (1, 2, 0), yc 0)), (yc 86, yc 2, (0, (1, 3, 0), yc 0)), (yc 86, yc 3, (0, (1, 4, 0), yc 0)), (yc 87, yc 1, (0, (1, 6, 0), yc 0)), (yc 87, yc 2, (0, (1, 7, 0), yc 0)), (yc 87, yc 3, (0, (1, 8, 0), yc 0)), (yc 70, yc 23, (0, (1, 9, 0), yc 0)), (yc 80, yc 0, (0, (1, 10, 0), yc 0)), (yc 80, yc 2, (0, (1, 11, 0), yc 0)), (yc 85, yc 148, (0, (1, 14, 0), yc 0)), (yc 85, yc 150, (0, (1, 15, 0), yc 0)), (yc 85, yc 296, (0, (1, 16, 0), yc 0)), (yc 85, yc 298, (0, (1, 17, 0), yc 0)), (yc 85, yc 444, (0, (1, 18, 0), yc 0)), (yc 85, yc 446, (0, (1, 19, 0), yc 0)), (yc 87, yc 0, (0, yc 1, yc 0)), (yc 86, yc 0, (0, (1, 9, 0), yc 0)), (yc 85, yc 0, (0, (1, 10, 0), yc 0)), (yc 85, yc 2, (0, (1, 11, 0), yc 0))], [], [(0, (1, 20, 0), yc 0)]), (21, [(0, 1, 1), (20, (-2147483648), 2147483647)], [], [(yc 86, yc 0, (0, (1, 1, 0), yc 0)), (yc 86, yc 2, (0, (1, 3, 0), yc 0)), (yc 86, yc 3, (0, (1, 4, 0), yc 0)), (yc 87, yc 0, (0, (1, 5, 0), yc 0)), (yc 87, yc 2, (0, (1, 7, 0), yc 0)), (yc 87, yc 3, (0, (1, 8, 0), yc 0)), (yc 70, yc 23, (0, (1, 9, 0), yc 0)), (yc 80, yc 0, (0, (1, 10, 0), yc 0)), (yc 80, yc 2, (0, (1, 11, 0), yc 0)), (yc 85, yc 0, (0, (1, 12, 0), yc 0)), (yc 85, yc 2, (0, (1, 13, 0), yc 0)), (yc 85, yc 296, (0, (1, 16, 0), yc 0)), (yc 85, yc 298, (0, (1, 17, 0), yc 0)), (yc 85, yc 444, (0, (1, 18, 0), yc 0)), (yc 85, yc 446, (0, (1, 19, 0), yc 0)), (yc 87, yc 1, (0, yc 1, yc 0)), (yc 86, yc 1, (0, (1, 9, 0), yc 0)), (yc 85, yc 148, (0, (1, 10, 0), yc 0)), (yc 85, yc 150, (0, (1, 11, 0), yc 0))], [], [(0, (1, 20, 0), yc 0)]), (21, [(0, 2, 2), (20, (-2147483648), 2147483647)], [], [(yc 86, yc 0, (0, (1, 1, 0), yc 0)), (yc 86, yc 1, (0, (1, 2, 0), yc 0)), (yc 86, yc 3, (0, (1, 4, 0), yc 0)), (yc 87, yc 0, (0, (1, 5, 0), yc 0)), (yc 87, yc 1, (0, (1, 6, 0), yc 0)), (yc 87, yc 3, (0, (1, 8, 0), yc 0)), (yc 70, yc 23, (0, (1, 9, 0), yc 0)), (yc 80, yc 0, (0, (1, 10, 0), yc 0)), (yc 80, yc 2, (0, (1, 11, 0), yc 0)), (yc 85, yc 0, (0, (1, 12, 0), yc 0)), (yc 85, yc 2, (0, (1, 13, 0), yc 0)), (yc 85, yc 148, (0, (1, 14, 0), yc 0)), (yc 85, yc 150, (0, (1, 15, 0), yc 0)), (yc 85, yc 444, (0, (1, 18, 0), yc 0)), (yc 85, yc 446, (0, (1, 19, 0), yc 0)), (yc 87, yc 2, (0, yc 1, yc 0)), (yc 86, yc 2, (0, (1, 9, 0), yc 0)), (yc 85, yc 296, (0, (1, 10, 0), yc 0)), (yc 85, yc 298, (0, (1, 11, 0), yc 0))], [], [(0, (1, 20, 0), yc 0)]), (21, [(0, 3, 3), (20, (-2147483648), 2147483647)], [], [(yc 86, yc 0, (0, (1, 1, 0), yc 0)), (yc 86, yc 1, (0, (1, 2, 0), yc 0)), (yc 86, yc 2, (0, (1, 3, 0), yc 0)), (yc 87, yc 0, (0, (1, 5, 0), yc 0)), (yc 87, yc 1, (0, (1, 6, 0), yc 0)), (yc 87, yc 2, (0, (1, 7, 0), yc 0)), (yc 70, yc 23, (0, (1, 9, 0), yc 0)), (yc 80, yc 0, (0, (1, 10, 0), yc 0)), (yc 80, yc 2, (0, (1, 11, 0), yc 0)), (yc 85, yc 0, (0, (1, 12, 0), yc 0)), (yc 85, yc 2, (0, (1, 13, 0), yc 0)), (yc 85, yc 148, (0, (1, 14, 0), yc 0)), (yc 85, yc 150, (0, (1, 15, 0), yc 0)), (yc 85, yc 296, (0, (1, 16, 0), yc 0)), (yc 85, yc 298, (0, (1, 17, 0), yc 0)), (yc 87, yc 3, (0, yc 1, yc 0)), (yc 86, yc 3, (0, (1, 9, 0), yc 0)), (yc 85, yc 444, (0, (1, 10, 0), yc 0)), (yc 85, yc 446, (0, (1, 11, 0), yc 0))], [], [(0, (1, 20, 0), yc 0)])] := hq
  simp only [List.mem_cons, List.mem_nil_iff, or_false] at hq
  rcases hq with rfl | rfl | rfl | rfl | rfl | rfl
  · exact ⟨(yP_F hf (by decide) (by decide) hE.1.1), (yP_F hf (by decide) (by decide) hE.1.2.1), (fun k hk => yP_F hf (by simp [yinM, ys7]) (by simp [yinM, ys7]) (hE.1.2.2.1 k hk)), (y4 (yP_post (j := 0) g2 (List.mem_of_getElem? (i := 11) rfl) (List.mem_of_getElem? (i := 12) rfl) (yQ_ag ha (Or.inr (by decide)) (Or.inr (by decide)) (yP_pre (j := 0) g (List.mem_of_getElem? (i := 11) rfl) (List.mem_of_getElem? (i := 12) rfl) (hE.1.2.2.2 0 (by decide))))) (yP_post (j := 148) g2 (List.mem_of_getElem? (i := 13) rfl) (List.mem_of_getElem? (i := 14) rfl) (yQ_ag ha (Or.inr (by decide)) (Or.inr (by decide)) (yP_pre (j := 148) g (List.mem_of_getElem? (i := 13) rfl) (List.mem_of_getElem? (i := 14) rfl) (hE.1.2.2.2 1 (by decide))))) (yP_post (j := 296) g2 (List.mem_of_getElem? (i := 15) rfl) (List.mem_of_getElem? (i := 16) rfl) (yQ_ag ha (Or.inr (by decide)) (Or.inr (by decide)) (yP_pre (j := 296) g (List.mem_of_getElem? (i := 15) rfl) (List.mem_of_getElem? (i := 16) rfl) (hE.1.2.2.2 2 (by decide))))) (yP_post (j := 444) g2 (List.mem_of_getElem? (i := 17) rfl) (List.mem_of_getElem? (i := 18) rfl) (yQ_ag ha (Or.inr (by decide)) (Or.inr (by decide)) (yP_pre (j := 444) g (List.mem_of_getElem? (i := 17) rfl) (List.mem_of_getElem? (i := 18) rfl) (hE.1.2.2.2 3 (by decide))))))⟩
  · exact ⟨(yP_F hf (by decide) (by decide) hE.1.1), (yP_F hf (by decide) (by decide) hE.1.2.1), (fun k hk => yP_F hf (by simp [yinM, ys7]) (by simp [yinM, ys7]) (hE.1.2.2.1 k hk)), (y4 (yP_post (j := 0) g2 (List.mem_of_getElem? (i := 11) rfl) (List.mem_of_getElem? (i := 12) rfl) (yQ_ag ha (Or.inr (by decide)) (Or.inr (by decide)) (yP_pre (j := 0) g (List.mem_of_getElem? (i := 11) rfl) (List.mem_of_getElem? (i := 12) rfl) (hE.1.2.2.2 0 (by decide))))) (yP_post (j := 148) g2 (List.mem_of_getElem? (i := 13) rfl) (List.mem_of_getElem? (i := 14) rfl) (yQ_ag ha (Or.inr (by decide)) (Or.inr (by decide)) (yP_pre (j := 148) g (List.mem_of_getElem? (i := 13) rfl) (List.mem_of_getElem? (i := 14) rfl) (hE.1.2.2.2 1 (by decide))))) (yP_post (j := 296) g2 (List.mem_of_getElem? (i := 15) rfl) (List.mem_of_getElem? (i := 16) rfl) (yQ_ag ha (Or.inr (by decide)) (Or.inr (by decide)) (yP_pre (j := 296) g (List.mem_of_getElem? (i := 15) rfl) (List.mem_of_getElem? (i := 16) rfl) (hE.1.2.2.2 2 (by decide))))) (yP_post (j := 444) g2 (List.mem_of_getElem? (i := 17) rfl) (List.mem_of_getElem? (i := 18) rfl) (yQ_ag ha (Or.inr (by decide)) (Or.inr (by decide)) (yP_pre (j := 444) g (List.mem_of_getElem? (i := 17) rfl) (List.mem_of_getElem? (i := 18) rfl) (hE.1.2.2.2 3 (by decide))))))⟩
  · exact ⟨(yP_F hf (by decide) (by decide) hE.1.1), (yP_F hf (by decide) (by decide) hE.1.2.1), (fun k hk => yP_F hf (by simp [yinM, ys7]) (by simp [yinM, ys7]) (hE.1.2.2.1 k hk)), (y4 (yP_post (j := 0) g2 (List.mem_of_getElem? (i := 17) rfl) (List.mem_of_getElem? (i := 18) rfl) (yQ_ag ha (Or.inr (by decide)) (Or.inr (by decide)) (yP_pre (j := 0) g (List.mem_of_getElem? (i := 9) rfl) (List.mem_of_getElem? (i := 10) rfl) hE.1.1))) (yP_post (j := 148) g2 (List.mem_of_getElem? (i := 9) rfl) (List.mem_of_getElem? (i := 10) rfl) (yQ_ag ha (Or.inr (by decide)) (Or.inr (by decide)) (yP_pre (j := 148) g (List.mem_of_getElem? (i := 13) rfl) (List.mem_of_getElem? (i := 14) rfl) (hE.1.2.2.2 1 (by decide))))) (yP_post (j := 296) g2 (List.mem_of_getElem? (i := 11) rfl) (List.mem_of_getElem? (i := 12) rfl) (yQ_ag ha (Or.inr (by decide)) (Or.inr (by decide)) (yP_pre (j := 296) g (List.mem_of_getElem? (i := 15) rfl) (List.mem_of_getElem? (i := 16) rfl) (hE.1.2.2.2 2 (by decide))))) (yP_post (j := 444) g2 (List.mem_of_getElem? (i := 13) rfl) (List.mem_of_getElem? (i := 14) rfl) (yQ_ag ha (Or.inr (by decide)) (Or.inr (by decide)) (yP_pre (j := 444) g (List.mem_of_getElem? (i := 17) rfl) (List.mem_of_getElem? (i := 18) rfl) (hE.1.2.2.2 3 (by decide))))))⟩
  · exact ⟨(yP_F hf (by decide) (by decide) hE.1.1), (yP_F hf (by decide) (by decide) hE.1.2.1), (fun k hk => yP_F hf (by simp [yinM, ys7]) (by simp [yinM, ys7]) (hE.1.2.2.1 k hk)), (y4 (yP_post (j := 0) g2 (List.mem_of_getElem? (i := 9) rfl) (List.mem_of_getElem? (i := 10) rfl) (yQ_ag ha (Or.inr (by decide)) (Or.inr (by decide)) (yP_pre (j := 0) g (List.mem_of_getElem? (i := 11) rfl) (List.mem_of_getElem? (i := 12) rfl) (hE.1.2.2.2 0 (by decide))))) (yP_post (j := 148) g2 (List.mem_of_getElem? (i := 17) rfl) (List.mem_of_getElem? (i := 18) rfl) (yQ_ag ha (Or.inr (by decide)) (Or.inr (by decide)) (yP_pre (j := 0) g (List.mem_of_getElem? (i := 9) rfl) (List.mem_of_getElem? (i := 10) rfl) hE.1.1))) (yP_post (j := 296) g2 (List.mem_of_getElem? (i := 11) rfl) (List.mem_of_getElem? (i := 12) rfl) (yQ_ag ha (Or.inr (by decide)) (Or.inr (by decide)) (yP_pre (j := 296) g (List.mem_of_getElem? (i := 15) rfl) (List.mem_of_getElem? (i := 16) rfl) (hE.1.2.2.2 2 (by decide))))) (yP_post (j := 444) g2 (List.mem_of_getElem? (i := 13) rfl) (List.mem_of_getElem? (i := 14) rfl) (yQ_ag ha (Or.inr (by decide)) (Or.inr (by decide)) (yP_pre (j := 444) g (List.mem_of_getElem? (i := 17) rfl) (List.mem_of_getElem? (i := 18) rfl) (hE.1.2.2.2 3 (by decide))))))⟩
  · exact ⟨(yP_F hf (by decide) (by decide) hE.1.1), (yP_F hf (by decide) (by decide) hE.1.2.1), (fun k hk => yP_F hf (by simp [yinM, ys7]) (by simp [yinM, ys7]) (hE.1.2.2.1 k hk)), (y4 (yP_post (j := 0) g2 (List.mem_of_getElem? (i := 9) rfl) (List.mem_of_getElem? (i := 10) rfl) (yQ_ag ha (Or.inr (by decide)) (Or.inr (by decide)) (yP_pre (j := 0) g (List.mem_of_getElem? (i := 11) rfl) (List.mem_of_getElem? (i := 12) rfl) (hE.1.2.2.2 0 (by decide))))) (yP_post (j := 148) g2 (List.mem_of_getElem? (i := 11) rfl) (List.mem_of_getElem? (i := 12) rfl) (yQ_ag ha (Or.inr (by decide)) (Or.inr (by decide)) (yP_pre (j := 148) g (List.mem_of_getElem? (i := 13) rfl) (List.mem_of_getElem? (i := 14) rfl) (hE.1.2.2.2 1 (by decide))))) (yP_post (j := 296) g2 (List.mem_of_getElem? (i := 17) rfl) (List.mem_of_getElem? (i := 18) rfl) (yQ_ag ha (Or.inr (by decide)) (Or.inr (by decide)) (yP_pre (j := 0) g (List.mem_of_getElem? (i := 9) rfl) (List.mem_of_getElem? (i := 10) rfl) hE.1.1))) (yP_post (j := 444) g2 (List.mem_of_getElem? (i := 13) rfl) (List.mem_of_getElem? (i := 14) rfl) (yQ_ag ha (Or.inr (by decide)) (Or.inr (by decide)) (yP_pre (j := 444) g (List.mem_of_getElem? (i := 17) rfl) (List.mem_of_getElem? (i := 18) rfl) (hE.1.2.2.2 3 (by decide))))))⟩
  · exact ⟨(yP_F hf (by decide) (by decide) hE.1.1), (yP_F hf (by decide) (by decide) hE.1.2.1), (fun k hk => yP_F hf (by simp [yinM, ys7]) (by simp [yinM, ys7]) (hE.1.2.2.1 k hk)), (y4 (yP_post (j := 0) g2 (List.mem_of_getElem? (i := 9) rfl) (List.mem_of_getElem? (i := 10) rfl) (yQ_ag ha (Or.inr (by decide)) (Or.inr (by decide)) (yP_pre (j := 0) g (List.mem_of_getElem? (i := 11) rfl) (List.mem_of_getElem? (i := 12) rfl) (hE.1.2.2.2 0 (by decide))))) (yP_post (j := 148) g2 (List.mem_of_getElem? (i := 11) rfl) (List.mem_of_getElem? (i := 12) rfl) (yQ_ag ha (Or.inr (by decide)) (Or.inr (by decide)) (yP_pre (j := 148) g (List.mem_of_getElem? (i := 13) rfl) (List.mem_of_getElem? (i := 14) rfl) (hE.1.2.2.2 1 (by decide))))) (yP_post (j := 296) g2 (List.mem_of_getElem? (i := 13) rfl) (List.mem_of_getElem? (i := 14) rfl) (yQ_ag ha (Or.inr (by decide)) (Or.inr (by decide)) (yP_pre (j := 296) g (List.mem_of_getElem? (i := 15) rfl) (List.mem_of_getElem? (i := 16) rfl) (hE.1.2.2.2 2 (by decide))))) (yP_post (j := 444) g2 (List.mem_of_getElem? (i := 17) rfl) (List.mem_of_getElem? (i := 18) rfl) (yQ_ag ha (Or.inr (by decide)) (Or.inr (by decide)) (yP_pre (j := 0) g (List.mem_of_getElem? (i := 9) rfl) (List.mem_of_getElem? (i := 10) rfl) hE.1.1))))⟩)
/-- LTModel.back -/
theorem yL8 {A : zHp → Prop} (hA : yEF A yFA) : yTs (yEA A) 2 ys8 := ylift yt8 (fun hp r lv x q r2 s hE g hf hq ha g2 => by
  refine ⟨?_, yA_F hA (M := ys8.2.2.2.2) (by decide) (ydj_ok (by decide)) hf hE.2⟩
  have hq : q ∈ [(20, [(0, (-2147483648), (-1))], [], [(yc 86, yc 0, (0, (1, 1, 0), yc 0)), (yc 86, yc 1, (0, (1, 2, 0), yc 0)), (yc 86, yc 2, (0, (1, 3, 0), yc 0)), (yc 86, yc 3, (0, (1, 4, 0), yc 0)), (yc 87, yc 0, (0, (1, 5, 0), yc 0)), (yc 87, yc 1, (0, (1, 6, 0), yc 0)), (yc 87, yc 2, (0, (1, 7, 0), yc 0)), (yc 87, yc 3, (0, (1, 8, 0), yc 0)), (yc 70, yc 23, (0, (1, 9, 0), yc 0)), (yc 80, yc 0, (0, (1, 10, 0), yc 0)), (yc 80, yc 2, (0, (1, 11, 0), yc 0)), (yc 85, yc 0, (0, (1, 12, 0), yc 0)), (yc 85, yc 2, (0, (1, 13, 0), yc 0)), (yc 85, yc 148, (0, (1, 14, 0), yc 0)), (yc 85, yc 150, (0, (1, 15, 0), yc 0)), (yc 85, yc 296, (0, (1, 16, 0), yc 0)), (yc 85, yc 298, (0, (1, 17, 0), yc 0)), (yc 85, yc 444, (0, (1, 18, 0), yc 0)), (yc 85, yc 446, (0, (1, 19, 0), yc 0))], [], [(0, yc (-1), yc 0)]), (20, [(0, 0, 0), (5, 0, 0)], [], [(yc 86, yc 0, (0, (1, 1, 0), yc 0)), (yc 86, yc 1, (0, (1, 2, 0), yc 0)), (yc 86, yc 2, (0, (1, 3, 0), yc 0)), (yc 86, yc 3, (0, (1, 4, 0), yc 0)), (yc 87, yc 0, (0, yc 0, yc 0)), (yc 87, yc 1, (0, (1, 6, 0), yc 0)), (yc 87, yc 2, (0, (1, 7, 0), yc 0)), (yc 87, yc 3, (0, (1, 8, 0), yc 0)), (yc 70, yc 23, (0, (1, 9, 0), yc 0)), (yc 80, yc 0, (0, (1, 10, 0), yc 0)), (yc 80, yc 2, (0, (1, 11, 0), yc 0)), (yc 85, yc 0, (0, (1, 12, 0), yc 0)), (yc 85, yc 2, (0, (1, 13, 0), yc 0)), (yc 85, yc 148, (0, (1, 14, 0), yc 0)), (yc 85, yc 150, (0, (1, 15, 0), yc 0)), (yc 85, yc 296, (0, (1, 16, 0), yc 0)), (yc 85, yc 298, (0, (1, 17, 0), yc 0)), (yc 85, yc 444, (0, (1, 18, 0), yc 0)), (yc 85, yc 446, (0, (1, 19, 0), yc 0))], [], [(0, yc (-1), yc 0)]), (20, [(0, 1, 1), (6, 0, 0)], [], [(yc 86, yc 0, (0, (1, 1, 0), yc 0)), (yc 86, yc 1, (0, (1, 2, 0), yc 0)), (yc 86, yc 2, (0, (1, 3, 0), yc 0)), (yc 86, yc 3, (0, (1, 4, 0), yc 0)), (yc 87, yc 0, (0, (1, 5, 0), yc 0)), (yc 87, yc 1, (0, yc 0, yc 0)), (yc 87, yc 2, (0, (1, 7, 0), yc 0)), (yc 87, yc 3, (0, (1, 8, 0), yc 0)), (yc 70, yc 23, (0, (1, 9, 0), yc 0)), (yc 80, yc 0, (0, (1, 10, 0), yc 0)), (yc 80, yc 2, (0, (1, 11, 0), yc 0)), (yc 85, yc 0, (0, (1, 12, 0), yc 0)), (yc 85, yc 2, (0, (1, 13, 0), yc 0)), (yc 85, yc 148, (0, (1, 14, 0), yc 0)), (yc 85, yc 150, (0, (1, 15, 0), yc 0)), (yc 85, yc 296, (0, (1, 16, 0), yc 0)), (yc 85, yc 298, (0, (1, 17, 0), yc 0)), (yc 85, yc 444, (0, (1, 18, 0), yc 0)), (yc 85, yc 446, (0, (1, 19, 0), yc 0))], [], [(0, yc (-1), yc 0)]), (20, [(0, 2, 2), (7, 0, 0)], [], [(yc 86, yc 0, (0, (1, 1, 0), yc 0)), (yc 86, yc 1, (0, (1, 2, 0), yc 0)), (yc 86, yc 2, (0, (1, 3, 0), yc 0)), (yc 86, yc 3, (0, (1, 4, 0), yc 0)), (yc 87, yc 0, (0, (1, 5, 0), yc 0)), (yc 87, yc 1, (0, (1, 6, 0), yc 0)), (yc 87, yc 2, (0, yc 0, yc 0)), (yc 87, yc 3, (0, (1, 8, 0), yc 0)), (yc 70, yc 23, (0, (1, 9, 0), yc 0)), (yc 80, yc 0, (0, (1, 10, 0), yc 0)), (yc 80, yc 2, (0, (1, 11, 0), yc 0)), (yc 85, yc 0, (0, (1, 12, 0), yc 0)), (yc 85, yc 2, (0, (1, 13, 0), yc 0)), (yc 85, yc 148, (0, (1, 14, 0), yc 0)), (yc 85, yc 150, (0, (1, 15, 0), yc 0)), (yc 85, yc 296, (0, (1, 16, 0), yc 0)), (yc 85, yc 298, (0, (1, 17, 0), yc 0)), (yc 85, yc 444, (0, (1, 18, 0), yc 0)), (yc 85, yc 446, (0, (1, 19, 0), yc 0))], [], [(0, yc (-1), yc 0)]), (20, [(0, 3, 3), (8, 0, 0)], [], [(yc 86, yc 0, (0, (1, 1, 0), yc 0)), (yc 86, yc 1, (0, (1, 2, 0), yc 0)), (yc 86, yc 2, (0, (1, 3, 0), yc 0)), (yc 86, yc 3, (0, (1, 4, 0), yc 0)), (yc 87, yc 0, (0, (1, 5, 0), yc 0)), (yc 87, yc 1, (0, (1, 6, 0), yc 0)), (yc 87, yc 2, (0, (1, 7, 0), yc 0)), (yc 87, yc 3, (0, yc 0, yc 0)), (yc 70, yc 23, (0, (1, 9, 0), yc 0)), (yc 80, yc 0, (0, (1, 10, 0), yc 0)), (yc 80, yc 2, (0, (1, 11, 0), yc 0)), (yc 85, yc 0, (0, (1, 12, 0), yc 0)), (yc 85, yc 2, (0, (1, 13, 0), yc 0)), (yc 85, yc 148, (0, (1, 14, 0), yc 0)), (yc 85, yc 150, (0, (1, 15, 0), yc 0)), (yc 85, yc 296, (0, (1, 16, 0), yc 0)), (yc 85, yc 298, (0, (1, 17, 0), yc 0)), (yc 85, yc 444, (0, (1, 18, 0), yc 0)), (yc 85, yc 446, (0, (1, 19, 0), yc 0))], [], [(0, yc (-1), yc 0)]), (20, [(0, 4, 2147483647)], [], [(yc 86, yc 0, (0, (1, 1, 0), yc 0)), (yc 86, yc 1, (0, (1, 2, 0), yc 0)), (yc 86, yc 2, (0, (1, 3, 0), yc 0)), (yc 86, yc 3, (0, (1, 4, 0), yc 0)), (yc 87, yc 0, (0, (1, 5, 0), yc 0)), (yc 87, yc 1, (0, (1, 6, 0), yc 0)), (yc 87, yc 2, (0, (1, 7, 0), yc 0)), (yc 87, yc 3, (0, (1, 8, 0), yc 0)), (yc 70, yc 23, (0, (1, 9, 0), yc 0)), (yc 80, yc 0, (0, (1, 10, 0), yc 0)), (yc 80, yc 2, (0, (1, 11, 0), yc 0)), (yc 85, yc 0, (0, (1, 12, 0), yc 0)), (yc 85, yc 2, (0, (1, 13, 0), yc 0)), (yc 85, yc 148, (0, (1, 14, 0), yc 0)), (yc 85, yc 150, (0, (1, 15, 0), yc 0)), (yc 85, yc 296, (0, (1, 16, 0), yc 0)), (yc 85, yc 298, (0, (1, 17, 0), yc 0)), (yc 85, yc 444, (0, (1, 18, 0), yc 0)), (yc 85, yc 446, (0, (1, 19, 0), yc 0))], [], [(0, yc (-1), yc 0)]), (21, [(0, 0, 0), (5, 1, 1), (20, (-2147483648), 2147483647)], [], [(yc 86, yc 0, (0, (1, 1, 0), yc 0)), (yc 86, yc 1, (0, (1, 2, 0), yc 0)), (yc 86, yc 2, (0, (1, 3, 0), yc 0)), (yc 86, yc 3, (0, (1, 4, 0), yc 0)), (yc 87, yc 0, (0, yc 1, yc 0)), (yc 87, yc 1, (0, (1, 6, 0), yc 0)), (yc 87, yc 2, (0, (1, 7, 0), yc 0)), (yc 87, yc 3, (0, (1, 8, 0), yc 0)), (yc 85, yc 0, (0, (1, 12, 0), yc 0)), (yc 85, yc 2, (0, (1, 13, 0), yc 0)), (yc 85, yc 148, (0, (1, 14, 0), yc 0)), (yc 85, yc 150, (0, (1, 15, 0), yc 0)), (yc 85, yc 296, (0, (1, 16, 0), yc 0)), (yc 85, yc 298, (0, (1, 17, 0), yc 0)), (yc 85, yc 444, (0, (1, 18, 0), yc 0)), (yc 85, yc 446, (0, (1, 19, 0), yc 0)), (yc 70, yc 23, (0, (1, 1, 0), yc 0)), (yc 80, yc 0, (0, (1, 12, 0), yc 0)), (yc 80, yc 2, (0, (1, 13, 0), yc 0))], [], [(0, (1, 20, 0), yc 0)]), (21, [(0, 1, 1), (6, 1, 1), (20, (-2147483648), 2147483647)], [], [(yc 86, yc 0, (0, (1, 1, 0), yc 0)), (yc 86, yc 1, (0, (1, 2, 0), yc 0)), (yc 86, yc 2, (0, (1, 3, 0), yc 0)), (yc 86, yc 3, (0, (1, 4, 0), yc 0)), (yc 87, yc 0, (0, (1, 5, 0), yc 0)), (yc 87, yc 1, (0, yc 1, yc 0)), (yc 87, yc 2, (0, (1, 7, 0), yc 0)), (yc 87, yc 3, (0, (1, 8, 0), yc 0)), (yc 85, yc 0, (0, (1, 12, 0), yc 0)), (yc 85, yc 2, (0, (1, 13, 0), yc 0)), (yc 85, yc 148, (0, (1, 14, 0), yc 0)), (yc 85, yc 150, (0, (1, 15, 0), yc 0)), (yc 85, yc 296, (0, (1, 16, 0), yc 0)), (yc 85, yc 298, (0, (1, 17, 0), yc 0)), (yc 85, yc 444, (0, (1, 18, 0), yc 0)), (yc 85, yc 446, (0, (1, 19, 0), yc 0)), (yc 70, yc 23, (0, (1, 2, 0), yc 0)), (yc 80, yc 0, (0, (1, 14, 0), yc 0)), (yc 80, yc 2, (0, (1, 15, 0), yc 0))], [], [(0, (1, 20, 0), yc 0)]), (21, [(0, 2, 2), (7, 1, 1), (20, (-2147483648), 2147483647)], [], [(yc 86, yc 0, (0, (1, 1, 0), yc 0)), (yc 86, yc 1, (0, (1, 2, 0), yc 0)), (yc 86, yc 2, (0, (1, 3, 0), yc 0)), (yc 86, yc 3, (0, (1, 4, 0), yc 0)), (yc 87, yc 0, (0, (1, 5, 0), yc 0)), (yc 87, yc 1, (0, (1, 6, 0), yc 0)), (yc 87, yc 2, (0, yc 1, yc 0)), (yc 87, yc 3, (0, (1, 8, 0), yc 0)), (yc 85, yc 0, (0, (1, 12, 0), yc 0)), (yc 85, yc 2, (0, (1, 13, 0), yc 0)), (yc 85, yc 148, (0, (1, 14, 0), yc 0)), (yc 85, yc 150, (0, (1, 15, 0), yc 0)), (yc 85, yc 296, (0, (1, 16, 0), yc 0)), (yc 85, yc 298, (0, (1, 17, 0), yc 0)), (yc 85, yc 444, (0, (1, 18, 0), yc 0)), (yc 85, yc 446, (0, (1, 19, 0), yc 0)), (yc 70, yc 23, (0, (1, 3, 0), yc 0)), (yc 80, yc 0, (0, (1, 16, 0), yc 0)), (yc 80, yc 2, (0, (1, 17, 0), yc 0))], [], [(0, (1, 20, 0), yc 0)]), (21, [(0, 3, 3), (8, 1, 1), (20, (-2147483648), 2147483647)], [], [(yc 86, yc 0, (0, (1, 1, 0), yc 0)), (yc 86, yc 1, (0, (1, 2, 0), yc 0)), (yc 86, yc 2, (0, (1, 3, 0), yc 0)), (yc 86, yc 3, (0, (1, 4, 0), yc 0)), (yc 87, yc 0, (0, (1, 5, 0), yc 0)), (yc 87, yc 1, (0, (1, 6, 0), yc 0)), (yc 87, yc 2, (0, (1, 7, 0), yc 0)), (yc 87, yc 3, (0, yc 1, yc 0)), (yc 85, yc 0, (0, (1, 12, 0), yc 0)), (yc 85, yc 2, (0, (1, 13, 0), yc 0)), (yc 85, yc 148, (0, (1, 14, 0), yc 0)), (yc 85, yc 150, (0, (1, 15, 0), yc 0)), (yc 85, yc 296, (0, (1, 16, 0), yc 0)), (yc 85, yc 298, (0, (1, 17, 0), yc 0)), (yc 85, yc 444, (0, (1, 18, 0), yc 0)), (yc 85, yc 446, (0, (1, 19, 0), yc 0)), (yc 70, yc 23, (0, (1, 4, 0), yc 0)), (yc 80, yc 0, (0, (1, 18, 0), yc 0)), (yc 80, yc 2, (0, (1, 19, 0), yc 0))], [], [(0, (1, 20, 0), yc 0)])] := hq
  simp only [List.mem_cons, List.mem_nil_iff, or_false] at hq
  rcases hq with rfl | rfl | rfl | rfl | rfl | rfl | rfl | rfl | rfl | rfl
  · exact ⟨(yP_post (j := 0) g2 (List.mem_of_getElem? (i := 9) rfl) (List.mem_of_getElem? (i := 10) rfl) (yQ_ag ha (Or.inr (by decide)) (Or.inr (by decide)) (yP_pre (j := 0) g (List.mem_of_getElem? (i := 9) rfl) (List.mem_of_getElem? (i := 10) rfl) hE.1.1))), (yP_F hf (by decide) (by decide) hE.1.2.1), (fun k hk => yP_F hf (by simp [yinM, ys8]) (by simp [yinM, ys8]) (hE.1.2.2.1 k hk)), (fun k hk => yP_F hf (by simp [yinM, ys8]) (by simp [yinM, ys8]) (hE.1.2.2.2 k hk))⟩
  · exact ⟨(yP_post (j := 0) g2 (List.mem_of_getElem? (i := 9) rfl) (List.mem_of_getElem? (i := 10) rfl) (yQ_ag ha (Or.inr (by decide)) (Or.inr (by decide)) (yP_pre (j := 0) g (List.mem_of_getElem? (i := 9) rfl) (List.mem_of_getElem? (i := 10) rfl) hE.1.1))), (yP_F hf (by decide) (by decide) hE.1.2.1), (fun k hk => yP_F hf (by simp [yinM, ys8]) (by simp [yinM, ys8]) (hE.1.2.2.1 k hk)), (fun k hk => yP_F hf (by simp [yinM, ys8]) (by simp [yinM, ys8]) (hE.1.2.2.2 k hk))⟩
  · exact ⟨(yP_post (j := 0) g2 (List.mem_of_getElem? (i := 9) rfl) (List.mem_of_getElem? (i := 10) rfl) (yQ_ag ha (Or.inr (by decide)) (Or.inr (by decide)) (yP_pre (j := 0) g (List.mem_of_getElem? (i := 9) rfl) (List.mem_of_getElem? (i := 10) rfl) hE.1.1))), (yP_F hf (by decide) (by decide) hE.1.2.1), (fun k hk => yP_F hf (by simp [yinM, ys8]) (by simp [yinM, ys8]) (hE.1.2.2.1 k hk)), (fun k hk => yP_F hf (by simp [yinM, ys8]) (by simp [yinM, ys8]) (hE.1.2.2.2 k hk))⟩
  · exact ⟨(yP_post (j := 0) g2 (List.mem_of_getElem? (i := 9) rfl) (List.mem_of_getElem? (i := 10) rfl) (yQ_ag ha (Or.inr (by decide)) (Or.inr (by decide)) (yP_pre (j := 0) g (List.mem_of_getElem? (i := 9) rfl) (List.mem_of_getElem? (i := 10) rfl) hE.1.1))), (yP_F hf (by decide) (by decide) hE.1.2.1), (fun k hk => yP_F hf (by simp [yinM, ys8]) (by simp [yinM, ys8]) (hE.1.2.2.1 k hk)), (fun k hk => yP_F hf (by simp [yinM, ys8]) (by simp [yinM, ys8]) (hE.1.2.2.2 k hk))⟩
  · exact ⟨(yP_post (j := 0) g2 (List.mem_of_getElem? (i := 9) rfl) (List.mem_of_getElem? (i := 10) rfl) (yQ_ag ha (Or.inr (by decide)) (Or.inr (by decide)) (yP_pre (j := 0) g (List.mem_of_getElem? (i := 9) rfl) (List.mem_of_getElem? (i := 10) rfl) hE.1.1))), (yP_F hf (by decide) (by decide) hE.1.2.1), (fun k hk => yP_F hf (by simp [yinM, ys8]) (by simp [yinM, ys8]) (hE.1.2.2.1 k hk)), (fun k hk => yP_F hf (by simp [yinM, ys8]) (by simp [yinM, ys8]) (hE.1.2.2.2 k hk))⟩
  · exact ⟨(yP_post (j := 0) g2 (List.mem_of_getElem? (i := 9) rfl) (List.mem_of_getElem? (i := 10) rfl) (yQ_ag ha (Or.inr (by decide)) (Or.inr (by decide)) (yP_pre (j := 0) g (List.mem_of_getElem? (i := 9) rfl) (List.mem_of_getElem? (i := 10) rfl) hE.1.1))), (yP_F hf (by decide) (by decide) hE.1.2.1), (fun k hk => yP_F hf (by simp [yinM, ys8]) (by simp [yinM, ys8]) (hE.1.2.2.1 k hk)), (fun k hk => yP_F hf (by simp [yinM, ys8]) (by simp [yinM, ys8]) (hE.1.2.2.2 k hk))⟩
  · exact ⟨(yP_post (j := 0) g2 (List.mem_of_getElem? (i := 17) rfl) (List.mem_of_getElem? (i := 18) rfl) (yQ_ag ha (Or.inr (by decide)) (Or.inr (by decide)) (yP_pre (j := 0) g (List.mem_of_getElem? (i := 11) rfl) (List.mem_of_getElem? (i := 12) rfl) (hE.1.2.2.2 0 (by decide))))), (yP_F hf (by decide) (by decide) hE.1.2.1), (fun k hk => yP_F hf (by simp [yinM, ys8]) (by simp [yinM, ys8]) (hE.1.2.2.1 k hk)), (fun k hk => yP_F hf (by simp [yinM, ys8]) (by simp [yinM, ys8]) (hE.1.2.2.2 k hk))⟩
  · exact ⟨(yP_post (j := 0) g2 (List.mem_of_getElem? (i := 17) rfl) (List.mem_of_getElem? (i := 18) rfl) (yQ_ag ha (Or.inr (by decide)) (Or.inr (by decide)) (yP_pre (j := 148) g (List.mem_of_getElem? (i := 13) rfl) (List.mem_of_getElem? (i := 14) rfl) (hE.1.2.2.2 1 (by decide))))), (yP_F hf (by decide) (by decide) hE.1.2.1), (fun k hk => yP_F hf (by simp [yinM, ys8]) (by simp [yinM, ys8]) (hE.1.2.2.1 k hk)), (fun k hk => yP_F hf (by simp [yinM, ys8]) (by simp [yinM, ys8]) (hE.1.2.2.2 k hk))⟩
  · exact ⟨(yP_post (j := 0) g2 (List.mem_of_getElem? (i := 17) rfl) (List.mem_of_getElem? (i := 18) rfl) (yQ_ag ha (Or.inr (by decide)) (Or.inr (by decide)) (yP_pre (j := 296) g (List.mem_of_getElem? (i := 15) rfl) (List.mem_of_getElem? (i := 16) rfl) (hE.1.2.2.2 2 (by decide))))), (yP_F hf (by decide) (by decide) hE.1.2.1), (fun k hk => yP_F hf (by simp [yinM, ys8]) (by simp [yinM, ys8]) (hE.1.2.2.1 k hk)), (fun k hk => yP_F hf (by simp [yinM, ys8]) (by simp [yinM, ys8]) (hE.1.2.2.2 k hk))⟩
  · exact ⟨(yP_post (j := 0) g2 (List.mem_of_getElem? (i := 17) rfl) (List.mem_of_getElem? (i := 18) rfl) (yQ_ag ha (Or.inr (by decide)) (Or.inr (by decide)) (yP_pre (j := 444) g (List.mem_of_getElem? (i := 17) rfl) (List.mem_of_getElem? (i := 18) rfl) (hE.1.2.2.2 3 (by decide))))), (yP_F hf (by decide) (by decide) hE.1.2.1), (fun k hk => yP_F hf (by simp [yinM, ys8]) (by simp [yinM, ys8]) (hE.1.2.2.1 k hk)), (fun k hk => yP_F hf (by simp [yinM, ys8]) (by simp [yinM, ys8]) (hE.1.2.2.2 k hk))⟩)
/-- LTModel.village -/
theorem yL243 {A : zHp → Prop} (hA : yEF A yFA) : yTs (yEA A) 8 ys243 := ylift yt243 (fun hp r lv x q r2 s hE g hf hq ha g2 => by
  refine ⟨?_, yA_F hA (M := ys243.2.2.2.2) (by decide) (ydj_ok (by decide)) hf hE.2⟩
  have hq : q ∈ [(7, [(2, 0, 6), (3, 1, 40), (4, 0, 50), (5, 2, 6), (6, 0, 400)], [], [(yc 70, yc 11, (0, yc 6, yc 0)), (yc 70, yc 14, (0, (1, 3, 0), yc 0)), (yc 76, yc 2, (0, (1, 2, 0), yc 0)), (yc 70, yc 9, (0, yc 0, yc 0)), (yc 70, yc 10, (0, (1, 4, 0), yc 0)), (yc 76, yc 0, (0, (1, 5, 0), yc 0)), (yc 70, yc 8, (0, (1, 6, 0), yc 0)), (yc 70, yc 1, (0, yc 0, yc 0)), (yc 80, yc 0, (0, (1, 5, 0), yc 0)), (yc 80, yc 2, (0, (1, 2, 0), yc 0))], [], [(0, (1, 2, 0), yc 0)]), (9, [(2, (-2147483648), 2147483647), (3, 0, 40), (4, 0, 6), (5, 0, 99999), (6, 0, 6), (7, 0, 400), (8, 1, 2147483647)], [], [(yc 80, yc 0, (0, (1, 0, 0), yc 0)), (yc 80, yc 2, (0, (1, 1, 0), yc 0)), (yc 70, yc 11, (0, yc 6, yc 0)), (yc 70, yc 14, (0, (1, 3, 0), yc 0)), (yc 76, yc 2, (0, (1, 4, 0), yc 0)), (yc 70, yc 10, (0, (1, 5, 0), yc 0)), (yc 76, yc 0, (0, (1, 6, 0), yc 0)), (yc 70, yc 8, (0, (1, 7, 0), yc 0)), (yc 70, yc 9, (0, (1, 8, 0), yc 0)), (yc 70, yc 1, (0, yc 0, yc 0))], [], [(0, (1, 2, 0), yc 0)])] := hq
  simp only [List.mem_cons, List.mem_nil_iff, or_false] at hq
  rcases hq with rfl | rfl
  · exact ⟨(yP_post (j := 0) g2 (List.mem_of_getElem? (i := 8) rfl) (List.mem_of_getElem? (i := 9) rfl) (fun _ => yposl g2 (i := 3) rfl (by decide))), (yP_F hf (by decide) (by decide) hE.1.2.1), (fun k hk => yP_F hf (by simp [yinM, ys243]) (by simp [yinM, ys243]) (hE.1.2.2.1 k hk)), (fun k hk => yP_F hf (by simp [yinM, ys243]) (by simp [yinM, ys243]) (hE.1.2.2.2 k hk))⟩
  · exact ⟨(yP_post (j := 0) g2 (List.mem_of_getElem? (i := 0) rfl) (List.mem_of_getElem? (i := 1) rfl) (yQ_ag ha (Or.inr (by decide)) (Or.inr (by decide)) (yP_pre (j := 0) g (List.mem_of_getElem? (i := 0) rfl) (List.mem_of_getElem? (i := 1) rfl) hE.1.1))), (yP_F hf (by decide) (by decide) hE.1.2.1), (fun k hk => yP_F hf (by simp [yinM, ys243]) (by simp [yinM, ys243]) (hE.1.2.2.1 k hk)), (fun k hk => yP_F hf (by simp [yinM, ys243]) (by simp [yinM, ys243]) (hE.1.2.2.2 k hk))⟩)
end
section
/-! undo of the reference, from its two kinds. -/
theorem yend1 {hp : zHp} {r : Nat → Int} {q : yS} {l a : yL} {s : List Value} (g : yG hp r q [] s) (hq : q.2.2.2.2.2 = [((0, l, a) : yV)]) : ∃ y : Int32, s = [.int y] := by
  have g5 := g.2.2.2.2
  rw [hq] at g5
  obtain ⟨v, m, rfl, ⟨-, hv⟩, gm⟩ := ystk_cons g5
  have e := ystk_nil gm
  subst e
  obtain ⟨y, rfl, -⟩ := yvI' rfl hv
  exact ⟨y, rfl⟩
/-- an end that says nothing but that an int is answered -/
theorem yany1 {hp : zHp} {y : Int32} : yG hp (fun _ => y.toInt) (1, [(0, -2147483648, 2147483647)], [], [], [], [((0, (1, 0, 0), yc 0) : yV)]) [] [.int y] := by
  refine ⟨fun e he => ?_, (fun x hx => by cases hx), (fun t ht => by cases ht), (fun i a e => by cases e), ⟨⟨Or.inr (by decide), Or.inl rfl⟩, yvI (by show y.toInt = 1 * y.toInt + 0; omega)⟩, trivial⟩
  rcases List.mem_cons.mp he with rfl | he
  · have := y32 y
    exact ⟨by decide, this.1, Int.le_of_lt_add_one this.2⟩
  · cases he
theorem yu81 : yty 81 = (1, 0, 2480, 9, []) := rfl
theorem yu9 (k : Nat) : yel 9 (124 * k) = (0, 6) ∧ yel 9 (124 * k + 2) = (0, 6) := by
  have e1 : 124 * k % 124 = 0 := by omega
  have e2 : (124 * k + 2) % 124 = 2 := by omega
  constructor
  · show (if 124 * k % 124 = 0 ∨ 124 * k % 124 = 2 ∨ 124 * k % 124 = 3 then _ else _) = _
    rw [if_pos (Or.inl e1)]
  · show (if (124 * k + 2) % 124 = 0 ∨ (124 * k + 2) % 124 = 2 ∨ (124 * k + 2) % 124 = 3 then _ else _) = _
    rw [if_pos (Or.inr (Or.inl e2))]
theorem yundo {A : zHp → Prop} (hA : yEF A yFA) : yTs (yEA A) 1 ys246 := by
  intro d hd hp r as H g hl hlen
  have g : yG hp r (0, [], [], [], [(0, (2, yc 70, yc 0))], []) (lv_args 0 as) [] := g
  obtain ⟨r2, -, -, -, g2⟩ := yplc_ok g H.1 (yc 70) (yc 25)
  have g2 : yG hp r2 (1, [(0, 0, 20)], [], [(yc 70, yc 25, (0, (1, 0, 0), yc 0))], [(0, (2, yc 70, yc 0))], []) (lv_args 0 as) [] := g2
  obtain ⟨x, hx, ex⟩ := yat (c := 70) (j := 25) g2 List.mem_cons_self
  have hb := g2.1 _ List.mem_cons_self
  have hb1 : 0 ≤ r2 0 := hb.2.1
  have hb2 : r2 0 ≤ 20 := hb.2.2
  have ex : x.toInt = r2 0 := ex.trans (by show 1 * r2 0 + 0 = _; omega)
  have hlv : ∀ (n : Nat) (r3 : Nat → Int), yGl hp.1 r3 n [(0, (2, yc 70, yc 0))] (lv_args 0 as) := by
    intro n r3 i a ha
    obtain ⟨-, w, w1, w2⟩ := g.2.2.2.1 i a ha
    have m := yld_mem ha
    have m : (i, a) ∈ [((0 : Nat), ((2, yc 70, yc 0) : yV))] := m
    simp only [List.mem_cons, List.mem_nil_iff, or_false, Prod.mk.injEq] at m
    obtain ⟨rfl, rfl⟩ := m
    refine ⟨⟨Or.inl rfl, Or.inl rfl⟩, w, w1, ?_⟩
    have e1 : yev r3 (yc 70) = yev r (yc 70) := by rw [yev_c, yev_c]
    unfold yv at w2 ⊢
    dsimp only at w2 ⊢
    rw [e1]
    exact w2
  by_cases h0 : r2 0 = 0
  · have gP : yG hp r2 ys245.2.2.1 (lv_args 0 as) [] := by
      refine ⟨(fun e he => by cases he), (fun y hy => by cases hy), fun t ht => ?_, hlv _ _, trivial⟩
      have ht : t ∈ [((yc 70, yc 25, (0, yc 0, yc 0)) : yK)] := ht
      rcases List.mem_cons.mp ht with rfl | ht
      · refine ⟨⟨Or.inl rfl, Or.inl rfl, Or.inl rfl, Or.inl rfl⟩, ?_, .int x, ?_, yvI (by rw [yev_c]; omega)⟩
        · show 0 ≤ yev r2 (yc 70)
          rw [yev_c]
          decide
        · show yrd hp (yev r2 (yc 70)).toNat (yev r2 (yc 25)) = _
          rw [yev_c, yev_c]
          exact hx
      · cases ht
    obtain ⟨z, z1, z2, z3, q, hq, r3, a1, a2, g3⟩ := yt245 d hd hp r2 as ⟨H.1, trivial⟩ gP hl hlen
    have hq : q ∈ [((0, [], [], [(yc 70, yc 25, (0, yc 0, yc 0))], [], [(0, yc (-1), yc 0)]) : yS)] := hq
    rcases List.mem_cons.mp hq with rfl | hq
    · obtain ⟨y, hy⟩ := yend1 g3 rfl
      have hE := H.2
      have nf : ∀ c j, yinM ys245.2.2.2.2 c j = false := fun _ _ => rfl
      refine ⟨z, z1, ⟨z2.1, ⟨yP_F z3 (nf _ _) (nf _ _) hE.1.1, yP_F z3 (nf _ _) (nf _ _) hE.1.2.1, fun k hk => yP_F z3 (nf _ _) (nf _ _) (hE.1.2.2.1 k hk), fun k hk => yP_F z3 (nf _ _) (nf _ _) (hE.1.2.2.2 k hk)⟩, yA_F hA (M := ys245.2.2.2.2) rfl (fun _ _ _ => rfl) z3 hE.2⟩, yF_le (by decide) z3, _, List.mem_cons_self, (fun _ => y.toInt), fun s hs => absurd hs (Nat.not_lt_zero _), Nat.zero_le _, ?_⟩
      rw [hy]
      exact yany1
    · cases hq
  · obtain ⟨k, hk⟩ : ∃ k : Nat, r2 0 = (k : Int) + 1 := ⟨(r2 0 - 1).toNat, by omega⟩
    have kl : k < 20 := by omega
    have h81 := H.1.2.2 81 (Nat.lt_of_lt_of_le (by decide) H.1.1)
    rw [yu81] at h81
    obtain ⟨-, f, ef, tf⟩ : (0 < 3 ∧ ∃ f : Nat → Int32, hp.2 81 = .inl (0, 2480, .inl f) ∧ ∀ j, j < 2480 → (yel 9 j).1 ≤ (f j).toInt ∧ (f j).toInt ≤ (yel 9 j).2) := h81
    have t0 := tf (124 * k) (by omega)
    have t2 := tf (124 * k + 2) (by omega)
    rw [(yu9 k).1] at t0
    rw [(yu9 k).2] at t2
    have t01 : 0 ≤ (f (124 * k)).toInt := t0.1
    have t02 : (f (124 * k)).toInt ≤ 6 := t0.2
    have t21 : 0 ≤ (f (124 * k + 2)).toInt := t2.1
    have t22 : (f (124 * k + 2)).toInt ≤ 6 := t2.2
    have rd0 : yrd hp 81 ((124 * k : Nat) : Int) = some (.int (f (124 * k))) := by
      rw [yrd_r ef (by omega), Int.toNat_natCast]
    have rd2 : yrd hp 81 ((124 * k + 2 : Nat) : Int) = some (.int (f (124 * k + 2))) := by
      rw [yrd_r ef (by omega), Int.toNat_natCast]
    generalize hr4 : (fun s : Nat => if s = 0 then (k : Int) + 1 else if s = 1 then (f (124 * k)).toInt else (f (124 * k + 2)).toInt) = r4
    have v0 : r4 0 = (k : Int) + 1 := by rw [← hr4]; rfl
    have v1 : r4 1 = (f (124 * k)).toInt := by rw [← hr4]; rfl
    have v2 : r4 2 = (f (124 * k + 2)).toInt := by rw [← hr4]; rfl
    have gP : yG hp r4 ys244.2.2.1 (lv_args 0 as) [] := by
      refine ⟨fun e he => ?_, (fun y hy => by cases hy), fun t ht => ?_, hlv _ _, trivial⟩
      · have he : e ∈ [((0 : Nat), (1 : Int), (20 : Int)), (1, 0, 6), (2, 0, 6)] := he
        simp only [List.mem_cons, List.mem_nil_iff, or_false] at he
        rcases he with rfl | rfl | rfl
        · exact ⟨by decide, by show 1 ≤ r4 0; omega, by show r4 0 ≤ 20; omega⟩
        · exact ⟨by decide, by show 0 ≤ r4 1; omega, by show r4 1 ≤ 6; omega⟩
        · exact ⟨by decide, by show 0 ≤ r4 2; omega, by show r4 2 ≤ 6; omega⟩
      · have ht : t ∈ [((yc 70, yc 25, (0, (1, 0, 0), yc 0)) : yK), (yc 81, (124, 0, (-124)), (0, (1, 1, 0), yc 0)), (yc 81, (124, 0, (-122)), (0, (1, 2, 0), yc 0))] := ht
        simp only [List.mem_cons, List.mem_nil_iff, or_false] at ht
        have w3 : ∀ (a c : Int) (s : Nat), s < 3 → yw 3 (a, s, c) := fun a c s h => Or.inr h
        rcases ht with rfl | rfl | rfl
        · refine ⟨⟨Or.inl rfl, Or.inl rfl, w3 _ _ _ (by decide), Or.inl rfl⟩, ?_, .int x, ?_, yvI (by show x.toInt = 1 * r4 0 + 0; omega)⟩
          · show 0 ≤ yev r4 (yc 70)
            rw [yev_c]
            decide
          · show yrd hp (yev r4 (yc 70)).toNat (yev r4 (yc 25)) = _
            rw [yev_c, yev_c]
            exact hx
        · refine ⟨⟨Or.inl rfl, w3 _ _ _ (by decide), w3 _ _ _ (by decide), Or.inl rfl⟩, ?_, .int (f (124 * k)), ?_, yvI (by show _ = 1 * r4 1 + 0; omega)⟩
          · show 0 ≤ yev r4 (yc 81)
            rw [yev_c]
            decide
          · show yrd hp (yev r4 (yc 81)).toNat (124 * r4 0 + (-124)) = _
            rw [yev_c, show 124 * r4 0 + (-124) = ((124 * k : Nat) : Int) by omega]
            exact rd0
        · refine ⟨⟨Or.inl rfl, w3 _ _ _ (by decide), w3 _ _ _ (by decide), Or.inl rfl⟩, ?_, .int (f (124 * k + 2)), ?_, yvI (by show _ = 1 * r4 2 + 0; omega)⟩
          · show 0 ≤ yev r4 (yc 81)
            rw [yev_c]
            decide
          · show yrd hp (yev r4 (yc 81)).toNat (124 * r4 0 + (-122)) = _
            rw [yev_c, show 124 * r4 0 + (-122) = ((124 * k + 2 : Nat) : Int) by omega]
            exact rd2
    obtain ⟨z, z1, z2, z3, q, hq, r3, a1, a2, g3⟩ := yt244 d hd hp r4 as ⟨H.1, trivial⟩ gP hl hlen
    have hq : q ∈ [((3, [], [], [(yc 81, (124, 0, (-124)), (0, (1, 1, 0), yc 0)), (yc 81, (124, 0, (-122)), (0, (1, 2, 0), yc 0)), (yc 70, yc 25, (0, (1, 0, (-1)), yc 0)), (yc 80, yc 0, (0, (1, 1, 0), yc 0)), (yc 80, yc 2, (0, (1, 2, 0), yc 0))], [], [(0, (1, 0, (-1)), yc 0)]) : yS)] := hq
    rcases List.mem_cons.mp hq with rfl | hq
    · obtain ⟨y, hy⟩ := yend1 g3 rfl
      have hE := H.2
      have u1 : r3 1 = r4 1 := a1 1 (by decide)
      have u2 : r3 2 = r4 2 := a1 2 (by decide)
      have hQ : yQ r3 (1, 1, 0) (1, 2, 0) := by
        intro h
        have h : 0 < 1 * r3 2 + 0 := h
        show 0 < 1 * r3 1 + 0
        have := hE.1.2.2.1 k kl _ _ rd0 rd2 (by omega)
        omega
      have nf : ∀ (c : Nat) (j : Int), c = 81 ∨ c = 84 ∨ c = 85 → yinM ys244.2.2.2.2 c j = false := by
        intro c j hc
        rcases hc with rfl | rfl | rfl <;> rfl
      refine ⟨z, z1, ⟨z2.1, ⟨yP_post (j := 0) g3 (List.mem_of_getElem? (i := 3) rfl) (List.mem_of_getElem? (i := 4) rfl) hQ, yP_F z3 (nf _ _ (by decide)) (nf _ _ (by decide)) hE.1.2.1, fun k hk => yP_F z3 (nf _ _ (by decide)) (nf _ _ (by decide)) (hE.1.2.2.1 k hk), fun k hk => yP_F z3 (nf _ _ (by decide)) (nf _ _ (by decide)) (hE.1.2.2.2 k hk)⟩, yA_F hA (M := ys244.2.2.2.2) (by decide) (ydj_ok (by decide)) z3 hE.2⟩, yF_le (by decide) z3, _, List.mem_cons_self, (fun _ => y.toInt), fun s hs => absurd hs (Nat.not_lt_zero _), Nat.zero_le _, ?_⟩
      rw [hy]
      exact yany1
    · cases hq
end
section
/-! The invariant: what it rests on, and that it holds at the start. -/
theorem yleM_in {M N : yM} (h : yleM M N = true) {i : Nat} {j : Int} (k : yinM M i j = true) : yinM N i j = true := by
  cases e : yinM N i j with
  | true => rfl
  | false =>
    rw [yleM_ok h e] at k
    cases k
theorem yEA_F {A : zHp → Prop} (hA : yEF A yFA) : yEF (yEA A) yFP := by
  intro a b h e hf
  have one : ∀ {c j : Nat}, yinM yFP c (j : Int) = true → yinM yFP c ((j + 2 : Nat) : Int) = true → yP a c j → yP b c j := by
    intro c j k1 k2 hP x y e1 e2 e3
    rw [hf _ _ k1] at e1
    rw [hf _ _ k2] at e2
    exact hP x y e1 e2 e3
  have all : ∀ (c : Nat) (j : Int), c = 81 ∨ c = 85 → yinM yFP c j = true := by
    intro c j hc
    unfold yinM
    rw [List.any_eq_true]
    rcases hc with rfl | rfl
    · exact ⟨(81, 81, 1000), List.mem_of_getElem? (i := 5) rfl, rfl⟩
    · exact ⟨(85, 85, 1000), List.mem_of_getElem? (i := 8) rfl, rfl⟩
  refine ⟨⟨one (by decide) (by decide) h.1.1, one (by decide) (by decide) h.1.2.1, fun k hk => one (all _ _ (Or.inl rfl)) (all _ _ (Or.inl rfl)) (h.1.2.2.1 k hk), fun k hk => one (all _ _ (Or.inr rfl)) (all _ _ (Or.inr rfl)) (h.1.2.2.2 k hk)⟩, hA a b h.2 e (fun i j k => hf i j (yleM_in (by decide) k))⟩
def yz2 (c j : Nat) : Bool := match yrd hpC c ((j + 2 : Nat) : Int) with
  | some (.int y) => y == 0
  | _ => false
theorem yz2_ok {c j : Nat} (h : yz2 c j = true) : yP hpC c j := by
  intro x y e1 e2 e3
  unfold yz2 at h
  rw [e2] at h
  have : y = 0 := by simpa using h
  rw [this] at e3
  exact absurd e3 (by decide)
theorem hpC_r1 : (yz2 80 0 && yz2 84 0) = true := by decide +kernel
theorem hpC_r2 : (List.range 20).all (fun k => yz2 81 (124 * k)) = true := by decide +kernel
theorem hpC_r3 : (List.range 4).all (fun k => yz2 85 (148 * k)) = true := by decide +kernel
theorem hpC_E1 : yE1 hpC := by
  have h := hpC_r1
  rw [Bool.and_eq_true] at h
  exact ⟨yz2_ok h.1, yz2_ok h.2, fun k hk => yz2_ok (List.all_eq_true.mp hpC_r2 k (List.mem_range.mpr hk)), fun k hk => yz2_ok (List.all_eq_true.mp hpC_r3 k (List.mem_range.mpr hk))⟩
end
section
/-! keepsAct of the reference: its two copying loops. -/
/-- the cells that it works on -/
def ycA (hp : zHp) (fs : List Value) (g f : Nat → Int32) : Prop := 88 ≤ hp.1 ∧ hp.2 70 = .inr (11, fs) ∧ fs[24]? = some (.ref 81) ∧ fs[22]? = some (.ref 80) ∧ hp.2 80 = .inl (0, 148, .inl g) ∧ hp.2 81 = .inl (0, 2480, .inl f)
theorem ycA_81 {hp : zHp} {fs : List Value} {g f f2 : Nat → Int32} (h : ycA hp fs g f) : ycA (hp.1, zup hp.2 81 (.inl (0, 2480, .inl f2))) fs g f2 := ⟨h.1, h.2.1, h.2.2.1, h.2.2.2.1, h.2.2.2.2.1, yrd_at⟩
theorem yI32 {k : Nat} (h : k < 3000) : (Int32.ofNat k).toInt = (k : Int) := Int32.toInt_ofNat_of_lt (by omega)
theorem yI32n {k : Nat} (h : k < 3000) : (Int32.ofNat k).toNatClampNeg = k := by
  show (Int32.ofNat k).toInt.toNat = k
  rw [yI32 h, Int.toNat_natCast]
theorem yIok {k n : Nat} (h : k < 3000) (hn : k < n) : ¬ (Int32.ofNat k < 0 ∨ n ≤ (Int32.ofNat k).toNatClampNeg) := by
  rw [yI32n h]
  intro z
  rcases z with z | z
  · have := Int32.lt_iff_toInt_lt.mp z
    rw [yI32 h] at this
    have e0 : (0 : Int32).toInt = 0 := rfl
    omega
  · omega
theorem yIadd {k : Nat} (h : k < 3000) (j : Nat) (hj : j < 3000) : Int32.ofNat k + Int32.ofNat j = Int32.ofNat (k + j) := by
  apply Int32.toInt_inj.mp
  rw [Int32.toInt_add, yI32 h, yI32 hj, Int32.toInt_ofNat_of_lt (by omega)]
  exact Int.bmod_eq_of_le_mul_two (by omega) (by omega)
theorem yIsub {k j : Nat} (h : k < 3000) (hj : j ≤ k) : Int32.ofNat k - Int32.ofNat j = Int32.ofNat (k - j) := by
  apply Int32.toInt_inj.mp
  rw [Int32.toInt_sub, yI32 h, yI32 (show j < 3000 by omega), Int32.toInt_ofNat_of_lt (by omega)]
  have := Int.bmod_eq_of_le_mul_two (x := (k : Int) - (j : Int)) (y := 2 ^ 32) (by omega) (by omega)
  omega
section YACT
variable {d : Nat} {hp : zHp} {fs : List Value} {g f : Nat → Int32}
/-- one turn of the first loop: an element goes 124 places down -/
theorem yact1 (h : ycA hp fs g f) {k : Nat} (h1 : 124 ≤ k) (h2 : k < 2480) {r : zRe} (K : zR none d 2 none zc220 (12, [(1, .int (Int32.ofNat (k + 1))), (0, .ref 70)], []) (hp.1, zup hp.2 81 (.inl (0, 2480, .inl (upd f (k - 124) (f k))))) r) : zR none d 2 none zc220 (12, [(1, .int (Int32.ofNat k)), (0, .ref 70)], []) hp r := by
  obtain ⟨h0, c70, f24, f22, c80, c81⟩ := h
  have l70 : (70 : Nat) < hp.1 ∧ 70 < zSC := ⟨by omega, by decide⟩
  have l81 : (81 : Nat) < hp.1 ∧ 81 < zSC := ⟨by omega, by decide⟩
  refine r_s (fr' := (13, [(1, .int (Int32.ofNat k)), (0, .ref 70)], [.int (Int32.ofNat k)])) (hp' := hp) (q := (.iload_n 1, 1, 0, 0, .null)) rfl (fun _ => rfl) (Nat.le_refl _) ?_
  refine r_s (fr' := (16, [(1, .int (Int32.ofNat k)), (0, .ref 70)], [.int 2480, .int (Int32.ofNat k)])) (hp' := hp) (q := (.sipush 2480, 3, 0, 0, .null)) rfl (fun _ => rfl) (Nat.le_refl _) ?_
  refine r_ifc (len := 3) (a := 40) (b := 0) (v0 := .null) (cn := .ge) (off := 24) rfl (fun q => ?_) (fun _ => ?_)
  · exfalso
    have q := of_decide_eq_true q
    have := Int32.le_iff_toInt_le.mp q
    rw [yI32 (by omega)] at this
    have e : (2480 : Int32).toInt = 2480 := rfl
    omega
  refine r_s (fr' := (20, [(1, .int (Int32.ofNat k)), (0, .ref 70)], [.ref 70])) (hp' := hp) (q := (.aload_n 0, 1, 0, 0, .null)) rfl (fun _ => rfl) (Nat.le_refl _) ?_
  refine r_get (i := 42) (len := 3) (a := 11) (b := 24) (v0 := .null) rfl (by decide) l70 c70 f24 ?_
  refine r_s (fr' := (24, [(1, .int (Int32.ofNat k)), (0, .ref 70)], [.int (Int32.ofNat k), .ref 81])) (hp' := hp) (q := (.iload_n 1, 1, 0, 0, .null)) rfl (fun _ => rfl) (Nat.le_refl _) ?_
  refine r_s (fr' := (26, [(1, .int (Int32.ofNat k)), (0, .ref 70)], [.int 124, .int (Int32.ofNat k), .ref 81])) (hp' := hp) (q := (.bipush 124, 2, 0, 0, .null)) rfl (fun _ => rfl) (Nat.le_refl _) ?_
  refine r_s (fr' := (27, [(1, .int (Int32.ofNat k)), (0, .ref 70)], [.int (Int32.ofNat k - 124), .ref 81])) (hp' := hp) (q := (.isub, 1, 0, 0, .null)) rfl (fun _ => rfl) (Nat.le_refl _) ?_
  have es : Int32.ofNat k - 124 = Int32.ofNat (k - 124) := yIsub (j := 124) (by omega) h1
  rw [es]
  refine r_s (fr' := (28, [(1, .int (Int32.ofNat k)), (0, .ref 70)], [.ref 70, .int (Int32.ofNat (k - 124)), .ref 81])) (hp' := hp) (q := (.aload_n 0, 1, 0, 0, .null)) rfl (fun _ => rfl) (Nat.le_refl _) ?_
  refine r_get (i := 42) (len := 3) (a := 11) (b := 24) (v0 := .null) rfl (by decide) l70 c70 f24 ?_
  refine r_s (fr' := (32, [(1, .int (Int32.ofNat k)), (0, .ref 70)], [.int (Int32.ofNat k), .ref 81, .int (Int32.ofNat (k - 124)), .ref 81])) (hp' := hp) (q := (.iload_n 1, 1, 0, 0, .null)) rfl (fun _ => rfl) (Nat.le_refl _) ?_
  refine r_iald (len := 1) (a := 0) (b := 0) (v0 := .null) rfl ⟨l81.2, l81.1⟩ c81 (yIok (by omega) h2) (congrArg f (yI32n (by omega))) ?_
  refine r_iast (len := 1) (a := 0) (b := 0) (v0 := .null) rfl l81 c81 (yIok (by omega) (by omega)) ?_
  rw [yI32n (show k - 124 < 3000 by omega)]
  refine r_s (fr' := (37, [(1, .int (Int32.ofNat k + 1)), (0, .ref 70)], [])) (hp' := (hp.1, zup hp.2 81 (.inl (0, 2480, .inl (upd f (k - 124) (f k)))))) (q := (.iinc 1 1, 3, 0, 0, .null)) rfl (fun _ => rfl) (Nat.le_refl _) ?_
  rw [show Int32.ofNat k + 1 = Int32.ofNat (k + 1) from yIadd (by omega) 1 (by omega)]
  exact r_s (fr' := (12, [(1, .int (Int32.ofNat (k + 1))), (0, .ref 70)], [])) (hp' := (hp.1, zup hp.2 81 (.inl (0, 2480, .inl (upd f (k - 124) (f k)))))) (q := (.goto (-25), 3, 12, 0, .null)) rfl (fun _ => rfl) (Nat.le_refl _) K
/-- the first loop: all goes 124 places down -/
theorem yact1s : ∀ (n : Nat) {hp : zHp} {f : Nat → Int32} {k : Nat}, ycA hp fs g f → 124 ≤ k → k + n = 2480 → ∃ (hp2 : zHp) (f2 : Nat → Int32), hp2.1 = hp.1 ∧ (∀ c, c ≠ 81 → hp2.2 c = hp.2 c) ∧ ycA hp2 fs g f2 ∧ (∀ j, j < k - 124 → f2 j = f j) ∧ (∀ j, k - 124 ≤ j → j < 2356 → f2 j = f (j + 124)) ∧ ∀ r : zRe, zR none d 2 none zc220 (12, [(1, .int (Int32.ofNat 2480)), (0, .ref 70)], []) hp2 r → zR none d 2 none zc220 (12, [(1, .int (Int32.ofNat k)), (0, .ref 70)], []) hp r
  | 0, hp, f, k, h, h1, h2 => by
    have e : k = 2480 := by omega
    subst e
    exact ⟨hp, f, rfl, fun _ _ => rfl, h, fun _ _ => rfl, fun j q1 q2 => by omega, fun r q => q⟩
  | n + 1, hp, f, k, h, h1, h2 => by
    obtain ⟨hp2, f2, a1, a2, a3, a4, a5, a6⟩ := yact1s n (k := k + 1) (ycA_81 (f2 := upd f (k - 124) (f k)) h) (by omega) (by omega)
    refine ⟨hp2, f2, a1, fun c hc => (a2 c hc).trans (if_neg hc), a3, fun j hj => ?_, fun j q1 q2 => ?_, fun r q => yact1 h h1 (by omega) (a6 r q)⟩
    · rw [a4 j (by omega)]
      exact if_neg (by omega)
    · by_cases e : j = k - 124
      · subst e
        rw [a4 (k - 124) (by omega), show k - 124 + 124 = k by omega]
        exact if_pos rfl
      · rw [a5 j (by omega) q2]
        exact if_neg (by omega)
end YACT
end
section
/-! keepsAct of the reference: its second loop. -/
theorem yImul {k : Nat} (hk : k < 24) : (124 : Int32) * Int32.ofNat k = Int32.ofNat (124 * k) := by
  apply Int32.toInt_inj.mp
  rw [Int32.toInt_mul, yI32 (show k < 3000 by omega), Int32.toInt_ofNat_of_lt (by omega)]
  have e : (124 : Int32).toInt = 124 := rfl
  rw [e]
  have := Int.bmod_eq_of_le_mul_two (x := 124 * (k : Int)) (y := 2 ^ 32) (by omega) (by omega)
  omega
section YACU
variable {d : Nat} {hp : zHp} {fs : List Value} {g f : Nat → Int32} {u : Nat}
/-- one turn of the second loop: an element of the row goes into its chunk -/
theorem yact2 (h : ycA hp fs g f) (hu : u < 20) (f25 : fs[25]? = some (.int (Int32.ofNat u))) {k : Nat} (h2 : k < 124) {r : zRe} (K : zR none d 2 none zc220 (52, [(1, .int (Int32.ofNat (k + 1))), (0, .ref 70)], []) (hp.1, zup hp.2 81 (.inl (0, 2480, .inl (upd f (124 * u + k) (g k))))) r) : zR none d 2 none zc220 (52, [(1, .int (Int32.ofNat k)), (0, .ref 70)], []) hp r := by
  obtain ⟨h0, c70, f24, f22, c80, c81⟩ := h
  have l70 : (70 : Nat) < hp.1 ∧ 70 < zSC := ⟨by omega, by decide⟩
  have l80 : (80 : Nat) < hp.1 ∧ 80 < zSC := ⟨by omega, by decide⟩
  have l81 : (81 : Nat) < hp.1 ∧ 81 < zSC := ⟨by omega, by decide⟩
  refine r_s (fr' := (53, [(1, .int (Int32.ofNat k)), (0, .ref 70)], [.int (Int32.ofNat k)])) (hp' := hp) (q := (.iload_n 1, 1, 0, 0, .null)) rfl (fun _ => rfl) (Nat.le_refl _) ?_
  refine r_s (fr' := (55, [(1, .int (Int32.ofNat k)), (0, .ref 70)], [.int 124, .int (Int32.ofNat k)])) (hp' := hp) (q := (.bipush 124, 2, 0, 0, .null)) rfl (fun _ => rfl) (Nat.le_refl _) ?_
  refine r_ifc (len := 3) (a := 84) (b := 0) (v0 := .null) (cn := .ge) (off := 29) rfl (fun q => ?_) (fun _ => ?_)
  · exfalso
    have q := of_decide_eq_true q
    have := Int32.le_iff_toInt_le.mp q
    rw [yI32 (by omega)] at this
    have e : (124 : Int32).toInt = 124 := rfl
    omega
  refine r_s (fr' := (59, [(1, .int (Int32.ofNat k)), (0, .ref 70)], [.ref 70])) (hp' := hp) (q := (.aload_n 0, 1, 0, 0, .null)) rfl (fun _ => rfl) (Nat.le_refl _) ?_
  refine r_get (i := 42) (len := 3) (a := 11) (b := 24) (v0 := .null) rfl (by decide) l70 c70 f24 ?_
  refine r_s (fr' := (64, [(1, .int (Int32.ofNat k)), (0, .ref 70)], [.int 124, .ref 81])) (hp' := hp) (q := (.bipush 124, 2, 0, 0, .null)) rfl (fun _ => rfl) (Nat.le_refl _) ?_
  refine r_s (fr' := (65, [(1, .int (Int32.ofNat k)), (0, .ref 70)], [.ref 70, .int 124, .ref 81])) (hp' := hp) (q := (.aload_n 0, 1, 0, 0, .null)) rfl (fun _ => rfl) (Nat.le_refl _) ?_
  refine r_get (i := 264) (len := 3) (a := 11) (b := 25) (v0 := .null) rfl (by decide) l70 c70 f25 ?_
  refine r_s (fr' := (69, [(1, .int (Int32.ofNat k)), (0, .ref 70)], [.int (124 * Int32.ofNat u), .ref 81])) (hp' := hp) (q := (.imul, 1, 0, 0, .null)) rfl (fun _ => rfl) (Nat.le_refl _) ?_
  rw [yImul (show u < 24 by omega)]
  refine r_s (fr' := (70, [(1, .int (Int32.ofNat k)), (0, .ref 70)], [.int (Int32.ofNat k), .int (Int32.ofNat (124 * u)), .ref 81])) (hp' := hp) (q := (.iload_n 1, 1, 0, 0, .null)) rfl (fun _ => rfl) (Nat.le_refl _) ?_
  refine r_s (fr' := (71, [(1, .int (Int32.ofNat k)), (0, .ref 70)], [.int (Int32.ofNat (124 * u) + Int32.ofNat k), .ref 81])) (hp' := hp) (q := (.iadd, 1, 0, 0, .null)) rfl (fun _ => rfl) (Nat.le_refl _) ?_
  rw [yIadd (show 124 * u < 3000 by omega) k (by omega)]
  refine r_s (fr' := (72, [(1, .int (Int32.ofNat k)), (0, .ref 70)], [.ref 70, .int (Int32.ofNat (124 * u + k)), .ref 81])) (hp' := hp) (q := (.aload_n 0, 1, 0, 0, .null)) rfl (fun _ => rfl) (Nat.le_refl _) ?_
  refine r_get (i := 39) (len := 3) (a := 11) (b := 22) (v0 := .null) rfl (by decide) l70 c70 f22 ?_
  refine r_s (fr' := (76, [(1, .int (Int32.ofNat k)), (0, .ref 70)], [.int (Int32.ofNat k), .ref 80, .int (Int32.ofNat (124 * u + k)), .ref 81])) (hp' := hp) (q := (.iload_n 1, 1, 0, 0, .null)) rfl (fun _ => rfl) (Nat.le_refl _) ?_
  refine r_iald (len := 1) (a := 0) (b := 0) (v0 := .null) rfl ⟨l80.2, l80.1⟩ c80 (yIok (by omega) (by omega)) (congrArg g (yI32n (by omega))) ?_
  refine r_iast (len := 1) (a := 0) (b := 0) (v0 := .null) rfl l81 c81 (yIok (by omega) (by omega)) ?_
  rw [yI32n (show 124 * u + k < 3000 by omega)]
  refine r_s (fr' := (81, [(1, .int (Int32.ofNat k + 1)), (0, .ref 70)], [])) (hp' := (hp.1, zup hp.2 81 (.inl (0, 2480, .inl (upd f (124 * u + k) (g k)))))) (q := (.iinc 1 1, 3, 0, 0, .null)) rfl (fun _ => rfl) (Nat.le_refl _) ?_
  rw [show Int32.ofNat k + 1 = Int32.ofNat (k + 1) from yIadd (by omega) 1 (by omega)]
  exact r_s (fr' := (52, [(1, .int (Int32.ofNat (k + 1))), (0, .ref 70)], [])) (hp' := (hp.1, zup hp.2 81 (.inl (0, 2480, .inl (upd f (124 * u + k) (g k)))))) (q := (.goto (-29), 3, 52, 0, .null)) rfl (fun _ => rfl) (Nat.le_refl _) K
/-- the second loop: the row stands in its chunk -/
theorem yact2s (hu : u < 20) (f25 : fs[25]? = some (.int (Int32.ofNat u))) : ∀ (n : Nat) {hp : zHp} {f : Nat → Int32} {k : Nat}, ycA hp fs g f → k + n = 124 → ∃ (hp2 : zHp) (f2 : Nat → Int32), hp2.1 = hp.1 ∧ (∀ c, c ≠ 81 → hp2.2 c = hp.2 c) ∧ ycA hp2 fs g f2 ∧ (∀ j, j < 124 * u + k ∨ 124 * u + 124 ≤ j → f2 j = f j) ∧ (∀ j, k ≤ j → j < 124 → f2 (124 * u + j) = g j) ∧ ∀ r : zRe, zR none d 2 none zc220 (52, [(1, .int (Int32.ofNat 124)), (0, .ref 70)], []) hp2 r → zR none d 2 none zc220 (52, [(1, .int (Int32.ofNat k)), (0, .ref 70)], []) hp r
  | 0, hp, f, k, h, h2 => by
    have e : k = 124 := by omega
    subst e
    exact ⟨hp, f, rfl, fun _ _ => rfl, h, fun _ _ => rfl, fun j q1 q2 => by omega, fun r q => q⟩
  | n + 1, hp, f, k, h, h2 => by
    obtain ⟨hp2, f2, a1, a2, a3, a4, a5, a6⟩ := yact2s hu f25 n (k := k + 1) (ycA_81 (f2 := upd f (124 * u + k) (g k)) h) (by omega)
    refine ⟨hp2, f2, a1, fun c hc => (a2 c hc).trans (if_neg hc), a3, fun j hj => ?_, fun j q1 q2 => ?_, fun r q => yact2 h hu f25 (by omega) (a6 r q)⟩
    · rw [a4 j (by omega)]
      exact if_neg (by omega)
    · by_cases e : j = k
      · subst e
        rw [a4 _ (by omega)]
        exact if_pos rfl
      · exact a5 j (by omega) q2
end YACU
end
section
/-! keepsAct of the reference: behind its loops. -/
section YACV
variable {d : Nat} {hp : zHp} {fs : List Value} {g f : Nat → Int32} {u : Nat}
/-- out of the second loop: one act more -/
theorem yact3 (h : ycA hp fs g f) (hu : u < 20) (f25 : fs[25]? = some (.int (Int32.ofNat u))) (hl : fs.length = 39) : zR none d 2 none zc220 (52, [(1, .int (Int32.ofNat 124)), (0, .ref 70)], []) hp (none, (hp.1, zup hp.2 70 (.inr (11, fs.set 25 (.int (Int32.ofNat (u + 1))))))) := by
  obtain ⟨h0, c70, f24, f22, c80, c81⟩ := h
  have l70 : (70 : Nat) < hp.1 ∧ 70 < zSC := ⟨by omega, by decide⟩
  refine r_s (fr' := (53, [(1, .int (Int32.ofNat 124)), (0, .ref 70)], [.int (Int32.ofNat 124)])) (hp' := hp) (q := (.iload_n 1, 1, 0, 0, .null)) rfl (fun _ => rfl) (Nat.le_refl _) ?_
  refine r_s (fr' := (55, [(1, .int (Int32.ofNat 124)), (0, .ref 70)], [.int 124, .int (Int32.ofNat 124)])) (hp' := hp) (q := (.bipush 124, 2, 0, 0, .null)) rfl (fun _ => rfl) (Nat.le_refl _) ?_
  refine r_ifc (len := 3) (a := 84) (b := 0) (v0 := .null) (cn := .ge) (off := 29) rfl (fun _ => ?_) (fun q => absurd q (by decide))
  refine r_s (fr' := (85, [(1, .int (Int32.ofNat 124)), (0, .ref 70)], [.ref 70])) (hp' := hp) (q := (.aload_n 0, 1, 0, 0, .null)) rfl (fun _ => rfl) (Nat.le_refl _) ?_
  refine r_s (fr' := (86, [(1, .int (Int32.ofNat 124)), (0, .ref 70)], [.ref 70, .ref 70])) (hp' := hp) (q := (.dup, 1, 0, 0, .null)) rfl (fun _ => rfl) (Nat.le_refl _) ?_
  refine r_get (i := 264) (len := 3) (a := 11) (b := 25) (v0 := .null) rfl (by decide) l70 c70 f25 ?_
  refine r_s (fr' := (90, [(1, .int (Int32.ofNat 124)), (0, .ref 70)], [.int 1, .int (Int32.ofNat u), .ref 70])) (hp' := hp) (q := (.iconst 1, 1, 0, 0, .null)) rfl (fun _ => rfl) (Nat.le_refl _) ?_
  refine r_s (fr' := (91, [(1, .int (Int32.ofNat 124)), (0, .ref 70)], [.int (Int32.ofNat u + 1), .ref 70])) (hp' := hp) (q := (.iadd, 1, 0, 0, .null)) rfl (fun _ => rfl) (Nat.le_refl _) ?_
  rw [show Int32.ofNat u + 1 = Int32.ofNat (u + 1) from yIadd (by omega) 1 (by omega)]
  refine r_put (i := 264) (len := 3) (a := 11) (b := 25) (v0 := .null) rfl ⟨l70.1, l70.2, rfl⟩ c70 (by omega) ?_
  exact r_ret (q := (.return_, 1, 0, 0, .null)) rfl rfl (fun _ => rfl)
/-- out of the first loop: one act less -/
theorem yact0 (h : ycA hp fs g f) (f25 : fs[25]? = some (.int (Int32.ofNat 20))) (hl : fs.length = 39) {r : zRe} (K : zR none d 2 none zc220 (50, [(1, .int (Int32.ofNat 2480)), (0, .ref 70)], []) (hp.1, zup hp.2 70 (.inr (11, fs.set 25 (.int (Int32.ofNat 19))))) r) : zR none d 2 none zc220 (12, [(1, .int (Int32.ofNat 2480)), (0, .ref 70)], []) hp r := by
  obtain ⟨h0, c70, f24, f22, c80, c81⟩ := h
  have l70 : (70 : Nat) < hp.1 ∧ 70 < zSC := ⟨by omega, by decide⟩
  refine r_s (fr' := (13, [(1, .int (Int32.ofNat 2480)), (0, .ref 70)], [.int (Int32.ofNat 2480)])) (hp' := hp) (q := (.iload_n 1, 1, 0, 0, .null)) rfl (fun _ => rfl) (Nat.le_refl _) ?_
  refine r_s (fr' := (16, [(1, .int (Int32.ofNat 2480)), (0, .ref 70)], [.int 2480, .int (Int32.ofNat 2480)])) (hp' := hp) (q := (.sipush 2480, 3, 0, 0, .null)) rfl (fun _ => rfl) (Nat.le_refl _) ?_
  refine r_ifc (len := 3) (a := 40) (b := 0) (v0 := .null) (cn := .ge) (off := 24) rfl (fun _ => ?_) (fun q => absurd q (by decide))
  refine r_s (fr' := (41, [(1, .int (Int32.ofNat 2480)), (0, .ref 70)], [.ref 70])) (hp' := hp) (q := (.aload_n 0, 1, 0, 0, .null)) rfl (fun _ => rfl) (Nat.le_refl _) ?_
  refine r_s (fr' := (42, [(1, .int (Int32.ofNat 2480)), (0, .ref 70)], [.ref 70, .ref 70])) (hp' := hp) (q := (.dup, 1, 0, 0, .null)) rfl (fun _ => rfl) (Nat.le_refl _) ?_
  refine r_get (i := 264) (len := 3) (a := 11) (b := 25) (v0 := .null) rfl (by decide) l70 c70 f25 ?_
  refine r_s (fr' := (46, [(1, .int (Int32.ofNat 2480)), (0, .ref 70)], [.int 1, .int (Int32.ofNat 20), .ref 70])) (hp' := hp) (q := (.iconst 1, 1, 0, 0, .null)) rfl (fun _ => rfl) (Nat.le_refl _) ?_
  refine r_s (fr' := (47, [(1, .int (Int32.ofNat 2480)), (0, .ref 70)], [.int (Int32.ofNat 19), .ref 70])) (hp' := hp) (q := (.isub, 1, 0, 0, .null)) rfl (fun _ => rfl) (Nat.le_refl _) ?_
  refine r_put (i := 264) (len := 3) (a := 11) (b := 25) (v0 := .null) rfl ⟨l70.1, l70.2, rfl⟩ c70 (by omega) ?_
  exact K
end YACV
end
section
/-! keepsAct of the reference: put together. -/
section YACW
variable {d : Nat} {hp : zHp} {fs : List Value} {g f : Nat → Int32} {u : Nat}
theorem ycA_70 {v : Value} (h : ycA hp fs g f) : ycA (hp.1, zup hp.2 70 (.inr (11, fs.set 25 v))) (fs.set 25 v) g f := ⟨h.1, yrd_at, by rw [List.getElem?_set]; exact h.2.2.1, by rw [List.getElem?_set]; exact h.2.2.2.1, h.2.2.2.2.1, h.2.2.2.2.2⟩
/-- a chunk is the row, or a chunk of before -/
def yck (g f f2 : Nat → Int32) (k : Nat) : Prop := (f2 (124 * k) = g 0 ∧ f2 (124 * k + 2) = g 2) ∨ ∃ k2, k2 < 20 ∧ f2 (124 * k) = f (124 * k2) ∧ f2 (124 * k + 2) = f (124 * k2 + 2)
theorem yact50 (h : ycA hp fs g f) (hu : u < 20) (f25 : fs[25]? = some (.int (Int32.ofNat u))) (hl : fs.length = 39) {lv : List (Nat × Value)} (hlv : zs1 lv 1 (.int 0) = [(1, .int (Int32.ofNat 0)), (0, .ref 70)]) : ∃ (hp2 : zHp) (f2 : Nat → Int32), hp2.1 = hp.1 ∧ (∀ c, c ≠ 81 → c ≠ 70 → hp2.2 c = hp.2 c) ∧ ycA hp2 (fs.set 25 (.int (Int32.ofNat (u + 1)))) g f2 ∧ (∀ k, k < 20 → (k = u ∧ f2 (124 * k) = g 0 ∧ f2 (124 * k + 2) = g 2) ∨ (k ≠ u ∧ f2 (124 * k) = f (124 * k) ∧ f2 (124 * k + 2) = f (124 * k + 2))) ∧ zR none d 2 none zc220 (50, lv, []) hp (none, hp2) := by
  obtain ⟨hp2, f2, a1, a2, a3, a4, a5, a6⟩ := yact2s (d := d) hu f25 124 (k := 0) h (by omega)
  refine ⟨(hp2.1, zup hp2.2 70 (.inr (11, fs.set 25 (.int (Int32.ofNat (u + 1)))))), f2, a1, fun c h1 h2 => (if_neg h2).trans (a2 c h1), ycA_70 a3, fun k hk => ?_, ?_⟩
  · by_cases e : k = u
    · subst e
      exact Or.inl ⟨rfl, a5 0 (by omega) (by omega), a5 2 (by omega) (by omega)⟩
    · exact Or.inr ⟨e, a4 _ (by omega), a4 _ (by omega)⟩
  · refine r_s (fr' := (51, lv, [.int 0])) (hp' := hp) (q := (.iconst 0, 1, 0, 0, .null)) rfl (fun _ => rfl) (Nat.le_refl _) ?_
    refine r_s (fr' := (52, [(1, .int (Int32.ofNat 0)), (0, .ref 70)], [])) (hp' := hp) (q := (.istore_n 1, 1, 0, 0, .null)) rfl (fun _ => ?_) (Nat.le_refl _) (a6 _ (yact3 a3 hu f25 hl))
    show (if 1 < 2 then zn 52 (zs1 lv 1 (.int 0)) [] hp else none) = _
    rw [if_pos (by decide), hlv]
    rfl
theorem yact (h : ycA hp fs g f) (hu : u ≤ 20) (f25 : fs[25]? = some (.int (Int32.ofNat u))) (hl : fs.length = 39) : ∃ (hp2 : zHp) (f2 : Nat → Int32) (w : Nat), w ≤ 20 ∧ hp2.1 = hp.1 ∧ (∀ c, c ≠ 81 → c ≠ 70 → hp2.2 c = hp.2 c) ∧ ycA hp2 (fs.set 25 (.int (Int32.ofNat w))) g f2 ∧ (∀ k, k < 20 → yck g f f2 k) ∧ zR none d 2 none zc220 (0, [(0, .ref 70)], []) hp (none, hp2) := by
  have l70 : (70 : Nat) < hp.1 ∧ 70 < zSC := ⟨by have := h.1; omega, by decide⟩
  have enter : ∀ {r : zRe}, (¬ u = 20 → zR none d 2 none zc220 (50, [(0, .ref 70)], []) hp r) → (u = 20 → zR none d 2 none zc220 (9, [(0, .ref 70)], []) hp r) → zR none d 2 none zc220 (0, [(0, .ref 70)], []) hp r := by
    intro r K1 K2
    refine r_s (fr' := (1, [(0, .ref 70)], [.ref 70])) (hp' := hp) (q := (.aload_n 0, 1, 0, 0, .null)) rfl (fun _ => rfl) (Nat.le_refl _) ?_
    refine r_get (i := 264) (len := 3) (a := 11) (b := 25) (v0 := .null) rfl (by decide) l70 h.2.1 f25 ?_
    refine r_s (fr' := (6, [(0, .ref 70)], [.int 20, .int (Int32.ofNat u)])) (hp' := hp) (q := (.bipush 20, 2, 0, 0, .null)) rfl (fun _ => rfl) (Nat.le_refl _) ?_
    refine r_ifc (len := 3) (a := 50) (b := 0) (v0 := .null) (cn := .ne) (off := 44) rfl (fun q => K1 (fun z => ?_)) (fun q => K2 ?_)
    · subst z
      exact absurd q (by decide)
    · have q : ¬ ¬ Int32.ofNat u = 20 := of_decide_eq_false q
      have q : Int32.ofNat u = 20 := Decidable.not_not.mp q
      have e := congrArg Int32.toInt q
      rw [yI32 (by omega)] at e
      have e0 : (20 : Int32).toInt = 20 := rfl
      omega
  by_cases e : u = 20
  · subst e
    obtain ⟨hp1, f1, a1, a2, a3, a4, a5, a6⟩ := yact1s (d := d) 2356 (k := 124) h (by omega) (by omega)
    have a7 := ycA_70 (v := .int (Int32.ofNat 19)) a3
    obtain ⟨hp2, f2, b1, b2, b3, b4, b5⟩ := yact50 (d := d) (u := 19) (lv := [(1, .int (Int32.ofNat 2480)), (0, .ref 70)]) a7 (by decide) (by rw [List.getElem?_set, if_pos rfl, if_pos (by omega)]) (by rw [List.length_set]; exact hl) rfl
    rw [List.set_set] at b3
    refine ⟨hp2, f2, 20, Nat.le_refl _, b1.trans a1, fun c h1 h2 => (b2 c h1 h2).trans ((if_neg h2).trans (a2 c h1)), b3, fun k hk => ?_, enter (fun z => absurd rfl z) (fun _ => ?_)⟩
    · rcases b4 k hk with q | ⟨q1, q2, q3⟩
      · exact Or.inl q.2
      · exact Or.inr ⟨k + 1, by omega, by rw [q2, a5 _ (by omega) (by omega), show 124 * k + 124 = 124 * (k + 1) by omega], by rw [q3, a5 _ (by omega) (by omega), show 124 * k + 2 + 124 = 124 * (k + 1) + 2 by omega]⟩
    · refine r_s (fr' := (11, [(0, .ref 70)], [.int 124])) (hp' := hp) (q := (.bipush 124, 2, 0, 0, .null)) rfl (fun _ => rfl) (Nat.le_refl _) ?_
      exact r_s (fr' := (12, [(1, .int (Int32.ofNat 124)), (0, .ref 70)], [])) (hp' := hp) (q := (.istore_n 1, 1, 0, 0, .null)) rfl (fun _ => rfl) (Nat.le_refl _) (a6 _ (yact0 a3 f25 hl b5))
  · obtain ⟨hp2, f2, b1, b2, b3, b4, b5⟩ := yact50 (d := d) (lv := [(0, .ref 70)]) h (by omega) f25 hl rfl
    exact ⟨hp2, f2, u + 1, by omega, b1, b2, b3, fun k hk => (b4 k hk).imp (fun q => q.2) (fun q => ⟨k, hk, q.2⟩), enter (fun _ => b5) (fun z => absurd z e)⟩
end YACW
end
section
/-! A flat memory: ints by cell and place. -/
abbrev xS : Type := (Nat → Nat → Int32) × (Nat → Nat → Int64)
def xfv (s : xS) (i j : Nat) (v : Value) : Value := match v with
  | .int _ => .int (s.1 i j)
  | .long _ => .long (s.2 i j)
  | w => w
def xcl (s : xS) (i : Nat) (c : zCl) : zCl := match c with
  | .inr (k, fs) => .inr (k, fs.mapIdx (xfv s i))
  | .inl (k, n, .inl _) => .inl (k, n, .inl (s.1 i))
  | .inl (k, n, .inr (.inl _)) => .inl (k, n, .inr (.inl (s.2 i)))
  | c => c
def xW (B : zHp) (s : xS) : zHp := (B.1, fun i => xcl s i (B.2 i))
def xof (hp : zHp) : xS := (fun i j => match hp.2 i with
  | .inr (_, fs) => (match fs[j]? with
    | some (.int x) => x
    | _ => 0)
  | .inl (_, _, .inl f) => f j
  | _ => 0, fun i j => match hp.2 i with
  | .inr (_, fs) => (match fs[j]? with
    | some (.long x) => x
    | _ => 0)
  | .inl (_, _, .inr (.inl f)) => f j
  | _ => 0)
theorem xW_of (hp : zHp) : xW hp (xof hp) = hp := by
  refine Prod.ext rfl (funext fun i => ?_)
  show xcl (xof hp) i (hp.2 i) = hp.2 i
  unfold xcl
  split
  · next k fs e =>
    rw [e]
    refine congrArg (fun z => Sum.inr (k, z)) (List.ext_getElem? fun j => ?_)
    rw [List.getElem?_mapIdx]
    cases h : fs[j]? with
    | none => rfl
    | some v =>
      show some (xfv (xof hp) i j v) = some v
      unfold xfv
      split
      · next x =>
        have : (xof hp).1 i j = x := by
          unfold xof
          dsimp only
          rw [e]
          dsimp only
          rw [h]
        rw [this]
      · next x =>
        have : (xof hp).2 i j = x := by
          unfold xof
          dsimp only
          rw [e]
          dsimp only
          rw [h]
        rw [this]
      · rfl
  · next k n f e =>
    rw [e]
    have : (xof hp).1 i = f := by
      funext j
      unfold xof
      dsimp only
      rw [e]
    rw [this]
  · next k n f e =>
    rw [e]
    have : (xof hp).2 i = f := by
      funext j
      unfold xof
      dsimp only
      rw [e]
    rw [this]
  · next e => rfl
def xu (s : xS) (i j : Nat) (v : Int32) : xS := (fun a b => if a = i ∧ b = j then v else s.1 a b, s.2)
def xul (s : xS) (i j : Nat) (v : Int64) : xS := (s.1, fun a b => if a = i ∧ b = j then v else s.2 a b)
/-- an object's int field, or reference field; rows -/
def xti (ix a b : Nat) : Bool := decide (ix < 88) && ((yty ix).1 == 0 && ((yty ix).2.1 == a && (match (yty ix).2.2.2.2[b]? with
  | some t => t.1 == 0
  | none => false)))
def xtr (ix a b c : Nat) : Bool := decide (ix < 88) && ((yty ix).1 == 0 && ((yty ix).2.1 == a && (match (yty ix).2.2.2.2[b]? with
  | some t => t.1 == 2 && (t.2.1 == (c : Int) && t.2.2 == (c : Int))
  | none => false)))
def xto (ix a : Nat) : Bool := decide (ix < 88) && ((yty ix).1 == 0 && (yty ix).2.1 == a)
def xta (ix k n : Nat) : Bool := decide (ix < 88) && ((yty ix).1 == 1 && ((yty ix).2.1 == k && ((yty ix).2.2.1 == n && decide (k < 3))))
section XMEM
variable {B : zHp} {s : xS} {ev : zEv} {d nL : Nat} {rt : Option FieldType} {cd : List (Option zEn)} {r : zRe}
theorem xti_ok (H : yH0 B) {ix a b : Nat} (h : xti ix a b = true) : ix < B.1 ∧ ix < zSC ∧ ∃ (fs : List Value) (x : Int32), B.2 ix = .inr (a, fs) ∧ fs[b]? = some (.int x) := by
  unfold xti at h
  simp only [Bool.and_eq_true, decide_eq_true_eq, beq_iff_eq] at h
  obtain ⟨h1, h2, h3, h4⟩ := h
  have l1 : ix < B.1 := Nat.lt_of_lt_of_le h1 H.1
  have c := H.2.2 ix l1
  unfold yokc at c
  rw [h2] at c
  obtain ⟨fs, e1, -, e3⟩ := c
  rw [h3] at e1
  split at h4
  · next t ht =>
    obtain ⟨v, v1, v2⟩ := e3 b t ht
    have h4 : t.1 = 0 := by simpa using h4
    unfold yft at v2
    rw [h4] at v2
    obtain ⟨x, rfl, -⟩ := v2
    exact ⟨l1, Nat.lt_trans h1 (by decide), fs, x, e1, v1⟩
  · cases h4
theorem xtr_ok (H : yH0 B) {ix a b c : Nat} (h : xtr ix a b c = true) : ix < B.1 ∧ ix < zSC ∧ ∃ (fs : List Value), B.2 ix = .inr (a, fs) ∧ fs[b]? = some (.ref c) := by
  unfold xtr at h
  simp only [Bool.and_eq_true, decide_eq_true_eq, beq_iff_eq] at h
  obtain ⟨h1, h2, h3, h4⟩ := h
  have l1 : ix < B.1 := Nat.lt_of_lt_of_le h1 H.1
  have c0 := H.2.2 ix l1
  unfold yokc at c0
  rw [h2] at c0
  obtain ⟨fs, e1, -, e3⟩ := c0
  rw [h3] at e1
  split at h4
  · next t ht =>
    obtain ⟨v, v1, v2⟩ := e3 b t ht
    simp only [Bool.and_eq_true, beq_iff_eq] at h4
    unfold yft at v2
    rw [h4.1] at v2
    obtain ⟨i, rfl, a1, a2⟩ := v2
    have : i = c := by omega
    subst this
    exact ⟨l1, Nat.lt_trans h1 (by decide), fs, e1, v1⟩
  · cases h4
theorem xta_ok (H : yH0 B) {ix k n : Nat} (h : xta ix k n = true) : ix < B.1 ∧ ix < zSC ∧ k < 3 ∧ ∃ f : Nat → Int32, B.2 ix = .inl (k, n, .inl f) := by
  unfold xta at h
  simp only [Bool.and_eq_true, decide_eq_true_eq, beq_iff_eq] at h
  obtain ⟨h1, h2, h3, h4, h5⟩ := h
  have l1 : ix < B.1 := Nat.lt_of_lt_of_le h1 H.1
  have c := H.2.2 ix l1
  unfold yokc at c
  rw [h2] at c
  have c : (match (yty ix).2.1 with
    | 3 => ∃ f : Nat → Int64, B.2 ix = .inl (3, (yty ix).2.2.1, .inr (.inl f))
    | 4 => ∃ f : Nat → Option Nat, B.2 ix = .inl (4, (yty ix).2.2.1, .inr (.inr (.inr (.inr f)))) ∧ ∀ j, j < (yty ix).2.2.1 → f j = none ∨ ∃ k : Nat, f j = some (88 + 3 * k) ∧ 88 + 3 * k + 2 < B.1
    | 5 => ∃ f : Nat → Option Nat, B.2 ix = .inl (5, (yty ix).2.2.1, .inr (.inr (.inr (.inr f)))) ∧ ∀ j, j < (yty ix).2.2.1 → f j = some ((yty ix).2.2.2.1 + j)
    | k => k < 3 ∧ ∃ f : Nat → Int32, B.2 ix = .inl (k, (yty ix).2.2.1, .inl f) ∧ ∀ j, j < (yty ix).2.2.1 → (yel (yty ix).2.2.2.1 j).1 ≤ (f j).toInt ∧ (f j).toInt ≤ (yel (yty ix).2.2.2.1 j).2) := c
  rw [h3, h4] at c
  have k3 : k = 0 ∨ k = 1 ∨ k = 2 := by omega
  refine ⟨l1, Nat.lt_trans h1 (by decide), h5, ?_⟩
  rcases k3 with rfl | rfl | rfl
  · obtain ⟨-, f, e, -⟩ := c
    exact ⟨f, e⟩
  · obtain ⟨-, f, e, -⟩ := c
    exact ⟨f, e⟩
  · obtain ⟨-, f, e, -⟩ := c
    exact ⟨f, e⟩
theorem xW_o {ix a : Nat} {fs : List Value} (e : B.2 ix = .inr (a, fs)) : (xW B s).2 ix = .inr (a, fs.mapIdx (xfv s ix)) := by
  show xcl s ix (B.2 ix) = _
  rw [e]
  rfl
theorem xW_a {ix k n : Nat} {f : Nat → Int32} (e : B.2 ix = .inl (k, n, .inl f)) : (xW B s).2 ix = .inl (k, n, .inl (s.1 ix)) := by
  show xcl s ix (B.2 ix) = _
  rw [e]
  rfl
theorem xf_i {ix b : Nat} {fs : List Value} {x : Int32} (e : fs[b]? = some (.int x)) : (fs.mapIdx (xfv s ix))[b]? = some (.int (s.1 ix b)) := by
  rw [List.getElem?_mapIdx, e]
  rfl
theorem xf_r {ix b c : Nat} {fs : List Value} (e : fs[b]? = some (.ref c)) : (fs.mapIdx (xfv s ix))[b]? = some (.ref c) := by
  rw [List.getElem?_mapIdx, e]
  rfl
theorem xkd (H : yH0 B) {ix a : Nat} (h : xto ix a = true) : zKd ix (xW B s) = some a := by
  unfold xto at h
  simp only [Bool.and_eq_true, decide_eq_true_eq, beq_iff_eq] at h
  obtain ⟨h1, h2, h3⟩ := h
  have l1 : ix < B.1 := Nat.lt_of_lt_of_le h1 H.1
  have c := H.2.2 ix l1
  unfold yokc at c
  rw [h2] at c
  obtain ⟨fs, e1, -, -⟩ := c
  rw [h3] at e1
  unfold zKd
  rw [if_pos (show ix < zSC from Nat.lt_trans h1 (by decide)), if_pos (show ix < (xW B s).1 from l1), xW_o e1]
theorem r_gi {pc i len a b ix : Nat} {lv : List (Nat × Value)} {rest : List Value} {v0 : Value} {v : Int32} (H : yH0 B) (hq : zg cd pc = some (.getfield i, len, a, b, v0)) (ha : ¬ a = 100) (ht : xti ix a b = true) (hv : s.1 ix b = v) (K : zR ev d nL rt cd (pc + 3, lv, .int v :: rest) (xW B s) r) : zR ev d nL rt cd (pc, lv, .ref ix :: rest) (xW B s) r := by
  obtain ⟨h1, h2, fs, x, h3, h4⟩ := xti_ok H ht
  subst hv
  exact r_get hq ha ⟨h1, h2⟩ (xW_o h3) (xf_i h4) K
theorem r_gr {pc i len a b ix c : Nat} {lv : List (Nat × Value)} {rest : List Value} {v0 : Value} (H : yH0 B) (hq : zg cd pc = some (.getfield i, len, a, b, v0)) (ha : ¬ a = 100) (ht : xtr ix a b c = true) (K : zR ev d nL rt cd (pc + 3, lv, .ref c :: rest) (xW B s) r) : zR ev d nL rt cd (pc, lv, .ref ix :: rest) (xW B s) r := by
  obtain ⟨h1, h2, fs, h3, h4⟩ := xtr_ok H ht
  exact r_get hq ha ⟨h1, h2⟩ (xW_o h3) (xf_r h4) K
theorem xW_put {ix a b : Nat} {fs : List Value} {x v : Int32} (e : B.2 ix = .inr (a, fs)) (e2 : fs[b]? = some (.int x)) : ((xW B s).1, zup (xW B s).2 ix (.inr (a, (fs.mapIdx (xfv s ix)).set b (.int v)))) = xW B (xu s ix b v) := by
  refine Prod.ext rfl (funext fun i => ?_)
  show (if i = ix then _ else xcl s i (B.2 i)) = xcl (xu s ix b v) i (B.2 i)
  by_cases h : i = ix
  · subst h
    rw [if_pos rfl, e]
    show _ = Sum.inr (a, fs.mapIdx (xfv (xu s i b v) i))
    refine congrArg (fun z => Sum.inr (a, z)) (List.ext_getElem? fun j => ?_)
    rw [List.getElem?_set, List.getElem?_mapIdx, List.getElem?_mapIdx, List.length_mapIdx]
    by_cases hj : b = j
    · subst hj
      have hl : b < fs.length := by
        have := List.getElem?_eq_some_iff.mp e2
        exact this.1
      rw [if_pos rfl, if_pos hl, e2]
      show some (Value.int v) = some (Value.int ((xu s i b v).1 i b))
      unfold xu
      dsimp only
      rw [if_pos ⟨rfl, rfl⟩]
    · rw [if_neg hj]
      cases fs[j]? with
      | none => rfl
      | some w =>
        show some (xfv s i j w) = some (xfv (xu s i b v) i j w)
        unfold xfv
        split
        · unfold xu
          dsimp only
          rw [if_neg (fun z => hj z.2.symm)]
        · rfl
        · rfl
  · rw [if_neg h]
    have e3 : ∀ j, (xu s ix b v).1 i j = s.1 i j := fun j => if_neg (fun z => h z.1)
    unfold xcl
    split
    · refine congrArg (fun z => Sum.inr (_, z)) (List.ext_getElem? fun j => ?_)
      rw [List.getElem?_mapIdx, List.getElem?_mapIdx]
      congr 1
      funext w
      unfold xfv
      split
      · rw [e3]
      · rfl
      · rfl
    · rw [show (xu s ix b v).1 i = s.1 i from funext e3]
    · rfl
    · rfl
theorem r_pi {pc i len a b ix : Nat} {lv : List (Nat × Value)} {rest : List Value} {v0 : Value} {v : Int32} {s2 : xS} (H : yH0 B) (hq : zg cd pc = some (.putfield i, len, a, b, v0)) (ht : xti ix a b = true) (hf : zfit (ztyp a b) (.int v) = true) (e : xu s ix b v = s2) (K : zR ev d nL rt cd (pc + 3, lv, rest) (xW B s2) r) : zR ev d nL rt cd (pc, lv, .int v :: .ref ix :: rest) (xW B s) r := by
  obtain ⟨h1, h2, fs, x, h3, h4⟩ := xti_ok H ht
  subst e
  refine r_put hq ⟨h1, h2, hf⟩ (xW_o h3) ?_ ?_
  · rw [List.length_mapIdx]
    exact (List.getElem?_eq_some_iff.mp h4).1
  · rw [xW_put h3 h4]
    exact K
theorem r_al {pc len a b ix n : Nat} {lv : List (Nat × Value)} {rest : List Value} {v0 : Value} {j : Nat} {v : Int32} (H : yH0 B) (hq : zg cd pc = some (.iaload, len, a, b, v0)) (ht : xta ix 0 n = true) (hn : n ≤ 2999) (hj : j < n) (hv : s.1 ix j = v) (K : zR ev d nL rt cd (pc + 1, lv, .int v :: rest) (xW B s) r) : zR ev d nL rt cd (pc, lv, .int (Int32.ofNat j) :: .ref ix :: rest) (xW B s) r := by
  obtain ⟨h1, h2, -, f, h3⟩ := xta_ok H ht
  subst hv
  exact r_iald hq ⟨h2, h1⟩ (xW_a h3) (yIok (by omega) hj) (congrArg (s.1 ix) (yI32n (by omega))) K
theorem r_bl {pc len a b ix k n : Nat} {lv : List (Nat × Value)} {rest : List Value} {v0 : Value} {j : Nat} {v : Int32} (H : yH0 B) (hq : zg cd pc = some (.baload, len, a, b, v0)) (ht : xta ix k n = true) (hk : k ≠ 0) (hn : n ≤ 2999) (hj : j < n) (hv : s.1 ix j = v) (K : zR ev d nL rt cd (pc + 1, lv, .int v :: rest) (xW B s) r) : zR ev d nL rt cd (pc, lv, .int (Int32.ofNat j) :: .ref ix :: rest) (xW B s) r := by
  obtain ⟨h1, h2, h5, f, h3⟩ := xta_ok H ht
  subst hv
  have k3 : k = 1 ∨ k = 2 := by omega
  refine r_s hq (fun call => ?_) (Nat.le_refl _) K
  show zBald ztb ev (pc, lv, .int (Int32.ofNat j) :: .ref ix :: rest) (xW B s) = _
  unfold zBald
  dsimp only
  rw [if_pos h2, if_pos (show ix < (xW B s).1 from h1), xW_a h3]
  rcases k3 with rfl | rfl
  · show (if ¬ (Int32.ofNat j < 0 ∨ n ≤ (Int32.ofNat j).toNatClampNeg) then zn (pc + 1) lv (.int (s.1 ix (Int32.ofNat j).toNatClampNeg) :: rest) (xW B s) else none) = _
    rw [if_pos (yIok (by omega) hj), yI32n (by omega)]
    rfl
  · show (if ¬ (Int32.ofNat j < 0 ∨ n ≤ (Int32.ofNat j).toNatClampNeg) then zn (pc + 1) lv (.int (s.1 ix (Int32.ofNat j).toNatClampNeg) :: rest) (xW B s) else none) = _
    rw [if_pos (yIok (by omega) hj), yI32n (by omega)]
    rfl
theorem xW_st {ix k n : Nat} {f : Nat → Int32} {j : Nat} {v : Int32} (e : B.2 ix = .inl (k, n, .inl f)) : ((xW B s).1, zup (xW B s).2 ix (.inl (k, n, .inl (upd (s.1 ix) j v)))) = xW B (xu s ix j v) := by
  refine Prod.ext rfl (funext fun i => ?_)
  show (if i = ix then _ else xcl s i (B.2 i)) = xcl (xu s ix j v) i (B.2 i)
  by_cases h : i = ix
  · subst h
    rw [if_pos rfl, e]
    show _ = Sum.inl (k, n, Sum.inl ((xu s i j v).1 i))
    have : upd (s.1 i) j v = (xu s i j v).1 i := by
      funext m
      unfold xu upd
      dsimp only
      by_cases hm : m = j
      · rw [if_pos hm, if_pos ⟨rfl, hm⟩]
      · rw [if_neg hm, if_neg (fun z => hm z.2)]
    rw [this]
  · rw [if_neg h]
    have e3 : ∀ m, (xu s ix j v).1 i m = s.1 i m := fun m => if_neg (fun z => h z.1)
    unfold xcl
    split
    · refine congrArg (fun z => Sum.inr (_, z)) (List.ext_getElem? fun m => ?_)
      rw [List.getElem?_mapIdx, List.getElem?_mapIdx]
      congr 1
      funext w
      unfold xfv
      split
      · rw [e3]
      · rfl
      · rfl
    · rw [show (xu s ix j v).1 i = s.1 i from funext e3]
    · rfl
    · rfl
theorem r_as {pc len a b ix n : Nat} {lv : List (Nat × Value)} {rest : List Value} {v0 : Value} {j : Nat} {v : Int32} {s2 : xS} (H : yH0 B) (hq : zg cd pc = some (.iastore, len, a, b, v0)) (ht : xta ix 0 n = true) (hn : n ≤ 2999) (hj : j < n) (e : xu s ix j v = s2) (K : zR ev d nL rt cd (pc + 1, lv, rest) (xW B s2) r) : zR ev d nL rt cd (pc, lv, .int v :: .int (Int32.ofNat j) :: .ref ix :: rest) (xW B s) r := by
  obtain ⟨h1, h2, -, f, h3⟩ := xta_ok H ht
  subst e
  refine r_iast hq ⟨h1, h2⟩ (xW_a h3) (yIok (by omega) hj) ?_
  rw [yI32n (by omega), xW_st h3]
  exact K
end XMEM
/-- comparisons of small numbers -/
def xnc (c : _root_.Jvm.ClassFile.Cond) (a b : Nat) : Bool := match c with
  | .eq => decide (a = b)
  | .ne => decide (¬ a = b)
  | .lt => decide (a < b)
  | .ge => decide (b ≤ a)
  | .gt => decide (b < a)
  | .le => decide (a ≤ b)
theorem xI {a : Nat} (h : a < 2147483648) : (Int32.ofNat a).toInt = (a : Int) := Int32.toInt_ofNat_of_lt (by omega)
theorem xeq {a b : Nat} (ha : a < 2147483648) (hb : b < 2147483648) : Int32.ofNat a = Int32.ofNat b ↔ a = b := by
  rw [← Int32.toInt_inj, xI ha, xI hb]
  omega
theorem xcmp {c : _root_.Jvm.ClassFile.Cond} {a b : Nat} (ha : a < 2147483648) (hb : b < 2147483648) : zcmp c (Int32.ofNat a) (Int32.ofNat b) = xnc c a b := by
  cases c with
  | eq => exact decide_eq_decide.mpr (xeq ha hb)
  | ne => exact decide_eq_decide.mpr (not_congr (xeq ha hb))
  | lt => exact decide_eq_decide.mpr (by rw [Int32.lt_iff_toInt_lt, xI ha, xI hb]; omega)
  | ge => exact decide_eq_decide.mpr (by rw [Int32.le_iff_toInt_le, xI ha, xI hb]; omega)
  | gt => exact decide_eq_decide.mpr (by rw [Int32.lt_iff_toInt_lt, xI ha, xI hb]; omega)
  | le => exact decide_eq_decide.mpr (by rw [Int32.le_iff_toInt_le, xI ha, xI hb]; omega)
/-- sums and products of small numbers -/
theorem xadd {a b : Nat} (h : a + b < 2147483648) : Int32.ofNat a + Int32.ofNat b = Int32.ofNat (a + b) := by
  apply Int32.toInt_inj.mp
  rw [Int32.toInt_add, xI (by omega), xI (by omega), xI h]
  exact Int.bmod_eq_of_le_mul_two (by omega) (by omega)
theorem xsub {a b : Nat} (h : a < 2147483648) (hb : b ≤ a) : Int32.ofNat a - Int32.ofNat b = Int32.ofNat (a - b) := by
  apply Int32.toInt_inj.mp
  rw [Int32.toInt_sub, xI h, xI (by omega), xI (by omega)]
  have := Int.bmod_eq_of_le_mul_two (x := (a : Int) - (b : Int)) (y := 2 ^ 32) (by omega) (by omega)
  omega
theorem xmul {a b : Nat} (h : a * b < 2147483648) (ha : a < 2147483648) (hb : b < 2147483648) : Int32.ofNat a * Int32.ofNat b = Int32.ofNat (a * b) := by
  apply Int32.toInt_inj.mp
  have e : ((a : Int) * (b : Int)) = ((a * b : Nat) : Int) := by simp
  rw [Int32.toInt_mul, xI ha, xI hb, xI h, e]
  exact Int.bmod_eq_of_le_mul_two (by omega) (by omega)
end
section
/-! Rules for printed bodies: locals by what they hold, rows by any place within. -/
def xib (e : Int32) (n : Nat) : Bool := decide (¬ (e < 0 ∨ n ≤ e.toNatClampNeg))
def xbo (x : Int32) : Bool := x == 0 || x == 1
theorem xbo_ok {x : Int32} (h : xbo x = true) : narrow .boolean (.int x) = .int x := by
  unfold xbo at h
  simp only [Bool.or_eq_true, beq_iff_eq] at h
  rcases h with rfl | rfl <;> rfl
theorem xif {α : Type} {c : Bool} {x : Option α} {r : α} (h : (if c = true then x else none) = some r) : c = true ∧ x = some r := by
  split at h
  · next hc => exact ⟨hc, h⟩
  · cases h
theorem xbind {α β : Type} {o : Option α} {f : α → Option β} {r : β} (h : o.bind f = some r) : ∃ q, o = some q ∧ f q = some r := by
  cases o with
  | none => cases h
  | some q => exact ⟨q, rfl, h⟩
section XRUL
variable {B : zHp} {s : xS} {ev : zEv} {d nL : Nat} {rt : Option FieldType} {cd : List (Option zEn)} {r : zRe} {q : zEn} {pc : Nat} {lv : List (Nat × Value)} {st : List Value} {hp : zHp}
theorem q_li {k i : Nat} {x : Int32} (hq : zg cd pc = some q) (he : ∀ call : zCa, zdo zts ev call nL rt q (pc, lv, st) hp = zLoadI k i (pc, lv, st) hp) (hl : zld lv i = some (.int x)) (K : zR ev d nL rt cd (pc + k, lv, .int x :: st) hp r) : zR ev d nL rt cd (pc, lv, st) hp r := by
  refine r_s hq (fun call => (he call).trans ?_) (Nat.le_refl _) K
  unfold zLoadI zn
  dsimp only
  rw [hl]
theorem q_ll {k i : Nat} {x : Int64} (hq : zg cd pc = some q) (he : ∀ call : zCa, zdo zts ev call nL rt q (pc, lv, st) hp = zLoadL k i (pc, lv, st) hp) (hl : zld lv i = some (.long x)) (K : zR ev d nL rt cd (pc + k, lv, .long x :: st) hp r) : zR ev d nL rt cd (pc, lv, st) hp r := by
  refine r_s hq (fun call => (he call).trans ?_) (Nat.le_refl _) K
  unfold zLoadL zn
  dsimp only
  rw [hl]
theorem q_lr {k i : Nat} {x : Nat} (hq : zg cd pc = some q) (he : ∀ call : zCa, zdo zts ev call nL rt q (pc, lv, st) hp = zLoadA k i (pc, lv, st) hp) (hl : zld lv i = some (.ref x)) (K : zR ev d nL rt cd (pc + k, lv, .ref x :: st) hp r) : zR ev d nL rt cd (pc, lv, st) hp r := by
  refine r_s hq (fun call => (he call).trans ?_) (Nat.le_refl _) K
  unfold zLoadA zn
  dsimp only
  rw [hl]
theorem q_si {k i : Nat} {x : Int32} (hq : zg cd pc = some q) (he : ∀ call : zCa, zdo zts ev call nL rt q (pc, lv, .int x :: st) hp = zStoI k i nL (pc, lv, .int x :: st) hp) (hi : i < nL) (K : zR ev d nL rt cd (pc + k, zs1 lv i (.int x), st) hp r) : zR ev d nL rt cd (pc, lv, .int x :: st) hp r := by
  refine r_s hq (fun call => (he call).trans ?_) (Nat.le_refl _) K
  unfold zStoI zn
  dsimp only
  rw [if_pos hi]
theorem q_sl {k i : Nat} {x : Int64} (hq : zg cd pc = some q) (he : ∀ call : zCa, zdo zts ev call nL rt q (pc, lv, .long x :: st) hp = zStoL k i nL (pc, lv, .long x :: st) hp) (hi : i + 1 < nL) (K : zR ev d nL rt cd (pc + k, zs2 lv i (.long x), st) hp r) : zR ev d nL rt cd (pc, lv, .long x :: st) hp r := by
  refine r_s hq (fun call => (he call).trans ?_) (Nat.le_refl _) K
  unfold zStoL zn
  dsimp only
  rw [if_pos hi]
theorem q_sr {k i x : Nat} (hq : zg cd pc = some q) (he : ∀ call : zCa, zdo zts ev call nL rt q (pc, lv, .ref x :: st) hp = zStoA k i nL (pc, lv, .ref x :: st) hp) (hi : i < nL) (K : zR ev d nL rt cd (pc + k, zs1 lv i (.ref x), st) hp r) : zR ev d nL rt cd (pc, lv, .ref x :: st) hp r := by
  refine r_s hq (fun call => (he call).trans ?_) (Nat.le_refl _) K
  unfold zStoA zn
  dsimp only
  rw [if_pos hi]
theorem q_inc {i : Nat} {n : Int} {x : Int32} (hq : zg cd pc = some q) (he : ∀ call : zCa, zdo zts ev call nL rt q (pc, lv, st) hp = zInc i n nL (pc, lv, st) hp) (hl : zld lv i = some (.int x)) (hi : i < nL) (K : zR ev d nL rt cd (pc + 3, zs1 lv i (.int (x + Int32.ofInt n)), st) hp r) : zR ev d nL rt cd (pc, lv, st) hp r := by
  refine r_s hq (fun call => (he call).trans ?_) (Nat.le_refl _) K
  unfold zInc zn
  dsimp only
  rw [hl]
  dsimp only
  rw [if_pos hi]
theorem q_div {f : Int32 → Int32 → Int32} {x y : Int32} (hq : zg cd pc = some q) (he : ∀ call : zCa, zdo zts ev call nL rt q (pc, lv, .int y :: .int x :: st) hp = zBinD f (pc, lv, .int y :: .int x :: st) hp) (hy : (!(y == 0)) = true) (K : zR ev d nL rt cd (pc + 1, lv, .int (f x y) :: st) hp r) : zR ev d nL rt cd (pc, lv, .int y :: .int x :: st) hp r := by
  refine r_s hq (fun call => (he call).trans ?_) (Nat.le_refl _) K
  unfold zBinD zn
  dsimp only
  rw [if_neg (by simpa using hy)]
theorem q_ldiv {f : Int64 → Int64 → Int64} {x y : Int64} (hq : zg cd pc = some q) (he : ∀ call : zCa, zdo zts ev call nL rt q (pc, lv, .long y :: .long x :: st) hp = zBnlD f (pc, lv, .long y :: .long x :: st) hp) (hy : (!(y == 0)) = true) (K : zR ev d nL rt cd (pc + 1, lv, .long (f x y) :: st) hp r) : zR ev d nL rt cd (pc, lv, .long y :: .long x :: st) hp r := by
  refine r_s hq (fun call => (he call).trans ?_) (Nat.le_refl _) K
  unfold zBnlD zn
  dsimp only
  rw [if_neg (by simpa using hy)]
theorem q_al {len a b ix n : Nat} {rest : List Value} {v0 : Value} {e v : Int32} (H : yH0 B) (hq : zg cd pc = some (.iaload, len, a, b, v0)) (ht : xta ix 0 n = true) (hj : xib e n = true) (hv : s.1 ix e.toNatClampNeg = v) (K : zR ev d nL rt cd (pc + 1, lv, .int v :: rest) (xW B s) r) : zR ev d nL rt cd (pc, lv, .int e :: .ref ix :: rest) (xW B s) r := by
  obtain ⟨h1, h2, -, f, h3⟩ := xta_ok H ht
  exact r_iald hq ⟨h2, h1⟩ (xW_a h3) (of_decide_eq_true hj) hv K
theorem q_bl {len a b ix k n : Nat} {rest : List Value} {v0 : Value} {e v : Int32} (H : yH0 B) (hq : zg cd pc = some (.baload, len, a, b, v0)) (ht : xta ix k n = true) (hk : k ≠ 0) (hj : xib e n = true) (hv : s.1 ix e.toNatClampNeg = v) (K : zR ev d nL rt cd (pc + 1, lv, .int v :: rest) (xW B s) r) : zR ev d nL rt cd (pc, lv, .int e :: .ref ix :: rest) (xW B s) r := by
  obtain ⟨h1, h2, h5, f, h3⟩ := xta_ok H ht
  subst hv
  have hj := of_decide_eq_true hj
  have k3 : k = 1 ∨ k = 2 := by omega
  refine r_s hq (fun call => ?_) (Nat.le_refl _) K
  show zBald ztb ev (pc, lv, .int e :: .ref ix :: rest) (xW B s) = _
  unfold zBald
  dsimp only
  rw [if_pos h2, if_pos (show ix < (xW B s).1 from h1), xW_a h3]
  rcases k3 with rfl | rfl
  · show (if ¬ (e < 0 ∨ n ≤ e.toNatClampNeg) then zn (pc + 1) lv (.int (s.1 ix e.toNatClampNeg) :: rest) (xW B s) else none) = _
    rw [if_pos hj]
    rfl
  · show (if ¬ (e < 0 ∨ n ≤ e.toNatClampNeg) then zn (pc + 1) lv (.int (s.1 ix e.toNatClampNeg) :: rest) (xW B s) else none) = _
    rw [if_pos hj]
    rfl
theorem q_as {len a b ix n : Nat} {rest : List Value} {v0 : Value} {e v : Int32} {s2 : xS} (H : yH0 B) (hq : zg cd pc = some (.iastore, len, a, b, v0)) (ht : xta ix 0 n = true) (hj : xib e n = true) (e2 : xu s ix e.toNatClampNeg v = s2) (K : zR ev d nL rt cd (pc + 1, lv, rest) (xW B s2) r) : zR ev d nL rt cd (pc, lv, .int v :: .int e :: .ref ix :: rest) (xW B s) r := by
  obtain ⟨h1, h2, -, f, h3⟩ := xta_ok H ht
  subst e2
  refine r_iast hq ⟨h1, h2⟩ (xW_a h3) (of_decide_eq_true hj) ?_
  rw [xW_st h3]
  exact K
theorem q_bs {len a b ix n : Nat} {rest : List Value} {v0 : Value} {e v : Int32} {s2 : xS} (H : yH0 B) (hq : zg cd pc = some (.bastore, len, a, b, v0)) (ht : xta ix 1 n = true) (hj : xib e n = true) (e2 : xu s ix e.toNatClampNeg (vp_nar .byte v) = s2) (K : zR ev d nL rt cd (pc + 1, lv, rest) (xW B s2) r) : zR ev d nL rt cd (pc, lv, .int v :: .int e :: .ref ix :: rest) (xW B s) r := by
  obtain ⟨h1, h2, -, f, h3⟩ := xta_ok H ht
  subst e2
  refine r_bast hq ⟨h1, h2⟩ (xW_a h3) (of_decide_eq_true hj) ?_
  rw [xW_st h3]
  exact K
theorem q_ri {x : Int32} {ty : FieldType} (hq : zg cd pc = some q) (he : ∀ call : zCa, zdo zts ev call nL (some ty) q (pc, lv, [.int x]) hp = zIret (some ty) (pc, lv, [.int x]) hp) (hR : zisR q.1 = true) (hn : narrow ty (.int x) = .int x) : zR ev d nL (some ty) cd (pc, lv, [.int x]) hp (some (.int x), hp) := by
  refine r_ret hq hR (fun call => (he call).trans ?_)
  unfold zIret
  dsimp only
  rw [if_pos hn]
theorem x_o1 {l : List (Nat × Value)} {i j : Nat} {v u : Value} (h : zld l j = some u) (h1 : (j == i) = false) (h2 : (u.category == 2 && j + 1 == i) = false) : zld (zs1 l i v) j = some u := zs1_ot h (by simpa using h1) (fun z => by simp [z.1, z.2] at h2)
theorem x_o2 {l : List (Nat × Value)} {i j : Nat} {v u : Value} (h : zld l j = some u) (h1 : (j == i) = false) (h2 : (u.category == 2 && j + 1 == i) = false) (h3 : (j == i + 1) = false) : zld (zs2 l i v) j = some u := zs2_ot h (by simpa using h1) (fun z => by simp [z.1, z.2] at h2) (by simpa using h3)
end XRUL
end
