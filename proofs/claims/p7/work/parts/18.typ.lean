/-! What each cell holds at all times. -/
/-- bounds of a row's element by the row's code -/
def yel (ec j : Nat) : Int × Int := match ec with
  | 1 => if j = 0 ∨ j = 2 ∨ j = 3 then (0, 6) else if (6 ≤ j ∧ j < 12) ∨ (24 ≤ j ∧ j < 30) ∨ (42 ≤ j ∧ j < 48) then (0, 5) else if 72 ≤ j ∧ j < 78 then (0, 63) else (-2147483648, 2147483647)
  | 2 => if j = 0 ∨ j = 2 ∨ j = 3 then (0, 6) else if 10 ≤ j ∧ j < 46 ∧ ((j - 10) % 6 = 0 ∨ (j - 10) % 6 = 3) then (0, 5) else if 124 ≤ j ∧ j < 148 ∧ (j - 124) % 4 = 0 then (0, 5) else (-2147483648, 2147483647)
  | 3 => (0, 5)
  | 4 => (-1, 5)
  | 5 => (0, 255)
  | 6 => (-128, 127)
  | 7 => (0, 1)
  | 8 => (0, 63)
  | 9 => if j % 124 = 0 ∨ j % 124 = 2 ∨ j % 124 = 3 then (0, 6) else if 10 ≤ j % 124 ∧ j % 124 < 46 ∧ ((j % 124 - 10) % 6 = 0 ∨ (j % 124 - 10) % 6 = 3) then (0, 5) else (-2147483648, 2147483647)
  | 10 => if j % 148 = 0 ∨ j % 148 = 2 ∨ j % 148 = 3 then (0, 6) else if 10 ≤ j % 148 ∧ j % 148 < 46 ∧ ((j % 148 - 10) % 6 = 0 ∨ (j % 148 - 10) % 6 = 3) then (0, 5) else if 124 ≤ j % 148 ∧ (j % 148 - 124) % 4 = 0 then (0, 5) else (-2147483648, 2147483647)
  | 11 => (0, 400)
  | 12 => (0, 12)
  | 13 => (0, 2147483647)
  | _ => (-2147483648, 2147483647)
/-- codes whose elements differ -/
def yed (ec : Nat) : Bool := ec == 1 || ec == 2 || ec == 9 || ec == 10
theorem yel_same {ec : Nat} (h : yed ec = false) (j : Nat) : yel ec j = yel ec 0 := by
  unfold yed at h
  match ec, h with
  | 0, _ => rfl
  | 3, _ => rfl
  | 4, _ => rfl
  | 5, _ => rfl
  | 6, _ => rfl
  | 7, _ => rfl
  | 8, _ => rfl
  | 11, _ => rfl
  | 12, _ => rfl
  | 13, _ => rfl
  | n + 14, _ => rfl
/-- a cell's kind: 0 an object (its class, its fields' kinds and bounds), 1 a row (kind of row, length, code), 2 a row of ints of some length -/
abbrev yC : Type := Nat × Nat × Nat × Nat × List (Nat × Int × Int)
def yft (t : Nat × Int × Int) (v : Value) : Prop := match t.1 with
  | 0 => ∃ x : Int32, v = .int x ∧ t.2.1 ≤ x.toInt ∧ x.toInt ≤ t.2.2
  | 1 => ∃ x : Int64, v = .long x ∧ t.2.1 ≤ x.toInt ∧ x.toInt ≤ t.2.2
  | _ => ∃ i : Nat, v = .ref i ∧ t.2.1 ≤ (i : Int) ∧ (i : Int) ≤ t.2.2
def yokc (h : Nat) (c : yC) (x : zCl) : Prop := match c.1 with
  | 0 => ∃ fs : List Value, x = .inr (c.2.1, fs) ∧ fs.length = c.2.2.2.2.length ∧ ∀ (j : Nat) (t : Nat × Int × Int), c.2.2.2.2[j]? = some t → ∃ v, fs[j]? = some v ∧ yft t v
  | 1 => match c.2.1 with
    | 3 => ∃ f : Nat → Int64, x = .inl (3, c.2.2.1, .inr (.inl f))
    | 4 => ∃ f : Nat → Option Nat, x = .inl (4, c.2.2.1, .inr (.inr (.inr (.inr f)))) ∧ ∀ j, j < c.2.2.1 → f j = none ∨ ∃ k : Nat, f j = some (88 + 3 * k) ∧ 88 + 3 * k + 2 < h
    | 5 => ∃ f : Nat → Option Nat, x = .inl (5, c.2.2.1, .inr (.inr (.inr (.inr f)))) ∧ ∀ j, j < c.2.2.1 → f j = some (c.2.2.2.1 + j)
    | k => k < 3 ∧ ∃ f : Nat → Int32, x = .inl (k, c.2.2.1, .inl f) ∧ ∀ j, j < c.2.2.1 → (yel c.2.2.2.1 j).1 ≤ (f j).toInt ∧ (f j).toInt ≤ (yel c.2.2.2.1 j).2
  | _ => ∃ (n : Nat) (f : Nat → Int32), n ≤ 400 ∧ x = .inl (0, n, .inl f)
def ytab : List yC := [(0, 10, 0, 0, [(2, 1, 1), (0, 0, 400), (2, 2, 2), (2, 4, 4), (2, 6, 6), (2, 9, 9), (2, 11, 11), (2, 13, 13), (0, 0, 6), (2, 14, 14), (2, 36, 36), (2, 41, 41), (2, 42, 42), (2, 43, 43), (2, 44, 44), (2, 50, 50), (2, 67, 67)]),
  (1, 0, 400, 5, []),
  (0, 6, 0, 0, [(2, 1, 3), (0, 0, 400), (0, 0, 400), (0, 0, 400), (0, 0, 4000)]),
  (1, 0, 0, 0, []),
  (0, 9, 0, 0, [(2, 5, 5)]),
  (1, 0, 4, 0, []),
  (0, 5, 0, 0, [(2, 7, 7), (0, 0, 400), (2, 8, 8), (0, 0, 400), (0, (-2147483648), 2147483647), (0, (-2147483648), 2147483647), (0, (-2147483648), 2147483647), (0, (-2147483648), 2147483647), (0, (-2147483648), 2147483647), (0, (-2147483648), 2147483647)]),
  (1, 0, 400, 0, []),
  (1, 0, 400, 0, []),
  (0, 8, 0, 0, [(2, 10, 10)]),
  (1, 0, 114, 1, []),
  (0, 8, 0, 0, [(2, 12, 12)]),
  (1, 0, 114, 1, []),
  (1, 4, 6, 0, []),
  (0, 2, 0, 0, [(2, 15, 15), (0, 0, 19), (0, 0, 20)]),
  (1, 5, 20, 16, []),
  (1, 0, 114, 1, []),
  (1, 0, 114, 1, []),
  (1, 0, 114, 1, []),
  (1, 0, 114, 1, []),
  (1, 0, 114, 1, []),
  (1, 0, 114, 1, []),
  (1, 0, 114, 1, []),
  (1, 0, 114, 1, []),
  (1, 0, 114, 1, []),
  (1, 0, 114, 1, []),
  (1, 0, 114, 1, []),
  (1, 0, 114, 1, []),
  (1, 0, 114, 1, []),
  (1, 0, 114, 1, []),
  (1, 0, 114, 1, []),
  (1, 0, 114, 1, []),
  (1, 0, 114, 1, []),
  (1, 0, 114, 1, []),
  (1, 0, 114, 1, []),
  (1, 0, 114, 1, []),
  (1, 5, 4, 37, []),
  (1, 0, 114, 1, []),
  (1, 0, 114, 1, []),
  (1, 0, 114, 1, []),
  (1, 0, 114, 1, []),
  (1, 0, 4, 13, []),
  (1, 2, 4, 7, []),
  (0, 1, 0, 0, [(0, 0, 2147483647)]),
  (0, 0, 0, 0, [(2, 45, 45), (2, 46, 46), (2, 47, 47), (0, (-2147483648), 2147483647), (2, 48, 48), (0, (-2147483648), 2147483647), (0, (-2147483648), 2147483647), (2, 49, 49), (0, (-2147483648), 2147483647), (0, (-2147483648), 2147483647), (0, (-2147483648), 2147483647)]),
  (1, 0, 6, 0, []),
  (1, 0, 6, 0, []),
  (1, 0, 64, 0, []),
  (1, 0, 5, 0, []),
  (1, 0, 5, 3, []),
  (0, 3, 0, 0, [(2, 51, 51), (0, 0, 6), (2, 57, 57), (2, 58, 58), (2, 59, 59)]),
  (0, 0, 0, 0, [(2, 52, 52), (2, 53, 53), (2, 54, 54), (0, (-2147483648), 2147483647), (2, 55, 55), (0, (-2147483648), 2147483647), (0, (-2147483648), 2147483647), (2, 56, 56), (0, (-2147483648), 2147483647), (0, (-2147483648), 2147483647), (0, (-2147483648), 2147483647)]),
  (1, 0, 6, 0, []),
  (1, 0, 6, 0, []),
  (1, 0, 64, 0, []),
  (1, 0, 5, 0, []),
  (1, 0, 5, 3, []),
  (1, 0, 6, 0, []),
  (1, 0, 6, 0, []),
  (1, 5, 7, 60, []),
  (1, 0, 64, 0, []),
  (1, 0, 64, 0, []),
  (1, 0, 64, 0, []),
  (1, 0, 64, 0, []),
  (1, 0, 64, 0, []),
  (1, 0, 64, 0, []),
  (1, 0, 64, 0, []),
  (0, 7, 0, 0, [(2, 68, 68), (0, 0, 6), (2, 69, 69)]),
  (1, 0, 6, 3, []),
  (1, 0, 6, 0, []),
  (0, 11, 0, 0, [(2, 71, 71), (0, 0, 400), (0, 0, 6), (2, 72, 72), (2, 73, 73), (2, 74, 74), (2, 75, 75), (2, 76, 76), (0, 0, 400), (0, 0, 4000), (0, 0, 99999), (0, 0, 6), (0, 0, 60), (0, (-2147483648), 2147483647), (0, 0, 40), (2, 77, 77), (0, 0, 400), (0, 0, 5), (0, 0, 5), (2, 78, 78), (0, 0, 64), (2, 79, 79), (2, 80, 80), (0, 0, 2147483647), (2, 81, 81), (0, 0, 20), (0, 0, 2147483647), (0, 0, 2147483647), (2, 82, 82), (2, 83, 83), (0, (-2147483648), 2147483647), (2, 84, 84), (0, (-2147483648), 2147483647), (0, (-2147483648), 2147483647), (0, (-2147483648), 2147483647), (1, 0, 2147483647), (2, 85, 85), (2, 86, 86), (2, 87, 87)]),
  (1, 1, 400, 6, []),
  (1, 0, 2400, 0, []),
  (1, 0, 7, 11, []),
  (1, 0, 288, 0, []),
  (1, 0, 6, 12, []),
  (1, 0, 148, 2, []),
  (1, 0, 400, 0, []),
  (1, 3, 64, 0, []),
  (1, 3, 13, 0, []),
  (1, 0, 148, 2, []),
  (1, 0, 2480, 9, []),
  (1, 2, 36, 7, []),
  (1, 0, 6, 0, []),
  (1, 0, 124, 2, []),
  (1, 0, 592, 10, []),
  (1, 0, 4, 13, []),
  (1, 2, 4, 7, [])]
def yty (i : Nat) : yC := if i < 88 then ytab.getD i (9, 0, 0, 0, []) else match (i - 88) % 3 with
  | 0 => (0, 4, 0, 0, [(2, (i : Int) + 1, (i : Int) + 1), (2, (i : Int) + 2, (i : Int) + 2)])
  | 1 => (2, 0, 400, 0, [])
  | _ => (1, 3, 64, 0, [])
/-- all cells hold what they should -/
def yH0 (hp : zHp) : Prop := 88 ≤ hp.1 ∧ hp.1 ≤ 1000 ∧ ∀ i, i < hp.1 → yokc hp.1 (yty i) (hp.2 i)
/-- which places may change: cells from, to; a place, or 1000: all -/
abbrev yM : Type := List (Nat × Nat × Nat)
def yinM (M : yM) (i : Nat) (j : Int) : Bool := M.any (fun m => decide (m.1 ≤ i) && decide (i ≤ m.2.1) && (m.2.2 == 1000 || decide ((m.2.2 : Int) = j)))
/-- nothing else has changed -/
def yF (M : yM) (hp hp' : zHp) : Prop := hp.1 ≤ hp'.1 ∧ (yinM M 999 0 = false → hp'.1 = hp.1) ∧ ∀ (i : Nat) (j : Int), ((j < 0 ∧ i < hp.1) ∨ yinM M i j = false) → yrd hp' i j = yrd hp i j
theorem yF_refl (M : yM) (hp : zHp) : yF M hp hp := ⟨Nat.le_refl _, fun _ => rfl, fun _ _ _ => rfl⟩
theorem yF_trans {M : yM} {a b c : zHp} (h1 : yF M a b) (h2 : yF M b c) : yF M a c := ⟨Nat.le_trans h1.1 h2.1, fun h => (h2.2.1 h).trans (h1.2.1 h), fun i j h => (h2.2.2 i j (h.imp_left (fun q => ⟨q.1, Nat.lt_of_lt_of_le q.2 h1.1⟩))).trans (h1.2.2 i j h)⟩
def yleM (M N : yM) : Bool := M.all (fun m => N.any (fun n => decide (n.1 ≤ m.1) && decide (m.2.1 ≤ n.2.1) && (n.2.2 == 1000 || n.2.2 == m.2.2)))
theorem yleM_ok {M N : yM} (h : yleM M N = true) {i : Nat} {j : Int} (hn : yinM N i j = false) : yinM M i j = false := by
  cases hm : yinM M i j with
  | false => rfl
  | true =>
    exfalso
    unfold yinM at hm
    rw [List.any_eq_true] at hm
    obtain ⟨m, h1, h2⟩ := hm
    have h3 := List.all_eq_true.mp h m h1
    rw [List.any_eq_true] at h3
    obtain ⟨n, h4, h5⟩ := h3
    have : yinM N i j = true := by
      unfold yinM
      rw [List.any_eq_true]
      refine ⟨n, h4, ?_⟩
      simp only [Bool.and_eq_true, Bool.or_eq_true, decide_eq_true_eq, beq_iff_eq] at h2 h5 ⊢
      obtain ⟨⟨a1, a2⟩, a3⟩ := h2
      obtain ⟨⟨b1, b2⟩, b3⟩ := h5
      refine ⟨⟨by omega, by omega⟩, ?_⟩
      rcases b3 with b3 | b3
      · exact Or.inl b3
      · rw [b3]
        exact a3
    rw [this] at hn
    cases hn
theorem yF_le {M N : yM} (h : yleM M N = true) {a b : zHp} (f : yF M a b) : yF N a b := ⟨f.1, fun q => f.2.1 (yleM_ok h q), fun i j q => f.2.2 i j (q.imp_right (yleM_ok h))⟩
/-- values that places hold -/
def yeq (a b : yL) : Bool := a.1 == b.1 && a.2.1 == b.2.1 && a.2.2 == b.2.2
theorem yeq_ok {a b : yL} (h : yeq a b = true) : a = b := by
  unfold yeq at h
  simp only [Bool.and_eq_true, beq_iff_eq] at h
  exact Prod.ext h.1.1 (Prod.ext h.1.2 h.2)
def ylk : List yK → yL → yL → Option yV
  | [], _, _ => none
  | t :: l, cl, il => if yeq t.1 cl && yeq t.2.1 il then some t.2.2 else ylk l cl il
theorem ylk_mem : ∀ {l : List yK} {cl il : yL} {a : yV}, ylk l cl il = some a → (cl, il, a) ∈ l
  | [], _, _, _, h => by cases h
  | t :: l, cl, il, a, h => by
    unfold ylk at h
    split at h
    · next e =>
      rw [Bool.and_eq_true] at e
      cases h
      have e1 := yeq_ok e.1
      have e2 := yeq_ok e.2
      obtain ⟨t1, t2, t3⟩ := t
      cases e1
      cases e2
      exact List.mem_cons_self
    · exact List.mem_cons_of_mem _ (ylk_mem h)
/-- never the same place -/
def yap (b : yB) (x y : yL) : Bool := match yrg b x, yrg b y with
  | some p, some q => decide (p.2 < q.1) || decide (q.2 < p.1)
  | _, _ => false
theorem yap_ok {r : Nat → Int} {n : Nat} {b : yB} (g : yGe r n b) {x y : yL} (h : yap b x y = true) : yev r x ≠ yev r y := by
  unfold yap at h
  split at h
  · next p q h1 h2 =>
    have a := yrg_ok g h1
    have c := yrg_ok g h2
    simp only [Bool.or_eq_true, decide_eq_true_eq] at h
    omega
  · cases h
def ykill (b : yB) (cl il : yL) (t : List yK) : List yK := t.filter (fun q => yap b cl q.1 || yap b il q.2.1)
/-- a cell that a value points to: its form, its kind -/
def yceq (a b : yC) : Bool := a.1 == b.1 && (a.2.1 == b.2.1 && (a.2.2.1 == b.2.2.1 && (a.2.2.2.1 == b.2.2.2.1 && (a.2.2.2.2.isEmpty && b.2.2.2.2.isEmpty))))
theorem yceq_ok {a b : yC} (h : yceq a b = true) : a = b := by
  unfold yceq at h
  simp only [Bool.and_eq_true, beq_iff_eq, List.isEmpty_iff] at h
  obtain ⟨h1, h2, h3, h4, h5, h6⟩ := h
  exact Prod.ext h1 (Prod.ext h2 (Prod.ext h3 (Prod.ext h4 (h5.trans h6.symm))))
def yall (c : yC) : Nat → Nat → Bool
  | 0, _ => true
  | n + 1, i => yceq (yty i) c && yall c n (i + 1)
theorem yall_ok {c : yC} : ∀ {n i : Nat}, yall c n i = true → ∀ k, k < n → yty (i + k) = c
  | 0, _, _, k, hk => by omega
  | n + 1, i, h, k, hk => by
    unfold yall at h
    rw [Bool.and_eq_true] at h
    cases k with
    | zero => exact yceq_ok h.1
    | succ k =>
      have := yall_ok h.2 k (by omega)
      rw [show i + (k + 1) = i + 1 + k by omega]
      exact this
def ycel (b : yB) (v : yV) : Option (yL × yC) := match v.1 with
  | 2 => match yrg b v.2.1 with
    | some p => if 0 ≤ p.1 ∧ p.2 < 88 then (if p.1 = p.2 then some (yc p.1, yty p.1.toNat) else if yall (yty p.1.toNat) (p.2 - p.1 + 1).toNat p.1.toNat = true then some (v.2.1, yty p.1.toNat) else none) else none
    | none => none
  | 3 => match yrg b v.2.1 with
    | some p => if 0 ≤ p.1 then some ((3 * v.2.1.1, v.2.1.2.1, 3 * v.2.1.2.2 + 88), (7, 4, 0, 0, [])) else none
    | none => none
  | 5 => some ((3 * v.2.1.1, v.2.1.2.1, 3 * v.2.1.2.2 + 89), (2, 0, 400, 0, []))
  | 6 => some ((3 * v.2.1.1, v.2.1.2.1, 3 * v.2.1.2.2 + 90), (1, 3, 64, 0, []))
  | _ => none
theorem yty_r0 (k : Nat) : yty (88 + 3 * k) = (0, 4, 0, 0, [(2, ((88 + 3 * k : Nat) : Int) + 1, ((88 + 3 * k : Nat) : Int) + 1), (2, ((88 + 3 * k : Nat) : Int) + 2, ((88 + 3 * k : Nat) : Int) + 2)]) := by
  unfold yty
  rw [if_neg (by omega), show (88 + 3 * k - 88) % 3 = 0 by omega]
  rfl
theorem yty_r1 (k : Nat) : yty (89 + 3 * k) = (2, 0, 400, 0, []) := by
  unfold yty
  rw [if_neg (by omega), show (89 + 3 * k - 88) % 3 = 1 by omega]
  rfl
theorem yty_r2 (k : Nat) : yty (90 + 3 * k) = (1, 3, 64, 0, []) := by
  unfold yty
  rw [if_neg (by omega), show (90 + 3 * k - 88) % 3 = 2 by omega]
  rfl
theorem y3w {n : Nat} {l : yL} (w : yw n l) (d : Int) : yw n (3 * l.1, l.2.1, 3 * l.2.2 + d) := w.imp_left (fun h => by show 3 * l.1 = 0; omega)
theorem y3e (r : Nat → Int) (l : yL) (d : Int) : yev r (3 * l.1, l.2.1, 3 * l.2.2 + d) = 3 * yev r l + d := by
  show 3 * l.1 * r l.2.1 + (3 * l.2.2 + d) = 3 * (l.1 * r l.2.1 + l.2.2) + d
  rw [Int.mul_assoc]
  omega
theorem ycel_ok {hp : zHp} {r : Nat → Int} {n : Nat} {b : yB} (g : yGe r n b) (H : yH0 hp) {v : yV} {w : Value} (hw : ywv n v) (hv : yv hp.1 r v w) {q : yL × yC} (h : ycel b v = some q) :
    ∃ i : Nat, w = .ref i ∧ i < hp.1 ∧ (i : Int) = yev r q.1 ∧ yw n q.1 ∧ (q.2.1 ≠ 7 → yokc hp.1 q.2 (hp.2 i)) ∧ (v.1 = 2 → i < 88 ∧ q.2 = yty i) ∧ (v.1 = 3 → ∃ k : Nat, i = 88 + 3 * k ∧ (k : Int) = yev r v.2.1 ∧ i + 2 < hp.1) := by
  obtain ⟨tag, l, l2⟩ := v
  unfold ycel at h
  split at h
  · next e =>
    have e : tag = 2 := e
    subst e
    have hv : (yev r l = -1 ∧ w = .null) ∨ (0 ≤ yev r l ∧ w = .ref (yev r l).toNat) := hv
    split at h
    · next p hp1 =>
      have bb := yrg_ok g hp1
      have bb1 : p.1 ≤ yev r l := bb.1
      have bb2 : yev r l ≤ p.2 := bb.2
      split at h
      · next c =>
        rcases hv with ⟨hv, -⟩ | ⟨hv, rfl⟩
        · omega
        · have hi : (yev r l).toNat < hp.1 := by have := H.1; omega
          split at h
          · next c2 =>
            cases h
            have e2 : (yev r l).toNat = p.1.toNat := by omega
            refine ⟨(yev r l).toNat, rfl, hi, ?_, Or.inl rfl, fun _ => ?_, fun _ => ⟨by omega, by rw [e2]⟩, fun z => by cases z⟩
            · show _ = yev r (yc p.1)
              rw [yev_c]
              omega
            · show yokc hp.1 (yty p.1.toNat) _
              rw [← e2]
              exact H.2.2 _ hi
          · split at h
            · next c3 =>
              cases h
              have e2 : yty (yev r l).toNat = yty p.1.toNat := by
                have := yall_ok c3 ((yev r l).toNat - p.1.toNat) (by omega)
                rw [show p.1.toNat + ((yev r l).toNat - p.1.toNat) = (yev r l).toNat by omega] at this
                exact this
              refine ⟨(yev r l).toNat, rfl, hi, ?_, hw.1, fun _ => ?_, fun _ => ⟨by omega, e2.symm⟩, fun z => by cases z⟩
              · show _ = yev r l
                omega
              · show yokc hp.1 (yty p.1.toNat) _
                rw [← e2]
                exact H.2.2 _ hi
            · cases h
      · cases h
    · cases h
  · next e =>
    have e : tag = 3 := e
    subst e
    have hv : (yev r l = -1 ∧ w = .null) ∨ (0 ≤ yev r l ∧ 88 + 3 * (yev r l).toNat + 2 < hp.1 ∧ w = .ref (88 + 3 * (yev r l).toNat)) := hv
    split at h
    · next p hp1 =>
      have bb := yrg_ok g hp1
      have bb1 : p.1 ≤ yev r l := bb.1
      split at h
      · next c =>
        cases h
        rcases hv with ⟨hv, -⟩ | ⟨hv, hv2, rfl⟩
        · omega
        · refine ⟨_, rfl, by omega, ?_, y3w hw.1 88, fun z => (z rfl).elim, (fun z => by cases z), fun _ => ⟨(yev r l).toNat, rfl, by show _ = yev r l; omega, by omega⟩⟩
          show _ = yev r (3 * l.1, l.2.1, 3 * l.2.2 + 88)
          rw [y3e]
          omega
      · cases h
    · cases h
  · next e =>
    have e : tag = 5 := e
    subst e
    cases h
    obtain ⟨h1, h2, rfl⟩ : 0 ≤ yev r l ∧ 88 + 3 * (yev r l).toNat + 2 < hp.1 ∧ w = .ref (89 + 3 * (yev r l).toNat) := hv
    refine ⟨_, rfl, by omega, ?_, y3w hw.1 89, fun _ => ?_, (fun z => by cases z), fun z => by cases z⟩
    · show _ = yev r (3 * l.1, l.2.1, 3 * l.2.2 + 89)
      rw [y3e]
      omega
    · have := H.2.2 (89 + 3 * (yev r l).toNat) (by omega)
      rw [yty_r1] at this
      exact this
  · next e =>
    have e : tag = 6 := e
    subst e
    cases h
    obtain ⟨h1, h2, rfl⟩ : 0 ≤ yev r l ∧ 88 + 3 * (yev r l).toNat + 2 < hp.1 ∧ w = .ref (90 + 3 * (yev r l).toNat) := hv
    refine ⟨_, rfl, by omega, ?_, y3w hw.1 90, fun _ => ?_, (fun z => by cases z), fun z => by cases z⟩
    · show _ = yev r (3 * l.1, l.2.1, 3 * l.2.2 + 90)
      rw [y3e]
      omega
    · have := H.2.2 (90 + 3 * (yev r l).toNat) (by omega)
      rw [yty_r2] at this
      exact this
  · cases h
