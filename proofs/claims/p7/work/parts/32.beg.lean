/-! The heap behind the two constructors, closed; the law from its entry on. -/
def zpre : Option (zFr × zHp) := zstN (zcall zts zms 1000 20) 4 ret zcL 10 (0, [(0, .ref zSC)], []) zh0
def hpC : zHp := match zpre with
  | some x => x.2
  | none => zh0
theorem zpre_fr : zpre.map (fun x => x.1) = some (18, [(3, .int 0), (2, .ref 70), (1, .ref 0), (0, .ref 1000)], []) := by decide +kernel
theorem zpre_eq : zpre = some ((18, [(3, .int 0), (2, .ref 70), (1, .ref 0), (0, .ref 1000)], []), hpC) := by
  have h := zpre_fr
  unfold hpC
  cases hz : zpre with
  | none => rw [hz] at h; cases h
  | some x =>
    rw [hz] at h
    have h2 : x.1 = (18, [(3, .int 0), (2, .ref 70), (1, .ref 0), (0, .ref 1000)], []) := Option.some.inj h
    show some x = some (_, x.2)
    rw [← h2]
theorem hpC_n : hpC.1 = 88 := by decide +kernel
/-- a cell at the start is as its kind says -/
def ychf (t : Nat × Int × Int) (v : Value) : Bool := match t.1, v with
  | 0, .int x => decide (t.2.1 ≤ x.toInt) && decide (x.toInt ≤ t.2.2)
  | 1, .long x => decide (t.2.1 ≤ x.toInt) && decide (x.toInt ≤ t.2.2)
  | 2, .ref i => decide (t.2.1 ≤ ((i : Nat) : Int)) && decide (((i : Nat) : Int) ≤ t.2.2)
  | _, _ => false
def ychfs : List (Nat × Int × Int) → List Value → Bool
  | [], [] => true
  | t :: l, v :: m => ychf t v && ychfs l m
  | _, _ => false
def ychc (c : yC) (x : zCl) : Bool := match c.1, x with
  | 0, .inr q => q.1 == c.2.1 && ychfs c.2.2.2.2 q.2
  | 1, .inl (t, n, .inl f) => decide (c.2.1 < 3) && (t == c.2.1 && (n == c.2.2.1 && (List.range n).all (fun j => decide ((yel c.2.2.2.1 j).1 ≤ (f j).toInt) && decide ((f j).toInt ≤ (yel c.2.2.2.1 j).2))))
  | 1, .inl (t, n, .inr (.inl _)) => c.2.1 == 3 && (t == 3 && n == c.2.2.1)
  | 1, .inl (t, n, .inr (.inr (.inr (.inr f)))) => (c.2.1 == 4 && (t == 4 && (n == c.2.2.1 && (List.range n).all (fun j => (f j).isNone)))) || (c.2.1 == 5 && (t == 5 && (n == c.2.2.1 && (List.range n).all (fun j => f j == some (c.2.2.2.1 + j)))))
  | _, _ => false
theorem ychf_ok {t : Nat × Int × Int} {v : Value} (h : ychf t v = true) : yft t v := by
  obtain ⟨k, lo, hi⟩ := t
  unfold ychf at h
  split at h
  · next x e =>
    have e : k = 0 := e
    subst e
    simp only [Bool.and_eq_true, decide_eq_true_eq] at h
    exact ⟨x, rfl, h.1, h.2⟩
  · next x e =>
    have e : k = 1 := e
    subst e
    simp only [Bool.and_eq_true, decide_eq_true_eq] at h
    exact ⟨x, rfl, h.1, h.2⟩
  · next i e =>
    have e : k = 2 := e
    subst e
    simp only [Bool.and_eq_true, decide_eq_true_eq] at h
    exact ⟨i, rfl, h.1, h.2⟩
  · cases h
theorem ychfs_ok : ∀ {l : List (Nat × Int × Int)} {m : List Value}, ychfs l m = true → m.length = l.length ∧ ∀ (j : Nat) (t : Nat × Int × Int), l[j]? = some t → ∃ v, m[j]? = some v ∧ yft t v
  | [], [], _ => ⟨rfl, fun j t h => by cases j <;> cases h⟩
  | [], _ :: _, h => by cases h
  | _ :: _, [], h => by cases h
  | t :: l, v :: m, h => by
    unfold ychfs at h
    rw [Bool.and_eq_true] at h
    have ih := ychfs_ok h.2
    refine ⟨congrArg (· + 1) ih.1, fun j t2 ht => ?_⟩
    cases j with
    | zero => cases ht; exact ⟨v, rfl, ychf_ok h.1⟩
    | succ j => exact ih.2 j t2 (by simpa using ht)
theorem ychc_ok {h : Nat} {c : yC} {x : zCl} (k : ychc c x = true) : yokc h c x := by
  obtain ⟨c1, c2, c3, c4, c5⟩ := c
  unfold ychc at k
  split at k
  · next q e =>
    have e : c1 = 0 := e
    subst e
    simp only [Bool.and_eq_true, beq_iff_eq] at k
    obtain ⟨q1, q2⟩ := q
    have k1 : q1 = c2 := k.1
    subst k1
    have := ychfs_ok k.2
    exact ⟨q2, rfl, this.1, this.2⟩
  · next t n f e =>
    have e : c1 = 1 := e
    subst e
    simp only [Bool.and_eq_true, beq_iff_eq, decide_eq_true_eq] at k
    obtain ⟨k1, k2, k3, k4⟩ := k
    have k2 : t = c2 := k2
    have k3 : n = c3 := k3
    subst k2
    subst k3
    have el : ∀ j, j < n → (yel c4 j).1 ≤ (f j).toInt ∧ (f j).toInt ≤ (yel c4 j).2 := fun j hj => by
      have := List.all_eq_true.mp k4 j (List.mem_range.mpr hj)
      simpa using this
    have t3 : t = 0 ∨ t = 1 ∨ t = 2 := by have : t < 3 := k1; omega
    rcases t3 with rfl | rfl | rfl
    · exact ⟨(show (0 : Nat) < 3 by decide), f, rfl, el⟩
    · exact ⟨(show (1 : Nat) < 3 by decide), f, rfl, el⟩
    · exact ⟨(show (2 : Nat) < 3 by decide), f, rfl, el⟩
  · next t n f e =>
    have e : c1 = 1 := e
    subst e
    simp only [Bool.and_eq_true, beq_iff_eq] at k
    obtain ⟨k1, k2, k3⟩ := k
    have k1 : c2 = 3 := k1
    have k3 : n = c3 := k3
    subst k1
    subst k2
    subst k3
    exact ⟨f, rfl⟩
  · next t n f e =>
    have e : c1 = 1 := e
    subst e
    simp only [Bool.or_eq_true, Bool.and_eq_true, beq_iff_eq] at k
    rcases k with ⟨k1, k2, k3, k4⟩ | ⟨k1, k2, k3, k4⟩
    · have k1 : c2 = 4 := k1
      have k3 : n = c3 := k3
      subst k1
      subst k2
      subst k3
      refine ⟨f, rfl, fun j hj => Or.inl ?_⟩
      have := List.all_eq_true.mp k4 j (List.mem_range.mpr hj)
      simpa using this
    · have k1 : c2 = 5 := k1
      have k3 : n = c3 := k3
      subst k1
      subst k2
      subst k3
      refine ⟨f, rfl, fun j hj => ?_⟩
      have := List.all_eq_true.mp k4 j (List.mem_range.mpr hj)
      simpa using this
  · cases k
theorem hpC_c : (List.range 88).all (fun i => ychc (yty i) (hpC.2 i)) = true := by decide +kernel
theorem hpC_H : yH0 hpC := by
  refine ⟨by rw [hpC_n]; decide, by rw [hpC_n]; decide, fun i hi => ?_⟩
  rw [hpC_n] at hi
  exact ychc_ok (List.all_eq_true.mp hpC_c i (List.mem_range.mpr hi))
