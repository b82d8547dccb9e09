/-! Which tool for which work: the most pay, and the first that earns it. -/
/-- what a row of tools earns (0: none, t + 1: tool t), from a work on, past those that are taken -/
def asv (ab : Nat → Nat → Bool) (py : Nat → Int) : Nat → Nat → List Nat → Option Int
  | _, _, [] => some 0
  | w, T, d :: r => if d = 0 then asv ab py (w + 1) T r else if (ab w (d - 1) && !T.testBit (d - 1)) = true then (asv ab py (w + 1) (T ||| 2 ^ (d - 1)) r).map (fun x => py w + x) else none
/-- the class: the most over the tools from t on -/
def bsT (g : Nat → Bool) (v : Nat → Int) : Nat → Nat → Int → Int
  | _, 0, x => x
  | t, n + 1, x => bsT g v (t + 1) n (if g t = true then (if x < v t then v t else x) else x)
def bst (ab : Nat → Nat → Bool) (py : Nat → Int) : Nat → Nat → Nat → Int
  | 0, _, _ => 0
  | k + 1, w, T => bsT (fun t => ab w t && !T.testBit t) (fun t => py w + bst ab py k (w + 1) (T ||| 2 ^ t)) 0 6 (bst ab py k (w + 1) T)
/-- the first row that earns the most -/
def gro (ab : Nat → Nat → Bool) (py : Nat → Int) (n : Nat) : Nat → Nat → Nat → List Nat
  | 0, _, _ => []
  | k + 1, w, T => if bst ab py k (w + 1) T = bst ab py (k + 1) w T then 0 :: gro ab py n k (w + 1) T else match (List.range n).find? (fun t => (ab w t && !T.testBit t) && (py w + bst ab py k (w + 1) (T ||| 2 ^ t) == bst ab py (k + 1) w T)) with
    | some t => (t + 1) :: gro ab py n k (w + 1) (T ||| 2 ^ t)
    | none => []
section PMCH
variable {ab : Nat → Nat → Bool} {py : Nat → Int} {n : Nat}
theorem bsT_m {g : Nat → Bool} {v : Nat → Int} : ∀ {k t : Nat} {x : Int}, x ≤ bsT g v t k x ∧ (∀ u, t ≤ u → u < t + k → g u = true → v u ≤ bsT g v t k x) ∧ (bsT g v t k x = x ∨ ∃ u, t ≤ u ∧ u < t + k ∧ g u = true ∧ bsT g v t k x = v u)
  | 0, t, x => ⟨Int.le_refl _, fun u h1 h2 => by omega, Or.inl rfl⟩
  | k + 1, t, x => by
    obtain ⟨a, b, c⟩ := bsT_m (g := g) (v := v) (k := k) (t := t + 1) (x := if g t = true then (if x < v t then v t else x) else x)
    show x ≤ bsT g v (t + 1) k (if g t = true then (if x < v t then v t else x) else x) ∧ (∀ u, t ≤ u → u < t + (k + 1) → g u = true → v u ≤ bsT g v (t + 1) k (if g t = true then (if x < v t then v t else x) else x)) ∧ (bsT g v (t + 1) k (if g t = true then (if x < v t then v t else x) else x) = x ∨ ∃ u, t ≤ u ∧ u < t + (k + 1) ∧ g u = true ∧ bsT g v (t + 1) k (if g t = true then (if x < v t then v t else x) else x) = v u)
    generalize bsT g v (t + 1) k (if g t = true then (if x < v t then v t else x) else x) = z at *
    by_cases h : g t = true
    · rw [if_pos h] at a c
      by_cases l : x < v t
      · rw [if_pos l] at a c
        refine ⟨by omega, fun u h1 h2 hu => ?_, Or.inr ?_⟩
        · by_cases y : u = t
          · subst y
            exact a
          · exact b u (by omega) (by omega) hu
        · rcases c with c | ⟨u, h1, h2, h3⟩
          · exact ⟨t, Nat.le_refl _, by omega, h, c⟩
          · exact ⟨u, by omega, by omega, h3⟩
      · rw [if_neg l] at a c
        refine ⟨a, fun u h1 h2 hu => ?_, ?_⟩
        · by_cases y : u = t
          · subst y
            omega
          · exact b u (by omega) (by omega) hu
        · rcases c with c | ⟨u, h1, h2, h3⟩
          · exact Or.inl c
          · exact Or.inr ⟨u, by omega, by omega, h3⟩
    · rw [if_neg h] at a c
      refine ⟨a, fun u h1 h2 hu => ?_, ?_⟩
      · by_cases y : u = t
        · subst y
          exact absurd hu h
        · exact b u (by omega) (by omega) hu
      · rcases c with c | ⟨u, h1, h2, h3⟩
        · exact Or.inl c
        · exact Or.inr ⟨u, by omega, by omega, h3⟩
theorem bst_s (k w T : Nat) : bst ab py k (w + 1) T ≤ bst ab py (k + 1) w T ∧ (∀ u, u < 6 → (ab w u && !T.testBit u) = true → py w + bst ab py k (w + 1) (T ||| 2 ^ u) ≤ bst ab py (k + 1) w T) ∧ (bst ab py (k + 1) w T = bst ab py k (w + 1) T ∨ ∃ u, u < 6 ∧ (ab w u && !T.testBit u) = true ∧ bst ab py (k + 1) w T = py w + bst ab py k (w + 1) (T ||| 2 ^ u)) := by
  obtain ⟨a, b, c⟩ := bsT_m (g := fun t => ab w t && !T.testBit t) (v := fun t => py w + bst ab py k (w + 1) (T ||| 2 ^ t)) (k := 6) (t := 0) (x := bst ab py k (w + 1) T)
  refine ⟨a, fun u hu h => b u (Nat.zero_le _) (by omega) h, ?_⟩
  rcases c with c | ⟨u, -, h2, h3, h4⟩
  · exact Or.inl c
  · exact Or.inr ⟨u, by omega, h3, h4⟩
/-- no row earns more -/
theorem asv_le (n6 : n ≤ 6) : ∀ {k w T : Nat} {l : List Nat} {x : Int}, l.length = k → (∀ d ∈ l, d < n + 1) → asv ab py w T l = some x → x ≤ bst ab py k w T
  | 0, w, T, [], x, _, _, h => by
    cases h
    exact Int.le_refl _
  | 0, _, _, _ :: _, _, h, _, _ => by cases h
  | _ + 1, _, _, [], _, h, _, _ => by cases h
  | k + 1, w, T, d :: r, x, hl, hd, h => by
    obtain ⟨a, b, -⟩ := bst_s (ab := ab) (py := py) k w T
    have h : (if d = 0 then asv ab py (w + 1) T r else if (ab w (d - 1) && !T.testBit (d - 1)) = true then (asv ab py (w + 1) (T ||| 2 ^ (d - 1)) r).map (fun x => py w + x) else none) = some x := h
    have hd0 := hd d (List.mem_cons_self ..)
    have hr : ∀ e ∈ r, e < n + 1 := fun e he => hd e (List.mem_cons_of_mem _ he)
    have lr : r.length = k := by simpa using hl
    by_cases z : d = 0
    · rw [if_pos z] at h
      have := asv_le n6 lr hr h
      omega
    · rw [if_neg z] at h
      by_cases g : (ab w (d - 1) && !T.testBit (d - 1)) = true
      · rw [if_pos g] at h
        cases y : asv ab py (w + 1) (T ||| 2 ^ (d - 1)) r with
        | none =>
          rw [y] at h
          cases h
        | some v =>
          rw [y] at h
          have e : py w + v = x := Option.some.inj h
          have := asv_le n6 lr hr y
          have := b (d - 1) (by omega) g
          omega
      · rw [if_neg g] at h
        cases h
theorem fs_if {α : Type} {p : Nat → Bool} {f : Nat → α} : ∀ l : List Nat, l.findSome? (fun t => if p t = true then some (f t) else none) = (l.find? p).map f
  | [] => rfl
  | a :: l => by
    rw [List.findSome?_cons, List.find?_cons]
    cases h : p a with
    | true => rfl
    | false => exact fs_if l
/-- the first row that earns the most -/
theorem gro_ff (n6 : n ≤ 6) (hab : ∀ w t, ab w t = true → t < n) : ∀ {k w T : Nat}, ff (n + 1) k (fun l => asv ab py w T l == some (bst ab py k w T)) = some (gro ab py n k w T)
  | 0, w, T => by
    unfold ff rws
    rw [List.find?_cons]
    have : (asv ab py w T [] == some (bst ab py 0 w T)) = true := by
      show (some (0 : Int) == some 0) = true
      rfl
    rw [this]
    rfl
  | k + 1, w, T => by
    obtain ⟨a, b, c⟩ := bst_s (ab := ab) (py := py) k w T
    rw [ff_s, List.range_succ_eq_map, List.findSome?_cons]
    generalize hB : bst ab py (k + 1) w T = B at *
    have e0 : ∀ r, asv ab py w T (0 :: r) = asv ab py (w + 1) T r := fun r => if_pos rfl
    unfold gro
    rw [hB]
    by_cases z : bst ab py k (w + 1) T = B
    · have y := gro_ff n6 hab (k := k) (w := w + 1) (T := T)
      rw [z] at y
      simp only [e0]
      rw [y, if_pos z]
      rfl
    · have y : ff (n + 1) k (fun r => asv ab py w T (0 :: r) == some B) = none := by
        rw [ff_c (Q := fun _ => false) (fun r h1 h2 => by
          rw [e0, beq_eq_false_iff_ne]
          intro q
          have := asv_le n6 h1 h2 q
          omega)]
        exact ff_n (fun _ => rfl)
      rw [y, if_neg z]
      show List.findSome? _ _ = _
      rw [List.findSome?_map]
      have e1 : ∀ t ∈ List.range n, ((fun h => (ff (n + 1) k (fun r => asv ab py w T (h :: r) == some B)).map (fun r => h :: r)) ∘ Nat.succ) t = if ((ab w t && !T.testBit t) && (py w + bst ab py k (w + 1) (T ||| 2 ^ t) == B)) = true then some ((t + 1) :: gro ab py n k (w + 1) (T ||| 2 ^ t)) else none := fun t ht => by
        have tn := List.mem_range.mp ht
        show (ff (n + 1) k (fun r => asv ab py w T ((t + 1) :: r) == some B)).map (fun r => (t + 1) :: r) = _
        have et : ∀ r, asv ab py w T ((t + 1) :: r) = if (ab w t && !T.testBit t) = true then (asv ab py (w + 1) (T ||| 2 ^ t) r).map (fun x => py w + x) else none := fun r => if_neg (Nat.succ_ne_zero t)
        by_cases g : (ab w t && !T.testBit t) = true
        · have le := b t (by omega) g
          by_cases q : py w + bst ab py k (w + 1) (T ||| 2 ^ t) = B
          · rw [g, Bool.true_and, beq_iff_eq.mpr q, if_pos rfl]
            have y := gro_ff n6 hab (k := k) (w := w + 1) (T := T ||| 2 ^ t)
            rw [ff_c (Q := fun l => asv ab py (w + 1) (T ||| 2 ^ t) l == some (bst ab py k (w + 1) (T ||| 2 ^ t))) (fun r _ _ => by
              rw [et, if_pos g]
              cases v : asv ab py (w + 1) (T ||| 2 ^ t) r with
              | none => rfl
              | some x =>
                show (some (py w + x) == some B) = (some x == some (bst ab py k (w + 1) (T ||| 2 ^ t)))
                by_cases u : x = bst ab py k (w + 1) (T ||| 2 ^ t)
                · rw [u, q, beq_self_eq_true, beq_self_eq_true]
                · rw [beq_eq_false_iff_ne.mpr (fun o => by have o := Option.some.inj o; omega), beq_eq_false_iff_ne.mpr (fun o => u (Option.some.inj o))]), y]
            rfl
          · rw [g, Bool.true_and, beq_eq_false_iff_ne.mpr q, if_neg (by decide)]
            have y : ff (n + 1) k (fun r => asv ab py w T ((t + 1) :: r) == some B) = none := by
              rw [ff_c (Q := fun _ => false) (fun r h1 h2 => by
                rw [et, if_pos g, beq_eq_false_iff_ne]
                intro o
                cases v : asv ab py (w + 1) (T ||| 2 ^ t) r with
                | none =>
                  rw [v] at o
                  cases o
                | some x =>
                  rw [v] at o
                  have o : py w + x = B := Option.some.inj o
                  have := asv_le n6 h1 h2 v
                  omega)]
              exact ff_n (fun _ => rfl)
            rw [y]
            rfl
        · rw [show (ab w t && !T.testBit t) = false by simpa using g, Bool.false_and, if_neg (by decide)]
          have y : ff (n + 1) k (fun r => asv ab py w T ((t + 1) :: r) == some B) = none := by
            rw [ff_c (Q := fun _ => false) (fun r _ _ => by rw [et, if_neg g]; rfl)]
            exact ff_n (fun _ => rfl)
          rw [y]
          rfl
      rw [fs_c _ _ _ e1, fs_if]
      cases v : (List.range n).find? (fun t => (ab w t && !T.testBit t) && (py w + bst ab py k (w + 1) (T ||| 2 ^ t) == B)) with
      | some t => rfl
      | none =>
        rcases c with c | ⟨u, u6, g, e⟩
        · exact absurd c.symm z
        · have un : u < n := by
            rw [Bool.and_eq_true] at g
            exact hab w u g.1
          have q := List.find?_eq_none.mp v u (List.mem_range.mpr un)
          rw [g, Bool.true_and, beq_iff_eq] at q
          exact absurd e.symm q
end PMCH
