/-! Rings: the first of the shortest, by codes and by going on from house to house. -/
/-- does the one owe the other -/
def pow (s : Nat → Int32) (a d : Nat) : Bool := !(s (82 + 6 * a + d) == 0)
/-- from a on along the row, and back to l -/
def chT (s : Nat → Int32) (l a : Nat) : List Nat → Bool
  | [] => pow s a l
  | h :: r => pow s a h && chT s l h r
/-- as the class goes on -/
def okr (s : Nat → Int32) (l a b : Nat) : List Nat → Bool
  | [] => pow s a l
  | h :: r => (decide (l < h) && (pow s a h && !b.testBit h)) && okr s l h (b ||| 2 ^ h) r
/-- a ring, as a row -/
def rgR (s : Nat → Int32) : List Nat → Bool
  | [] => false
  | l :: t => okr s l l (2 ^ l) t
section PRNG
variable {s : Nat → Int32} {N n c : Nat}
theorem nodp_m : ∀ {t : List Nat} {b : Nat}, nodp b t = true → ∀ h ∈ t, b.testBit h = false
  | [], _, _, h, hh => by cases hh
  | x :: t, b, e, h, hh => by
    unfold nodp at e
    rw [Bool.and_eq_true, Bool.not_eq_true'] at e
    rcases List.mem_cons.mp hh with z | hh
    · rw [z]
      exact e.1
    · have k := nodp_m e.2 h hh
      rw [Nat.testBit_or, Bool.or_eq_false_iff] at k
      exact k.1
theorem okr_i : ∀ {t : List Nat} {l a b : Nat}, okr s l a b t = true ↔ (∀ h ∈ t, l < h) ∧ nodp b t = true ∧ chT s l a t = true
  | [], l, a, b => by
    unfold okr nodp chT
    exact ⟨fun h => ⟨fun x hx => (by cases hx), rfl, h⟩, fun h => h.2.2⟩
  | x :: t, l, a, b => by
    unfold okr nodp chT
    simp only [Bool.and_eq_true, decide_eq_true_eq, okr_i (t := t)]
    constructor
    · rintro ⟨⟨h1, h2, h3⟩, h4, h5, h6⟩
      exact ⟨fun y hy => (List.mem_cons.mp hy).elim (fun z => z ▸ h1) (h4 y), ⟨h3, h5⟩, h2, h6⟩
    · rintro ⟨h1, ⟨h3, h5⟩, h2, h6⟩
      exact ⟨⟨h1 x (List.mem_cons_self ..), h2, h3⟩, fun y hy => h1 y (List.mem_cons_of_mem _ hy), h5, h6⟩
/-- the row's neighbours, by places -/
theorem chT_i : ∀ {t : List Nat} {l a : Nat}, chT s l a t = true ↔ ∀ k, k < t.length + 1 → pow s ((a :: t).getD k 0) (if k + 1 < t.length + 1 then (a :: t).getD (k + 1) 0 else l) = true
  | [], l, a => by
    unfold chT
    constructor
    · intro h k hk
      have : k = 0 := by
        have hk : k < 1 := hk
        omega
      subst this
      exact h
    · intro h
      exact h 0 (Nat.lt_succ_self _)
  | x :: t, l, a => by
    unfold chT
    rw [Bool.and_eq_true, chT_i (t := t)]
    constructor
    · rintro ⟨h1, h2⟩ k hk
      cases k with
      | zero => exact h1
      | succ k =>
        have z := h2 k (by rw [List.length_cons] at hk; omega)
        rw [List.length_cons]
        by_cases q : k + 1 < t.length + 1
        · rw [if_pos q] at z
          rw [if_pos (by omega)]
          exact z
        · rw [if_neg q] at z
          rw [if_neg (by omega)]
          exact z
    · intro h
      refine ⟨h 0 (by rw [List.length_cons]; omega), fun k hk => ?_⟩
      have z := h (k + 1) (by rw [List.length_cons]; omega)
      rw [List.length_cons] at z
      by_cases q : k + 1 < t.length + 1
      · rw [if_pos (by omega)] at z
        rw [if_pos q]
        exact z
      · rw [if_neg (by omega)] at z
        rw [if_neg q]
        exact z
theorem dg_getD {k : Nat} (hk : k < n) : (dg N n c).getD k 0 = dgt N n c k := by
  rw [List.getD_eq_getElem?_getD, List.getElem?_eq_getElem (by rw [dg_len]; exact hk), Option.getD_some, dg_get hk]
/-- a code is a ring as its row is -/
theorem rgc_R (n1 : 1 ≤ n) : rgc s N n c = rgR s (dg N n c) := by
  obtain ⟨n', rfl⟩ : ∃ n', n = n' + 1 := ⟨n - 1, by omega⟩
  have e : dg N (n' + 1) c = dgt N (n' + 1) c 0 :: (dg N (n' + 1) c).drop 1 := by
    have z := dg_drop (N := N) (n := n' + 1) (c := c) (k := 0) (by omega)
    rw [List.drop_zero] at z
    exact z
  have tl : ((dg N (n' + 1) c).drop 1).length = n' := by rw [List.length_drop, dg_len]; omega
  have gd : ∀ k, k < n' + 1 → (dgt N (n' + 1) c 0 :: (dg N (n' + 1) c).drop 1).getD k 0 = dgt N (n' + 1) c k := fun k hk => by rw [← e, dg_getD hk]
  have mem : ∀ h, h ∈ (dg N (n' + 1) c).drop 1 → ∃ k, k < n' + 1 ∧ 0 < k ∧ h = dgt N (n' + 1) c k := fun h hh => by
    obtain ⟨i, hi, rfl⟩ := List.getElem_of_mem hh
    refine ⟨i + 1, by omega, by omega, ?_⟩
    rw [List.getElem_drop, ← dg_get (N := N) (n := n' + 1) (c := c) (k := i + 1) (by omega)]
    congr 1
    omega
  have eR : rgR s (dg N (n' + 1) c) = okr s (dgt N (n' + 1) c 0) (dgt N (n' + 1) c 0) (2 ^ dgt N (n' + 1) c 0) ((dg N (n' + 1) c).drop 1) := (congrArg (rgR s) e).trans rfl
  have eC : rgc s N (n' + 1) c = (nodp 0 (dgt N (n' + 1) c 0 :: (dg N (n' + 1) c).drop 1) && (List.range (n' + 1)).all (rgk s N (n' + 1) c)) := congrArg (fun z => nodp 0 z && (List.range (n' + 1)).all (rgk s N (n' + 1) c)) e
  rw [Bool.eq_iff_iff, eR, eC, okr_i, chT_i, tl, Bool.and_eq_true, List.all_eq_true]
  have z1 : nodp 0 (dgt N (n' + 1) c 0 :: (dg N (n' + 1) c).drop 1) = nodp (2 ^ dgt N (n' + 1) c 0) ((dg N (n' + 1) c).drop 1) := by
    show (!(0 : Nat).testBit _ && nodp (0 ||| 2 ^ _) _) = _
    rw [Nat.zero_testBit, Nat.zero_or]
    rfl
  rw [z1]
  constructor
  · rintro ⟨h1, h2⟩
    refine ⟨fun h hh => ?_, h1, fun k hk => ?_⟩
    · have nb := nodp_m h1 h hh
      obtain ⟨k, k1, k2, rfl⟩ := mem h hh
      have q := h2 k (List.mem_range.mpr k1)
      unfold rgk at q
      rw [Bool.and_eq_true, decide_eq_true_eq] at q
      have ne : dgt N (n' + 1) c k ≠ dgt N (n' + 1) c 0 := fun z => by
        rw [z, Nat.testBit_two_pow_self] at nb
        cases nb
      omega
    · have q := h2 k (List.mem_range.mpr hk)
      unfold rgk at q
      rw [Bool.and_eq_true] at q
      rw [gd k hk]
      unfold pow
      by_cases l : k + 1 < n' + 1
      · rw [if_pos l, gd (k + 1) l]
        rw [Nat.mod_eq_of_lt l] at q
        exact q.2
      · rw [if_neg l]
        rw [show k + 1 = n' + 1 by omega, Nat.mod_self] at q
        exact q.2
  · rintro ⟨h0, h1, h2⟩
    refine ⟨h1, fun k hk => ?_⟩
    have hk := List.mem_range.mp hk
    have q := h2 k hk
    rw [gd k hk] at q
    unfold pow at q
    unfold rgk
    rw [Bool.and_eq_true, decide_eq_true_eq]
    constructor
    · by_cases z : k = 0
      · rw [z]
        exact Nat.le_refl _
      · have hm : dgt N (n' + 1) c k ∈ (dg N (n' + 1) c).drop 1 := by
          rw [← dg_get (N := N) (n := n' + 1) (c := c) hk]
          have : (dg N (n' + 1) c)[k]'(by rw [dg_len]; exact hk) = ((dg N (n' + 1) c).drop 1)[k - 1]'(by omega) := by
            rw [List.getElem_drop]
            congr 1
            omega
          rw [this]
          exact List.getElem_mem _
        exact Nat.le_of_lt (h0 _ hm)
    · by_cases l : k + 1 < n' + 1
      · rw [if_pos l, gd (k + 1) l] at q
        rw [Nat.mod_eq_of_lt l]
        exact q
      · rw [if_neg l] at q
        rw [show k + 1 = n' + 1 by omega, Nat.mod_self]
        exact q
/-- as the class looks: from a on, k houses more -/
def cl (s : Nat → Int32) (N l : Nat) : Nat → Nat → Nat → Option (List Nat)
  | a, _, 0 => if pow s a l = true then some [] else none
  | a, b, k + 1 => (List.range' (l + 1) (N - (l + 1))).findSome? (fun h => if (pow s a h && !b.testBit h) = true then (cl s N l h (b ||| 2 ^ h) k).map (fun r => h :: r) else none)
theorem fs_app {α β : Type} (l1 l2 : List α) (f : α → Option β) (h : ∀ a ∈ l1, f a = none) : (l1 ++ l2).findSome? f = l2.findSome? f := by
  rw [List.findSome?_append, List.findSome?_eq_none_iff.mpr h, Option.none_or]
theorem fs_c {α β : Type} : ∀ (l : List α) (f g : α → Option β), (∀ a ∈ l, f a = g a) → l.findSome? f = l.findSome? g
  | [], _, _, _ => rfl
  | a :: l, f, g, h => by
    rw [List.findSome?_cons, List.findSome?_cons, h a (List.mem_cons_self ..), fs_c l f g (fun x hx => h x (List.mem_cons_of_mem _ hx))]
theorem cl_ff : ∀ (k : Nat) {a b l : Nat}, l < N → cl s N l a b k = ff N k (okr s l a b)
  | 0, a, b, l, _ => by
    unfold cl ff rws
    rw [List.find?_cons]
    show _ = match pow s a l with | true => _ | false => _
    cases pow s a l <;> rfl
  | k + 1, a, b, l, hl => by
    rw [ff_s]
    unfold cl
    have sp : List.range N = List.range (l + 1) ++ List.range' (l + 1) (N - (l + 1)) := by
      rw [List.range_eq_range', List.range_eq_range']
      have z := List.range'_append (s := 0) (m := l + 1) (n := N - (l + 1)) (step := 1)
      rw [Nat.one_mul, Nat.zero_add] at z
      rw [z]
      congr 1
      omega
    rw [sp, fs_app]
    · refine fs_c _ _ _ (fun h hh => ?_)
      have hl2 : l < h := by
        have := (List.mem_range'_1.mp hh).1
        omega
      by_cases q : (pow s a h && !b.testBit h) = true
      · rw [if_pos q, cl_ff k hl]
        have e : okr s l h (b ||| 2 ^ h) = fun r => okr s l a b (h :: r) := by
          funext r
          show _ = ((decide (l < h) && (pow s a h && !b.testBit h)) && okr s l h (b ||| 2 ^ h) r)
          rw [q, decide_eq_true hl2]
          rfl
        rw [e]
      · rw [if_neg q, ff_n, Option.map_none]
        intro r
        show ((decide (l < h) && (pow s a h && !b.testBit h)) && okr s l h (b ||| 2 ^ h) r) = false
        rw [bF q, Bool.and_false, Bool.false_and]
    · intro h hh
      have hl2 : ¬ l < h := by
        have := List.mem_range.mp hh
        omega
      rw [ff_n, Option.map_none]
      intro r
      show ((decide (l < h) && (pow s a h && !b.testBit h)) && okr s l h (b ||| 2 ^ h) r) = false
      rw [decide_eq_false hl2, Bool.false_and, Bool.false_and]
/-- rings of n + 1 houses, by the least -/
theorem cl_rg {k : Nat} : (List.range N).findSome? (fun l => (cl s N l l (2 ^ l) k).map (fun r => l :: r)) = ff N (k + 1) (rgR s) := by
  rw [ff_s]
  refine fs_c _ _ _ (fun l hl => ?_)
  rw [cl_ff k (List.mem_range.mp hl)]
  rfl
theorem ff_rgc {k : Nat} : ff N (k + 1) (rgR s) = ((List.range (N ^ (k + 1))).find? (rgc s N (k + 1))).map (dg N (k + 1)) := by
  rw [ff_code]
  congr 2
  funext c
  exact (rgc_R (by omega)).symm
end PRNG
