/-! Rows by sets, and rows by codes. -/
def stl (b : Nat) : List Nat → Nat
  | [] => b
  | h :: r => stl (b ||| 2 ^ h) r
/-- where a row ends -/
def rend (a : Nat) : List Nat → Nat
  | [] => a
  | h :: r => rend h r
def rok (s : Nat → Int32) (a b : Nat) (l : List Nat) : Bool := nodp b l && trs s a l
section PSET
variable {s : Nat → Int32} {N a b : Nat}
theorem stl_a : ∀ {l : List Nat} {b x : Nat}, stl b (l ++ [x]) = stl b l ||| 2 ^ x
  | [], _, _ => rfl
  | h :: r, b, x => by
    show stl (b ||| 2 ^ h) (r ++ [x]) = stl (b ||| 2 ^ h) r ||| 2 ^ x
    exact stl_a
theorem rend_a : ∀ {l : List Nat} {a x : Nat}, rend a (l ++ [x]) = x
  | [], _, _ => rfl
  | h :: r, a, x => by
    show rend h (r ++ [x]) = x
    exact rend_a
theorem nodp_a : ∀ {l : List Nat} {b x : Nat}, nodp b (l ++ [x]) = (nodp b l && !(stl b l).testBit x)
  | [], b, x => by
    show (!b.testBit x && true) = (true && !b.testBit x)
    rw [Bool.and_true, Bool.true_and]
  | h :: r, b, x => by
    show (!b.testBit h && nodp (b ||| 2 ^ h) (r ++ [x])) = ((!b.testBit h && nodp (b ||| 2 ^ h) r) && !(stl (b ||| 2 ^ h) r).testBit x)
    rw [nodp_a, Bool.and_assoc]
theorem trs_a : ∀ {l : List Nat} {a x : Nat}, trs s a (l ++ [x]) = (trs s a l && ptr s (rend a l) x)
  | [], a, x => by
    show (ptr s a x && true) = (true && ptr s a x)
    rw [Bool.and_true, Bool.true_and]
  | h :: r, a, x => by
    show (ptr s a h && trs s h (r ++ [x])) = ((ptr s a h && trs s h r) && ptr s (rend h r) x)
    rw [trs_a, Bool.and_assoc]
theorem snoc_ex : ∀ {l : List Nat}, l ≠ [] → ∃ l0 x, l = l0 ++ [x]
  | [], h => absurd rfl h
  | [x], _ => ⟨[], x, rfl⟩
  | x :: y :: r, _ => by
    obtain ⟨l0, z, e⟩ := snoc_ex (l := y :: r) (by intro z; cases z)
    exact ⟨x :: l0, z, by rw [e]; rfl⟩
theorem rwy_l : ∀ {n S h : Nat}, rwy s N a b n S h ↔ ∃ l : List Nat, l.length = n ∧ (∀ x ∈ l, x < N) ∧ rok s a b l = true ∧ S = stl b l ∧ h = rend a l
  | 0, S, h => by
    constructor
    · rintro ⟨h1, h2⟩
      exact ⟨[], rfl, (fun x hx => by cases hx), rfl, h1, h2⟩
    · rintro ⟨l, e, -, -, h1, h2⟩
      have : l = [] := List.length_eq_zero_iff.mp e
      subst this
      exact ⟨h1, h2⟩
  | n + 1, S, h => by
    constructor
    · rintro ⟨S0, e0, k1, k2, k3, k4, k5⟩
      obtain ⟨l, i1, i2, i3, i4, i5⟩ := rwy_l.mp k1
      unfold rok at i3
      rw [Bool.and_eq_true] at i3
      refine ⟨l ++ [h], by rw [List.length_append, i1]; rfl, fun x hx => ?_, ?_, by rw [stl_a, ← i4]; exact k5, by rw [rend_a]⟩
      · rcases List.mem_append.mp hx with z | z
        · exact i2 x z
        · rw [List.mem_singleton] at z
          rw [z]
          exact k2
      · unfold rok
        rw [nodp_a, trs_a, i3.1, i3.2, ← i4, ← i5, k3, k4]
        rfl
    · rintro ⟨l, i1, i2, i3, i4, i5⟩
      obtain ⟨l0, x, e⟩ := snoc_ex (l := l) (by intro z; rw [z] at i1; cases i1)
      subst e
      unfold rok at i3
      rw [Bool.and_eq_true, nodp_a, trs_a, Bool.and_eq_true, Bool.and_eq_true] at i3
      rw [rend_a] at i5
      rw [stl_a] at i4
      subst i5
      rw [List.length_append] at i1
      refine ⟨stl b l0, rend a l0, rwy_l.mpr ⟨l0, by simpa using i1, fun y hy => i2 y (List.mem_append_left _ hy), ?_, rfl, rfl⟩, i2 _ (List.mem_append_right _ (List.mem_singleton.mpr rfl)), i3.2.2, by simpa using i3.1.2, i4⟩
      unfold rok
      rw [i3.1.1, i3.2.1]
      rfl
theorem mem_rws : ∀ {n : Nat} {l : List Nat}, l.length = n → (∀ x ∈ l, x < N) → l ∈ rws N n
  | 0, l, h, _ => by
    have : l = [] := List.length_eq_zero_iff.mp h
    subst this
    exact List.mem_singleton.mpr rfl
  | n + 1, [], h, _ => by cases h
  | n + 1, x :: r, h, hx => by
    show x :: r ∈ (List.range N).flatMap (fun h => (rws N n).map (fun r => h :: r))
    exact List.mem_flatMap.mpr ⟨x, List.mem_range.mpr (hx x (List.mem_cons_self ..)), List.mem_map.mpr ⟨r, mem_rws (by simpa using h) (fun y hy => hx y (List.mem_cons_of_mem _ hy)), rfl⟩⟩
/-- each row has its code -/
theorem dg_ex {n : Nat} {l : List Nat} (h : l.length = n) (hx : ∀ x ∈ l, x < N) : ∃ c, c < N ^ n ∧ dg N n c = l := by
  have z := mem_rws h hx
  rw [← rws_c] at z
  obtain ⟨c, h1, h2⟩ := List.mem_map.mp z
  exact ⟨c, List.mem_range.mp h1, h2⟩
theorem dg_lt {n c : Nat} (N1 : 1 ≤ N) : ∀ x ∈ dg N n c, x < N := fun x hx => by
  obtain ⟨k, -, e⟩ := List.mem_map.mp hx
  rw [← e]
  exact dgt_lt N1
theorem rend_g : ∀ {l : List Nat} {a : Nat}, l ≠ [] → rend a l = l.getD (l.length - 1) 0
  | [], _, h => absurd rfl h
  | [x], _, _ => rfl
  | x :: y :: r, a, _ => by
    show rend x (y :: r) = (y :: r).getD ((y :: r).length - 1) 0
    exact rend_g (by intro z; cases z)
theorem nodp_c : ∀ {l : List Nat} {b c : Nat}, nodp (b ||| c) l = (nodp b l && l.all (fun x => !c.testBit x))
  | [], _, _ => rfl
  | h :: r, b, c => by
    have e : b ||| c ||| 2 ^ h = (b ||| 2 ^ h) ||| c := by rw [Nat.or_assoc, Nat.or_comm c, Nat.or_assoc]
    show (!(b ||| c).testBit h && nodp (b ||| c ||| 2 ^ h) r) = ((!b.testBit h && nodp (b ||| 2 ^ h) r) && (!c.testBit h && r.all (fun x => !c.testBit x)))
    rw [e, nodp_c, Nat.testBit_or]
    cases b.testBit h <;> cases c.testBit h <;> cases nodp (b ||| 2 ^ h) r <;> rfl
theorem all_ao {a o : Nat} : ∀ {l : List Nat}, l.all (fun x => !(2 ^ a ||| 2 ^ o).testBit x) = (!(l.any (· == o)) && !(l.any (· == a)))
  | [] => rfl
  | x :: r => by
    rw [List.all_cons, List.any_cons, List.any_cons, all_ao, Nat.testBit_or, Nat.testBit_two_pow, Nat.testBit_two_pow]
    have e1 : (x == o) = decide (o = x) := by
      by_cases z : o = x
      · rw [decide_eq_true z, z, beq_self_eq_true]
      · rw [decide_eq_false z, beq_eq_false_iff_ne]
        exact fun y => z y.symm
    have e2 : (x == a) = decide (a = x) := by
      by_cases z : a = x
      · rw [decide_eq_true z, z, beq_self_eq_true]
      · rw [decide_eq_false z, beq_eq_false_iff_ne]
        exact fun y => z y.symm
    rw [e1, e2]
    cases decide (a = x) <;> cases decide (o = x) <;> cases r.any (· == o) <;> cases r.any (· == a) <;> rfl
/-- a code is a chain as its row is -/
theorem chk_R {t h n c o : Nat} (ea : (s (10 + 6 * t + 3)).toInt.toNat = a) (eo : (s (10 + 6 * t)).toInt.toNat = o) (n1 : 1 ≤ n) : chk s t h N n c = (rend a (dg N n c) == h && rok s a (2 ^ a ||| 2 ^ o) (dg N n c)) := by
  have e0 : rend a (dg N n c) = dgt N n c (n - 1) := by
    rw [rend_g (by intro z; have := dg_len (N := N) (n := n) (c := c); rw [z] at this; simp at this; omega), dg_len, dg_getD (by omega)]
  have e1 : nodp (2 ^ a ||| 2 ^ o) (dg N n c) = (nodp 0 (dg N n c) && (!((dg N n c).any (· == o)) && !((dg N n c).any (· == a)))) := by
    have z := nodp_c (l := dg N n c) (b := 0) (c := 2 ^ a ||| 2 ^ o)
    rw [Nat.zero_or] at z
    rw [z, all_ao]
  unfold chk rok
  rw [ea, eo, e0, e1]
  cases dgt N n c (n - 1) == h <;> cases nodp 0 (dg N n c) <;> cases (dg N n c).any (· == o) <;> cases (dg N n c).any (· == a) <;> cases trs s a (dg N n c) <;> rfl
/-- a chain of that length -/
theorem chk_ex {t h n o : Nat} (N1 : 1 ≤ N) (ea : (s (10 + 6 * t + 3)).toInt.toNat = a) (eo : (s (10 + 6 * t)).toInt.toNat = o) (n1 : 1 ≤ n) : (∃ c, c < N ^ n ∧ chk s t h N n c = true) ↔ ∃ S, rwy s N a (2 ^ a ||| 2 ^ o) n S h := by
  constructor
  · rintro ⟨c, h1, h2⟩
    rw [chk_R ea eo n1, Bool.and_eq_true, beq_iff_eq] at h2
    exact ⟨_, rwy_l.mpr ⟨dg N n c, dg_len, dg_lt N1, h2.2, rfl, h2.1.symm⟩⟩
  · rintro ⟨S, hS⟩
    obtain ⟨l, i1, i2, i3, -, i5⟩ := rwy_l.mp hS
    obtain ⟨c, c1, c2⟩ := dg_ex i1 i2
    refine ⟨c, c1, ?_⟩
    rw [chk_R ea eo n1, c2, Bool.and_eq_true, beq_iff_eq]
    exact ⟨i5.symm, i3⟩
theorem fnd_none {t h n : Nat} (y : (List.range (N ^ n)).find? (chk s t h N n) = none) : ¬ ∃ c, c < N ^ n ∧ chk s t h N n c = true := by
  rintro ⟨c, h1, h2⟩
  have z := List.find?_eq_none.mp y c (List.mem_range.mpr h1)
  exact z h2
theorem fnd_some {t h n c : Nat} (y : (List.range (N ^ n)).find? (chk s t h N n) = some c) : c < N ^ n ∧ chk s t h N n c = true := ⟨List.mem_range.mp (List.mem_of_find?_eq_some y), List.find?_some y⟩
theorem cho_lo {t h : Nat} : ∀ {r k : Nat}, k + r = N → 1 ≤ k → (∀ q, cho s t h N false k r = some q → (k ≤ q.1 ∧ q.1 < N) ∧ (∃ c, c < N ^ q.1 ∧ chk s t h N q.1 c = true) ∧ ∀ j, k ≤ j → j < q.1 → ¬ ∃ c, c < N ^ j ∧ chk s t h N j c = true) ∧ (cho s t h N false k r = none → ∀ j, k ≤ j → j < N → ¬ ∃ c, c < N ^ j ∧ chk s t h N j c = true)
  | 0, k, e, k1 => ⟨(fun q z => by cases z), fun _ j h1 h2 => by omega⟩
  | r + 1, k, e, k1 => by
    have u : cho s t h N false k (r + 1) = match (List.range (N ^ k)).find? (chk s t h N k) with
      | some c => some (k, c)
      | none => cho s t h N false (k + 1) r := rfl
    rw [u]
    cases y : (List.range (N ^ k)).find? (chk s t h N k) with
    | some c =>
      refine ⟨fun q z => ?_, fun z => by cases z⟩
      cases z
      exact ⟨⟨Nat.le_refl _, by omega⟩, ⟨c, fnd_some y⟩, fun j h1 h2 => by omega⟩
    | none =>
      obtain ⟨i1, i2⟩ := cho_lo (t := t) (h := h) (r := r) (k := k + 1) (by omega) (by omega)
      refine ⟨fun q z => ?_, fun z j h1 h2 => ?_⟩
      · obtain ⟨a1, a2, a3⟩ := i1 q z
        refine ⟨⟨by omega, a1.2⟩, a2, fun j h1 h2 => ?_⟩
        by_cases w : j = k
        · subst w
          exact fnd_none y
        · exact a3 j (by omega) h2
      · by_cases w : j = k
        · subst w
          exact fnd_none y
        · exact i2 z j (by omega) h2
theorem cho_hi {t h : Nat} : ∀ {r k : Nat}, k + r = N → 1 ≤ k → (∀ q, cho s t h N true k r = some q → (1 ≤ q.1 ∧ q.1 ≤ N - k) ∧ (∃ c, c < N ^ q.1 ∧ chk s t h N q.1 c = true) ∧ ∀ j, q.1 < j → j ≤ N - k → ¬ ∃ c, c < N ^ j ∧ chk s t h N j c = true) ∧ (cho s t h N true k r = none → ∀ j, 1 ≤ j → j ≤ N - k → ¬ ∃ c, c < N ^ j ∧ chk s t h N j c = true)
  | 0, k, e, k1 => ⟨(fun q z => by cases z), fun _ j h1 h2 => by omega⟩
  | r + 1, k, e, k1 => by
    have u : cho s t h N true k (r + 1) = match (List.range (N ^ (N - k))).find? (chk s t h N (N - k)) with
      | some c => some (N - k, c)
      | none => cho s t h N true (k + 1) r := rfl
    rw [u]
    cases y : (List.range (N ^ (N - k))).find? (chk s t h N (N - k)) with
    | some c =>
      refine ⟨fun q z => ?_, fun z => by cases z⟩
      cases z
      exact ⟨⟨by omega, Nat.le_refl _⟩, ⟨c, fnd_some y⟩, fun j h1 h2 => by omega⟩
    | none =>
      obtain ⟨i1, i2⟩ := cho_hi (t := t) (h := h) (r := r) (k := k + 1) (by omega) (by omega)
      refine ⟨fun q z => ?_, fun z j h1 h2 => ?_⟩
      · obtain ⟨a1, a2, a3⟩ := i1 q z
        refine ⟨⟨a1.1, by omega⟩, a2, fun j h1 h2 => ?_⟩
        by_cases w : j = N - k
        · subst w
          exact fnd_none y
        · exact a3 j h1 (by omega)
      · by_cases w : j = N - k
        · subst w
          exact fnd_none y
        · exact i2 z j h1 (by omega)
theorem tb_sub {S b x : Nat} (h : S &&& b = b) (hx : b.testBit x = true) : S.testBit x = true := by
  rw [← h, Nat.testBit_and, Bool.and_eq_true] at hx
  exact hx.1
/-- rows back to the holder, or to the owner -/
theorem rwy_ao {o n S h : Nat} (ha : a < N) (ho : o < N) (hN : N ≤ 6) (z : rwy s N a (2 ^ a ||| 2 ^ o) n S h) : (h = a → n = 0) ∧ (h = o → n = 0 ∧ a = o) ∧ n < N := by
  have bN : 2 ^ a ||| 2 ^ o < 2 ^ N := Nat.or_lt_two_pow (Nat.pow_lt_pow_right (by decide) ha) (Nat.pow_lt_pow_right (by decide) ho)
  have tb : ∀ x, x = a ∨ x = o → (2 ^ a ||| 2 ^ o).testBit x = true := fun x hx => by
    rw [Nat.testBit_or, Nat.testBit_two_pow, Nat.testBit_two_pow, Bool.or_eq_true, decide_eq_true_eq, decide_eq_true_eq]
    rcases hx with e | e
    · exact Or.inl e.symm
    · exact Or.inr e.symm
  have f := rwy_f ha hN bN z
  have b0 : 2 ^ a ||| 2 ^ o ≠ 0 := fun e => by
    have y := tb a (Or.inl rfl)
    rw [e, Nat.zero_testBit] at y
    cases y
  have fl := dpn hN f.2.1 f.2.2.1 b0
  have key : ∀ x, x = a ∨ x = o → h = x → n = 0 := fun x hx e => by
    cases n with
    | zero => rfl
    | succ n =>
      obtain ⟨S0, e0, k1, k2, k3, k4, k5⟩ := z
      have f0 := rwy_f ha hN bN k1
      have y := tb_sub f0.2.2.1 (tb x hx)
      rw [← e, k4] at y
      cases y
  refine ⟨key a (Or.inl rfl), fun e => ⟨key o (Or.inr rfl) e, ?_⟩, by omega⟩
  have n0 := key o (Or.inr rfl) e
  subst n0
  exact z.2.symm.trans e
/-- what was measured is what the codes say -/
theorem cvl_v {q : (Nat → Nat) × (Nat → Int) × (Nat → Int)} {t h o : Nat} (e0 : (s 0).toInt.toNat = N) (hN : N ≤ 6) (ea : s (10 + 6 * t + 3) = Int32.ofNat a) (eo : s (10 + 6 * t) = Int32.ofNat o) (ha : a < N) (ho : o < N) (hh : h < N) (I : mIv s N a (2 ^ a ||| 2 ^ o) (2 ^ N) q) : q.2.1 h = (cvl s t h true).toInt ∧ q.2.2 h = (cvl s t h false).toInt := by
  have bN : 2 ^ a ||| 2 ^ o < 2 ^ N := Nat.or_lt_two_pow (Nat.pow_lt_pow_right (by decide) ha) (Nat.pow_lt_pow_right (by decide) ho)
  have ea' : (s (10 + 6 * t + 3)).toInt.toNat = a := by rw [ea, nJ (by omega)]; exact Int.toNat_natCast _
  have eo' : (s (10 + 6 * t)).toInt.toNat = o := by rw [eo, nJ (by omega)]; exact Int.toNat_natCast _
  have i1 := (I.2.1 h hh).1
  have i2 := (I.2.1 h hh).2
  have i3 := I.2.2 h hh
  have l1 : (-1 : Int32).toInt = -1 := rfl
  have l0 : (0 : Int32).toInt = 0 := rfl
  have inj : ∀ {x y : Nat}, x < 6 → y < 6 → (Int32.ofNat x = Int32.ofNat y ↔ x = y) := fun {x y} hx hy => xeq (by omega) (by omega)
  unfold cvl
  rw [ea, eo]
  by_cases c1 : a = h
  · rw [if_pos (by rw [c1]), if_pos (by rw [c1]), l0]
    have z0 : rwy s N a (2 ^ a ||| 2 ^ o) 0 (2 ^ a ||| 2 ^ o) h := ⟨rfl, c1.symm⟩
    have all0 : ∀ n X, rwy s N a (2 ^ a ||| 2 ^ o) n X h → n = 0 := fun n X z => (rwy_ao ha ho hN z).1 c1.symm
    constructor
    · have := i1 0 _ z0 bN
      rcases i2 with z | ⟨n, X, z1, z2⟩
      · omega
      · rw [z2, all0 n X z1]
        rfl
    · rcases i3 with ⟨z1, z2⟩ | ⟨n, X, z1, z2, z3⟩
      · exact absurd bN (z2 0 _ z0)
      · rw [z2, all0 n X z1]
        rfl
  · rw [if_neg (fun z => c1 ((inj (by omega) (by omega)).mp z)), if_neg (fun z => c1 ((inj (by omega) (by omega)).mp z))]
    by_cases c2 : o = h
    · rw [if_pos (by rw [c2]), if_pos (by rw [c2]), l1]
      have no : ∀ n X, ¬ rwy s N a (2 ^ a ||| 2 ^ o) n X h := fun n X z => by
        have y := ((rwy_ao ha ho hN z).2.1 c2.symm).2
        omega
      constructor
      · rcases i2 with z | ⟨n, X, z1, z2⟩
        · exact z
        · exact absurd z1 (no n X)
      · rcases i3 with ⟨z1, z2⟩ | ⟨n, X, z1, z2, z3⟩
        · exact z1
        · exact absurd z1 (no n X)
    · rw [if_neg (fun z => c2 ((inj (by omega) (by omega)).mp z)), if_neg (fun z => c2 ((inj (by omega) (by omega)).mp z)), e0]
      have ex : ∀ n, 1 ≤ n → ((∃ c, c < N ^ n ∧ chk s t h N n c = true) ↔ ∃ S, rwy s N a (2 ^ a ||| 2 ^ o) n S h) := fun n n1 => chk_ex (by omega) ea' eo' n1
      have rb : ∀ n S, rwy s N a (2 ^ a ||| 2 ^ o) n S h → 1 ≤ n ∧ n < N ∧ S < 2 ^ N := fun n S z => by
        refine ⟨?_, (rwy_ao ha ho hN z).2.2, (rwy_f ha hN bN z).2.1⟩
        cases n with
        | zero => exact absurd z.2.symm c1
        | succ n => omega
      constructor
      · obtain ⟨u1, u2⟩ := cho_hi (s := s) (N := N) (t := t) (h := h) (r := N - 1) (k := 1) (by omega) (Nat.le_refl _)
        cases y : cho s t h N true 1 (N - 1) with
        | none =>
          show _ = (-1 : Int32).toInt
          rcases i2 with z | ⟨n, X, z1, z2⟩
          · rw [z, l1]
          · have r := rb n X z1
            exact absurd ((ex n r.1).mpr ⟨X, z1⟩) (u2 y n r.1 (by omega))
        | some q' =>
          show _ = (Int32.ofNat q'.1).toInt
          obtain ⟨v1, v2, v3⟩ := u1 q' y
          rw [nJ (by omega)]
          obtain ⟨S, hS⟩ := (ex q'.1 v1.1).mp v2
          have r0 := rb _ _ hS
          have low := i1 _ _ hS r0.2.2
          rcases i2 with z | ⟨n, X, z1, z2⟩
          · omega
          · have r := rb n X z1
            by_cases w : q'.1 < n
            · exact absurd ((ex n r.1).mpr ⟨X, z1⟩) (v3 n w (by omega))
            · omega
      · obtain ⟨u1, u2⟩ := cho_lo (s := s) (N := N) (t := t) (h := h) (r := N - 1) (k := 1) (by omega) (Nat.le_refl _)
        cases y : cho s t h N false 1 (N - 1) with
        | none =>
          show _ = (-1 : Int32).toInt
          rcases i3 with ⟨z1, z2⟩ | ⟨n, X, z1, z2, z3⟩
          · rw [z1, l1]
          · have r := rb n X z1
            exact absurd ((ex n r.1).mpr ⟨X, z1⟩) (u2 y n r.1 r.2.1)
        | some q' =>
          show _ = (Int32.ofNat q'.1).toInt
          obtain ⟨v1, v2, v3⟩ := u1 q' y
          rw [nJ (by omega)]
          obtain ⟨S, hS⟩ := (ex q'.1 v1.1).mp v2
          have r0 := rb _ _ hS
          rcases i3 with ⟨z1, z2⟩ | ⟨n, X, z1, z2, z3⟩
          · exact absurd r0.2.2 (z2 _ _ hS)
          · have r := rb n X z1
            have low := z3 _ _ hS r0.2.2
            by_cases w : n < q'.1
            · exact absurd ((ex n r.1).mpr ⟨X, z1⟩) (v3 n r.1 w)
            · omega
end PSET
