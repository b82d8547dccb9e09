/-! Rows of houses by sets, as the class measures them: the pure side. -/
/-- a row from a on, past b, of so many houses: the set it has gone through, its end -/
def rwy (s : Nat → Int32) (N a b : Nat) : Nat → Nat → Nat → Prop
  | 0, S, e => S = b ∧ e = a
  | n + 1, S, e => ∃ S0 e0, rwy s N a b n S0 e0 ∧ e < N ∧ ptr s e0 e = true ∧ S0.testBit e = false ∧ S = S0 ||| 2 ^ e
/-- how many bits -/
def pc6 (x : Nat) : Nat := x % 2 + (x / 2 % 2 + (x / 4 % 2 + (x / 8 % 2 + (x / 16 % 2 + x / 32 % 2))))
theorem dpf {S b h : Nat} (hS : S < 64) (hb : b < 64) (hh : h < 6) (s : S &&& b = b) (t : S.testBit h = false) : pc6 ((S ||| 2 ^ h) ^^^ b) = pc6 (S ^^^ b) + 1 ∧ (S ||| 2 ^ h) &&& b = b ∧ S < S ||| 2 ^ h := by
  have key : (List.range 64).all (fun S => (List.range 64).all (fun b => !(S &&& b == b) || (List.range 6).all (fun h => S.testBit h || (pc6 ((S ||| 2 ^ h) ^^^ b) == pc6 (S ^^^ b) + 1 && ((S ||| 2 ^ h) &&& b == b && decide (S < S ||| 2 ^ h)))))) = true := by decide +kernel
  have k := List.all_eq_true.mp (List.all_eq_true.mp key S (List.mem_range.mpr hS)) b (List.mem_range.mpr hb)
  rw [s, beq_self_eq_true, Bool.not_true, Bool.false_or] at k
  have k := List.all_eq_true.mp k h (List.mem_range.mpr hh)
  rw [t, Bool.false_or, Bool.and_eq_true, Bool.and_eq_true, beq_iff_eq, beq_iff_eq, decide_eq_true_eq] at k
  exact k
/-- with k places there are k bits at most, and none more where one of b stands already -/
theorem dpn {N S b : Nat} (hN : N ≤ 6) (hS : S < 2 ^ N) (s : S &&& b = b) (b0 : b ≠ 0) : pc6 (S ^^^ b) + 1 ≤ N := by
  have h64 : (2 : Nat) ^ N ≤ 2 ^ 6 := Nat.pow_le_pow_right (by decide) hN
  have hb : b ≤ S := by rw [← s]; exact Nat.and_le_left
  have key : (List.range 7).all (fun N => (List.range 64).all (fun S => !decide (S < 2 ^ N) || (List.range 64).all (fun b => !(S &&& b == b) || (b == 0 || decide (pc6 (S ^^^ b) + 1 ≤ N))))) = true := by decide +kernel
  have k := List.all_eq_true.mp (List.all_eq_true.mp key N (List.mem_range.mpr (by omega))) S (List.mem_range.mpr (by omega))
  rw [decide_eq_true hS, Bool.not_true, Bool.false_or] at k
  have k := List.all_eq_true.mp k b (List.mem_range.mpr (by omega))
  rw [s, beq_self_eq_true, Bool.not_true, Bool.false_or, beq_eq_false_iff_ne.mpr b0, Bool.false_or, decide_eq_true_eq] at k
  exact k
section PDPP
variable {s : Nat → Int32} {N a b : Nat} {T : Nat → Nat}
theorem rwy_f (ha : a < N) (hN : N ≤ 6) (hb : b < 2 ^ N) : ∀ {n S e : Nat}, rwy s N a b n S e → e < N ∧ S < 2 ^ N ∧ S &&& b = b ∧ n = pc6 (S ^^^ b)
  | 0, S, e, h => by
    obtain ⟨h1, h2⟩ := h
    subst h1 h2
    exact ⟨ha, hb, Nat.and_self _, by rw [Nat.xor_self]; rfl⟩
  | n + 1, S, e, h => by
    obtain ⟨S0, e0, h1, h2, h3, h4, h5⟩ := h
    obtain ⟨i1, i2, i3, i4⟩ := rwy_f ha hN hb h1
    have h64 : (2 : Nat) ^ N ≤ 2 ^ 6 := Nat.pow_le_pow_right (by decide) hN
    have q := dpf (h := e) (by omega) (show b < 64 by omega) (by omega) i3 h4
    subst h5
    exact ⟨h2, Nat.or_lt_two_pow i2 (Nat.pow_lt_pow_right (by decide) h2), q.2.1, by rw [q.1, ← i4]⟩
/-- what is reached from a set's ends -/
def mre (T : Nat → Nat) (E : Nat) : Nat → Nat → Nat → Nat
  | _, 0, r => r
  | h, n + 1, r => mre T E (h + 1) n (if E.testBit h = true then r ||| T h else r)
def mpu (S R : Nat) : Nat → Nat → (Nat → Nat) → Nat → Nat
  | _, 0, E => E
  | h, n + 1, E => mpu S R (h + 1) n (if R.testBit h = true then fun X => if X = S ||| 2 ^ h then E X ||| 2 ^ h else E X else E)
def mgo (T : Nat → Nat) (N S : Nat) (E : Nat → Nat) : Nat → Nat := mpu S (mre T (E S) 0 N 0 &&& (63 ^^^ S)) 0 N E
theorem mre_t {E : Nat} : ∀ {n h r d : Nat}, (mre T E h n r).testBit d = true ↔ r.testBit d = true ∨ ∃ e, h ≤ e ∧ e < h + n ∧ E.testBit e = true ∧ (T e).testBit d = true
  | 0, h, r, d => ⟨fun z => Or.inl z, fun z => z.elim id (fun ⟨e, h1, h2, _⟩ => by omega)⟩
  | n + 1, h, r, d => by
    show (mre T E (h + 1) n (if E.testBit h = true then r ||| T h else r)).testBit d = true ↔ _
    rw [mre_t]
    by_cases c : E.testBit h = true
    · rw [if_pos c, Nat.testBit_or, Bool.or_eq_true]
      constructor
      · rintro ((z | z) | ⟨e, h1, h2, h3⟩)
        · exact Or.inl z
        · exact Or.inr ⟨h, Nat.le_refl _, by omega, c, z⟩
        · exact Or.inr ⟨e, by omega, by omega, h3⟩
      · rintro (z | ⟨e, h1, h2, h3⟩)
        · exact Or.inl (Or.inl z)
        · by_cases y : e = h
          · subst y
            exact Or.inl (Or.inr h3.2)
          · exact Or.inr ⟨e, by omega, by omega, h3⟩
    · rw [if_neg c]
      constructor
      · rintro (z | ⟨e, h1, h2, h3⟩)
        · exact Or.inl z
        · exact Or.inr ⟨e, by omega, by omega, h3⟩
      · rintro (z | ⟨e, h1, h2, h3⟩)
        · exact Or.inl z
        · by_cases y : e = h
          · subst y
            exact absurd h3.1 c
          · exact Or.inr ⟨e, by omega, by omega, h3⟩
theorem mpu_t {S R : Nat} : ∀ {n h : Nat} {E : Nat → Nat} {X d : Nat}, (mpu S R h n E X).testBit d = true ↔ (E X).testBit d = true ∨ (h ≤ d ∧ d < h + n ∧ R.testBit d = true ∧ X = S ||| 2 ^ d)
  | 0, h, E, X, d => ⟨fun z => Or.inl z, fun z => z.elim id (fun ⟨h1, h2, _⟩ => by omega)⟩
  | n + 1, h, E, X, d => by
    show (mpu S R (h + 1) n (if R.testBit h = true then fun X => if X = S ||| 2 ^ h then E X ||| 2 ^ h else E X else E) X).testBit d = true ↔ _
    rw [mpu_t]
    by_cases c : R.testBit h = true
    · rw [if_pos c]
      show (if X = S ||| 2 ^ h then E X ||| 2 ^ h else E X).testBit d = true ∨ _ ↔ _
      by_cases x : X = S ||| 2 ^ h
      · rw [if_pos x, Nat.testBit_or, Nat.testBit_two_pow, Bool.or_eq_true, decide_eq_true_eq]
        constructor
        · rintro ((z | z) | ⟨h1, h2, h3⟩)
          · exact Or.inl z
          · subst z
            exact Or.inr ⟨Nat.le_refl _, by omega, c, x⟩
          · exact Or.inr ⟨by omega, by omega, h3⟩
        · rintro (z | ⟨h1, h2, h3⟩)
          · exact Or.inl (Or.inl z)
          · by_cases y : h = d
            · exact Or.inl (Or.inr y)
            · exact Or.inr ⟨by omega, by omega, h3⟩
      · rw [if_neg x]
        constructor
        · rintro (z | ⟨h1, h2, h3⟩)
          · exact Or.inl z
          · exact Or.inr ⟨by omega, by omega, h3⟩
        · rintro (z | ⟨h1, h2, h3⟩)
          · exact Or.inl z
          · by_cases y : h = d
            · subst y
              exact absurd h3.2 x
            · exact Or.inr ⟨by omega, by omega, h3⟩
    · rw [if_neg c]
      constructor
      · rintro (z | ⟨h1, h2, h3⟩)
        · exact Or.inl z
        · exact Or.inr ⟨by omega, by omega, h3⟩
      · rintro (z | ⟨h1, h2, h3⟩)
        · exact Or.inl z
        · by_cases y : h = d
          · subst y
            exact absurd h3.1 c
          · exact Or.inr ⟨by omega, by omega, h3⟩
theorem tb63 {S d : Nat} (hd : d < 6) : (63 ^^^ S).testBit d = !S.testBit d := by
  have k : (63 : Nat).testBit d = true := by
    have key : (List.range 6).all (fun d => (63 : Nat).testBit d) = true := by decide +kernel
    exact List.all_eq_true.mp key d (List.mem_range.mpr hd)
  rw [Nat.testBit_xor, k, Bool.true_xor]
/-- how the ends of sets go on from one set -/
theorem mgo_t (hN : N ≤ 6) (hT : ∀ x, x < 6 → ∀ d, d < 6 → (T x).testBit d = ptr s x d) {E : Nat → Nat} {S X d : Nat} (hd : d < 6) : (mgo T N S E X).testBit d = true ↔ (E X).testBit d = true ∨ (d < N ∧ S.testBit d = false ∧ X = S ||| 2 ^ d ∧ ∃ e, e < N ∧ (E S).testBit e = true ∧ ptr s e d = true) := by
  unfold mgo
  rw [mpu_t, Nat.testBit_and, tb63 hd, Bool.and_eq_true, mre_t]
  constructor
  · rintro (z | ⟨h1, h2, ⟨(z | ⟨e, k1, k2, k3, k4⟩), h4⟩, h5⟩)
    · exact Or.inl z
    · rw [Nat.zero_testBit] at z
      cases z
    · rw [hT e (by omega) d hd] at k4
      exact Or.inr ⟨by omega, by simpa using h4, h5, e, by omega, k3, k4⟩
  · rintro (z | ⟨h1, h2, h3, e, k1, k2, k3⟩)
    · exact Or.inl z
    · exact Or.inr ⟨Nat.zero_le _, by omega, ⟨Or.inr ⟨e, Nat.zero_le _, by omega, k2, by rw [hT e (by omega) d hd]; exact k3⟩, by rw [h2]; rfl⟩, h3⟩
theorem mre_b {E : Nat} (hT : ∀ x, x < 6 → T x < 64) : ∀ {n h r : Nat}, h + n ≤ 6 → r < 64 → mre T E h n r < 64
  | 0, _, _, _, hr => hr
  | n + 1, h, r, hn, hr => by
    refine mre_b hT (n := n) (by omega) ?_
    split
    · exact Nat.or_lt_two_pow (n := 6) hr (hT h (by omega))
    · exact hr
theorem mpu_b {S R : Nat} : ∀ {n h : Nat} {E : Nat → Nat}, h + n ≤ 6 → (∀ X, X < 64 → E X < 64) → ∀ X, X < 64 → mpu S R h n E X < 64
  | 0, _, _, _, hE => hE
  | n + 1, h, E, hn, hE => by
    refine mpu_b (n := n) (by omega) (fun X hX => ?_)
    split
    · show (if X = S ||| 2 ^ h then E X ||| 2 ^ h else E X) < 64
      split
      · exact Nat.or_lt_two_pow (n := 6) (hE X hX) (Nat.pow_lt_pow_right (by decide) (by omega))
      · exact hE X hX
    · exact hE X hX
/-- the most and the fewest, noted for a set's ends -/
def nmo (N e : Nat) (L : Int) (h : Nat) (mo : Nat → Int) (j : Nat) : Int := if h ≤ j ∧ j < N ∧ e.testBit j = true then (if mo j < L then L else mo j) else mo j
def nfe (N e : Nat) (L : Int) (h : Nat) (fe : Nat → Int) (j : Nat) : Int := if h ≤ j ∧ j < N ∧ e.testBit j = true then (if fe j = -1 ∨ L < fe j then L else fe j) else fe j
/-- set by set -/
def mms (T : Nat → Nat) (N b : Nat) : Nat → Nat → (Nat → Nat) × (Nat → Int) × (Nat → Int) → (Nat → Nat) × (Nat → Int) × (Nat → Int)
  | _, 0, q => q
  | S, n + 1, q => mms T N b (S + 1) n (if q.1 S = 0 then q else (mgo T N S q.1, nmo N (q.1 S) (pc6 (S ^^^ b)) 0 q.2.1, nfe N (q.1 S) (pc6 (S ^^^ b)) 0 q.2.2))
/-- what stands before set S is looked at -/
def mIv (s : Nat → Int32) (N a b S : Nat) (q : (Nat → Nat) × (Nat → Int) × (Nat → Int)) : Prop := (∀ X d, d < 6 → ((q.1 X).testBit d = true ↔ (X = b ∧ d = a) ∨ ∃ n S0 e0, rwy s N a b n S0 e0 ∧ S0 < S ∧ d < N ∧ ptr s e0 d = true ∧ S0.testBit d = false ∧ X = S0 ||| 2 ^ d)) ∧ (∀ h, h < N → (∀ n X, rwy s N a b n X h → X < S → (n : Int) ≤ q.2.1 h) ∧ (q.2.1 h = -1 ∨ ∃ n X, rwy s N a b n X h ∧ q.2.1 h = (n : Int))) ∧ ∀ h, h < N → (q.2.2 h = -1 ∧ ∀ n X, rwy s N a b n X h → ¬ X < S) ∨ ∃ n X, rwy s N a b n X h ∧ q.2.2 h = (n : Int) ∧ ∀ n' X', rwy s N a b n' X' h → X' < S → n ≤ n'
/-- the ends of the set in turn are all known -/
theorem mIv_S (ha : a < N) (hN : N ≤ 6) (hb : b < 2 ^ N) {S d : Nat} {q : (Nat → Nat) × (Nat → Int) × (Nat → Int)} (h : mIv s N a b S q) (hd : d < 6) : (q.1 S).testBit d = true ↔ ∃ n, rwy s N a b n S d := by
  have h64 : (2 : Nat) ^ N ≤ 2 ^ 6 := Nat.pow_le_pow_right (by decide) hN
  rw [h.1 S d hd]
  constructor
  · rintro (⟨h1, h2⟩ | ⟨n, S0, e0, k1, k2, k3, k4, k5, k6⟩)
    · exact ⟨0, h1, h2⟩
    · exact ⟨n + 1, S0, e0, k1, k3, k4, k5, k6⟩
  · rintro ⟨n, hn⟩
    cases n with
    | zero => exact Or.inl hn
    | succ n =>
      obtain ⟨S0, e0, k1, k3, k4, k5, k6⟩ := hn
      have f := rwy_f ha hN hb k1
      have q := dpf (h := d) (show S0 < 64 by omega) (show b < 64 by omega) hd f.2.2.1 k5
      exact Or.inr ⟨n, S0, e0, k1, by rw [k6]; exact q.2.2, k3, k4, k5, k6⟩
theorem mIv_n (ha : a < N) (hN : N ≤ 6) (hb : b < 2 ^ N) (hT : ∀ x, x < 6 → ∀ d, d < 6 → (T x).testBit d = ptr s x d) {S : Nat} {q : (Nat → Nat) × (Nat → Int) × (Nat → Int)} (h : mIv s N a b S q) : mIv s N a b (S + 1) (if q.1 S = 0 then q else (mgo T N S q.1, nmo N (q.1 S) (pc6 (S ^^^ b)) 0 q.2.1, nfe N (q.1 S) (pc6 (S ^^^ b)) 0 q.2.2)) := by
  have hS : ∀ d, d < 6 → ((q.1 S).testBit d = true ↔ ∃ n, rwy s N a b n S d) := fun d hd => mIv_S ha hN hb h hd
  obtain ⟨i1, i2, i3⟩ := h
  by_cases c : q.1 S = 0
  · rw [if_pos c]
    have no : ∀ n d, ¬ rwy s N a b n S d := fun n d z => by
      have f := rwy_f ha hN hb z
      have y := (hS d (by omega)).mpr ⟨n, z⟩
      rw [c, Nat.zero_testBit] at y
      cases y
    refine ⟨fun X d hd => (i1 X d hd).trans ⟨?_, ?_⟩, fun h hh => ⟨fun n X hn hX => ?_, (i2 h hh).2⟩, fun h hh => ?_⟩
    · rintro (z | ⟨n, S0, e0, k1, k2, k3⟩)
      · exact Or.inl z
      · exact Or.inr ⟨n, S0, e0, k1, by omega, k3⟩
    · rintro (z | ⟨n, S0, e0, k1, k2, k3⟩)
      · exact Or.inl z
      · by_cases y : S0 = S
        · subst y
          exact absurd k1 (no _ _)
        · exact Or.inr ⟨n, S0, e0, k1, by omega, k3⟩
    · by_cases y : X = S
      · subst y
        exact absurd hn (no _ _)
      · exact (i2 h hh).1 n X hn (by omega)
    · rcases i3 h hh with ⟨z1, z2⟩ | ⟨n, X, z1, z2, z3⟩
      · refine Or.inl ⟨z1, fun n X hn hX => ?_⟩
        by_cases y : X = S
        · subst y
          exact no _ _ hn
        · exact z2 n X hn (by omega)
      · refine Or.inr ⟨n, X, z1, z2, fun n' X' hn hX => ?_⟩
        by_cases y : X' = S
        · subst y
          exact absurd hn (no _ _)
        · exact z3 n' X' hn (by omega)
  · rw [if_neg c]
    refine ⟨fun X d hd => ?_, fun h hh => ?_, fun h hh => ?_⟩
    · show (mgo T N S q.1 X).testBit d = true ↔ _
      rw [mgo_t hN hT hd, i1 X d hd]
      constructor
      · rintro ((z | ⟨n, S0, e0, k1, k2, k3⟩) | ⟨h1, h2, h3, e, k1, k2, k3⟩)
        · exact Or.inl z
        · exact Or.inr ⟨n, S0, e0, k1, by omega, k3⟩
        · obtain ⟨n, hn⟩ := (hS e (by omega)).mp k2
          exact Or.inr ⟨n, S, e, hn, by omega, h1, k3, h2, h3⟩
      · rintro (z | ⟨n, S0, e0, k1, k2, k3, k4, k5, k6⟩)
        · exact Or.inl (Or.inl z)
        · by_cases y : S0 = S
          · subst y
            have f := rwy_f ha hN hb k1
            exact Or.inr ⟨k3, k5, k6, e0, f.1, (hS e0 (by omega)).mpr ⟨n, k1⟩, k4⟩
          · exact Or.inl (Or.inr ⟨n, S0, e0, k1, by omega, k3, k4, k5, k6⟩)
    · have j1 := (i2 h hh).1
      have j2 := (i2 h hh).2
      show (∀ n X, rwy s N a b n X h → X < S + 1 → (n : Int) ≤ nmo N (q.1 S) (pc6 (S ^^^ b)) 0 q.2.1 h) ∧ (nmo N (q.1 S) (pc6 (S ^^^ b)) 0 q.2.1 h = -1 ∨ ∃ n X, rwy s N a b n X h ∧ nmo N (q.1 S) (pc6 (S ^^^ b)) 0 q.2.1 h = (n : Int))
      unfold nmo
      by_cases e : (q.1 S).testBit h = true
      · rw [if_pos ⟨Nat.zero_le _, hh, e⟩]
        obtain ⟨n0, hn0⟩ := (hS h (by omega)).mp e
        have f0 := (rwy_f ha hN hb hn0).2.2.2
        constructor
        · intro n X hn hX
          by_cases y : X = S
          · subst y
            have f := (rwy_f ha hN hb hn).2.2.2
            split <;> omega
          · have := j1 n X hn (by omega)
            split <;> omega
        · split
          · exact Or.inr ⟨n0, S, hn0, by rw [f0]⟩
          · exact j2
      · rw [if_neg (fun z => e z.2.2)]
        refine ⟨fun n X hn hX => ?_, j2⟩
        by_cases y : X = S
        · subst y
          exact absurd ((hS h (by omega)).mpr ⟨n, hn⟩) e
        · exact j1 n X hn (by omega)
    · show (nfe N (q.1 S) (pc6 (S ^^^ b)) 0 q.2.2 h = -1 ∧ ∀ n X, rwy s N a b n X h → ¬ X < S + 1) ∨ ∃ n X, rwy s N a b n X h ∧ nfe N (q.1 S) (pc6 (S ^^^ b)) 0 q.2.2 h = (n : Int) ∧ ∀ n' X', rwy s N a b n' X' h → X' < S + 1 → n ≤ n'
      unfold nfe
      by_cases e : (q.1 S).testBit h = true
      · rw [if_pos ⟨Nat.zero_le _, hh, e⟩]
        obtain ⟨n0, hn0⟩ := (hS h (by omega)).mp e
        have f0 := (rwy_f ha hN hb hn0).2.2.2
        have at' : ∀ n', rwy s N a b n' S h → n' = n0 := fun n' hn' => (rwy_f ha hN hb hn').2.2.2.trans f0.symm
        rcases i3 h hh with ⟨z1, z2⟩ | ⟨n, X, z1, z2, z3⟩
        · rw [if_pos (Or.inl z1)]
          refine Or.inr ⟨n0, S, hn0, by rw [f0], fun n' X' hn hX => ?_⟩
          by_cases y : X' = S
          · subst y
            rw [at' n' hn]
            exact Nat.le_refl _
          · exact absurd (show X' < S by omega) (z2 n' X' hn)
        · rw [z2]
          by_cases l : pc6 (S ^^^ b) < n
          · rw [if_pos (Or.inr (by omega))]
            refine Or.inr ⟨n0, S, hn0, by rw [f0], fun n' X' hn hX => ?_⟩
            by_cases y : X' = S
            · subst y
              rw [at' n' hn]
              exact Nat.le_refl _
            · have := z3 n' X' hn (by omega)
              omega
          · rw [if_neg (by omega)]
            refine Or.inr ⟨n, X, z1, rfl, fun n' X' hn hX => ?_⟩
            by_cases y : X' = S
            · subst y
              have := at' n' hn
              omega
            · exact z3 n' X' hn (by omega)
      · rw [if_neg (fun z => e z.2.2)]
        have no : ∀ n, ¬ rwy s N a b n S h := fun n z => e ((hS h (by omega)).mpr ⟨n, z⟩)
        rcases i3 h hh with ⟨z1, z2⟩ | ⟨n, X, z1, z2, z3⟩
        · refine Or.inl ⟨z1, fun n X hn hX => ?_⟩
          by_cases y : X = S
          · subst y
            exact no _ hn
          · exact z2 n X hn (by omega)
        · refine Or.inr ⟨n, X, z1, z2, fun n' X' hn hX => ?_⟩
          by_cases y : X' = S
          · subst y
            exact absurd hn (no _)
          · exact z3 n' X' hn (by omega)
theorem mms_I (ha : a < N) (hN : N ≤ 6) (hb : b < 2 ^ N) (hT : ∀ x, x < 6 → ∀ d, d < 6 → (T x).testBit d = ptr s x d) : ∀ (n : Nat) {S : Nat} {q : (Nat → Nat) × (Nat → Int) × (Nat → Int)}, mIv s N a b S q → mIv s N a b (S + n) (mms T N b S n q)
  | 0, _, _, h => h
  | n + 1, S, q, h => by
    have z := mms_I ha hN hb hT n (mIv_n (T := T) ha hN hb hT h)
    rw [show S + 1 + n = S + (n + 1) by omega] at z
    exact z
/-- the start -/
def mst0 (a b : Nat) : (Nat → Nat) × (Nat → Int) × (Nat → Int) := (fun X => if X = b then 2 ^ a else 0, fun _ => -1, fun _ => -1)
theorem mst0_I (ha : a < N) (hN : N ≤ 6) (hb : b < 2 ^ N) : mIv s N a b b (mst0 a b) := by
  have low : ∀ n X e, rwy s N a b n X e → ¬ X < b := fun n X e h => by
    have f := (rwy_f ha hN hb h).2.2.1
    have : b ≤ X := by
      have := Nat.and_le_left (n := X) (m := b)
      omega
    omega
  refine ⟨fun X d hd => ?_, fun h hh => ⟨fun n X hn hX => absurd hX (low n X h hn), Or.inl rfl⟩, fun h hh => Or.inl ⟨rfl, fun n X hn => low n X h hn⟩⟩
  show ((if X = b then 2 ^ a else 0 : Nat)).testBit d = true ↔ _
  constructor
  · intro z
    by_cases y : X = b
    · rw [if_pos y, Nat.testBit_two_pow, decide_eq_true_eq] at z
      exact Or.inl ⟨y, z.symm⟩
    · rw [if_neg y, Nat.zero_testBit] at z
      cases z
  · rintro (⟨h1, h2⟩ | ⟨n, S0, e0, k1, k2, _⟩)
    · rw [if_pos h1, h2, Nat.testBit_two_pow]
      exact decide_eq_true rfl
    · exact absurd k2 (low n S0 e0 k1)
end PDPP
