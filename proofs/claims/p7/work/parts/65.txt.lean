/-! Texts: runs of bytes, numbers, words. -/
def tsp (P : Int → Bool) (b : Nat → Int) (n : Nat) : Nat → Nat → Nat
  | 0, p => p
  | f + 1, p => if p < n ∧ P (b p) = true then tsp P b n f (p + 1) else p
def tS (P : Int → Bool) (b : Nat → Int) (n p : Nat) : Nat := tsp P b n (n - p) p
def tbl (x : Int) : Bool := x == 32
def tdg (x : Int) : Bool := decide (48 ≤ x) && decide (x ≤ 57)
def tlt (x : Int) : Bool := decide (97 ≤ x) && decide (x ≤ 122)
/-- the bytes from p up to e -/
def tw (b : Nat → Int) (p e : Nat) : List Int := (List.range (e - p)).map (fun i => b (p + i))
/-- the number of the first k digits from p on -/
def tv (b : Nat → Int) (p : Nat) : Nat → Int
  | 0 => 0
  | k + 1 => 10 * tv b p k + b (p + k) - 48
section TTXT
variable {P : Int → Bool} {b : Nat → Int} {n p : Nat}
theorem tS_t (h : p < n) (hb : P (b p) = true) : tS P b n p = tS P b n (p + 1) := by
  unfold tS
  rw [show n - p = (n - (p + 1)) + 1 by omega]
  show (if p < n ∧ P (b p) = true then _ else p) = _
  rw [if_pos ⟨h, hb⟩]
theorem tS_f (h : ¬ (p < n ∧ P (b p) = true)) : tS P b n p = p := by
  unfold tS
  cases n - p with
  | zero => rfl
  | succ k => exact if_neg h
theorem tS_ind {Q : Nat → Prop} (h0 : ∀ p, ¬ (p < n ∧ P (b p) = true) → Q p) (h1 : ∀ p, p < n → P (b p) = true → Q (p + 1) → Q p) : ∀ p, Q p := by
  have key : ∀ k p, n - p = k → Q p := by
    intro k
    induction k with
    | zero => intro p hp; exact h0 p (fun z => by omega)
    | succ k ih =>
      intro p hp
      by_cases c : p < n ∧ P (b p) = true
      · exact h1 p c.1 c.2 (ih (p + 1) (by omega))
      · exact h0 p c
  exact fun p => key (n - p) p rfl
theorem tS_ge : ∀ p, p ≤ tS P b n p := tS_ind (n := n) (P := P) (b := b) (fun p h => by rw [tS_f h]; exact Nat.le_refl _) (fun p h1 h2 ih => by rw [tS_t h1 h2]; omega)
theorem tS_le : ∀ p, p ≤ n → tS P b n p ≤ n := tS_ind (n := n) (P := P) (b := b) (fun p h k => by rw [tS_f h]; exact k) (fun p h1 h2 ih k => by rw [tS_t h1 h2]; exact ih (by omega))
theorem tS_end : ∀ p, ¬ (tS P b n p < n ∧ P (b (tS P b n p)) = true) := tS_ind (n := n) (P := P) (b := b) (fun p h => by rw [tS_f h]; exact h) (fun p h1 h2 ih => by rw [tS_t h1 h2]; exact ih)
theorem tS_in : ∀ p j, p ≤ j → j < tS P b n p → j < n ∧ P (b j) = true := tS_ind (n := n) (P := P) (b := b) (fun p h j h1 h2 => by rw [tS_f h] at h2; omega) (fun p h1 h2 ih j h3 h4 => by
  rw [tS_t h1 h2] at h4
  by_cases e : j = p
  · subst e
    exact ⟨h1, h2⟩
  · exact ih j (by omega) h4)
theorem tS_id (p : Nat) : tS P b n (tS P b n p) = tS P b n p := tS_f (tS_end p)
theorem tS_lt (h : p < n) (hb : P (b p) = true) : p < tS P b n p := by
  rw [tS_t h hb]
  exact tS_ge (p + 1)
theorem tw_nil (p : Nat) : tw b p p = [] := by
  unfold tw
  rw [Nat.sub_self]
  rfl
theorem tw_len (p e : Nat) : (tw b p e).length = e - p := by
  unfold tw
  rw [List.length_map, List.length_range]
theorem tw_get {p e i : Nat} (h : i < e - p) : (tw b p e)[i]? = some (b (p + i)) := by
  unfold tw
  rw [List.getElem?_map, List.getElem?_range h]
  rfl
theorem tw_snoc {p e : Nat} (h : p ≤ e) : tw b p (e + 1) = tw b p e ++ [b e] := by
  unfold tw
  rw [show e + 1 - p = (e - p) + 1 by omega, List.range_succ, List.map_append, List.map_singleton, show p + (e - p) = e by omega]
theorem tw_cons {p e : Nat} (h : p < e) : tw b p e = b p :: tw b (p + 1) e := by
  unfold tw
  rw [show e - p = (e - (p + 1)) + 1 by omega, List.range_succ_eq_map, List.map_cons, List.map_map]
  refine congrArg (b p :: ·) (List.map_congr_left (fun i _ => ?_))
  show b (p + (i + 1)) = b (p + 1 + i)
  rw [show p + (i + 1) = p + 1 + i by omega]
theorem tv_b (h : ∀ j, p ≤ j → j < p + 5 → j < p + n → 48 ≤ b j ∧ b j ≤ 57) : ∀ k, k ≤ 5 → k ≤ n → 0 ≤ tv b p k ∧ tv b p k < 10 ^ k := by
  intro k
  induction k with
  | zero => intro _ _; exact ⟨Int.le_refl _, by show (0 : Int) < 10 ^ 0; decide⟩
  | succ k ih =>
    intro h1 h2
    obtain ⟨a1, a2⟩ := ih (by omega) (by omega)
    have a3 := h (p + k) (by omega) (by omega) (by omega)
    show 0 ≤ 10 * tv b p k + b (p + k) - 48 ∧ 10 * tv b p k + b (p + k) - 48 < 10 ^ (k + 1)
    rw [Int.pow_succ]
    omega
end TTXT
/-- a list of a row's first places, the last first -/
def tk (f : Nat → Int32) : Nat → List Int
  | 0 => []
  | n + 1 => (f n).toInt :: tk f n
theorem tk_len (f : Nat → Int32) : ∀ n, (tk f n).length = n := by
  intro n
  induction n with
  | zero => rfl
  | succ n ih => show (tk f n).length + 1 = n + 1; rw [ih]
theorem tk_c {f g : Nat → Int32} : ∀ n, (∀ j, j < n → f j = g j) → tk f n = tk g n := by
  intro n
  induction n with
  | zero => intro _; rfl
  | succ n ih =>
    intro h
    show (f n).toInt :: tk f n = (g n).toInt :: tk g n
    rw [h n (by omega), ih (fun j hj => h j (by omega))]
/-- the words of rules and villages, as bytes -/
def tLend : List Int := [108, 101, 110, 100]
def tIf : List Int := [105, 102]
def tNot : List Int := [110, 111, 116]
def tAnd : List Int := [97, 110, 100]
def tOr : List Int := [111, 114]
def tWds : List (List Int) := [[116, 111, 111, 108], [107, 105, 110, 100], [111, 119, 110, 101, 114], [104, 111, 108, 100, 101, 114], [116, 111], [108, 101, 110, 116], [115, 104, 97, 114, 112], [111, 117, 116], [100, 97, 121], [110, 101, 101, 100], [112, 97, 121], [111, 119, 101, 115], [116, 114, 117, 115, 116, 115]]
def tCls : List (List Int) := [[118, 105, 108, 108, 97, 103, 101], [116, 111, 111, 108], [116, 114, 117, 115, 116], [119, 111, 114, 107], [116, 104, 97, 110, 107, 115]]
/-- which of these words stands there -/
def tix (w : List Int) : List (List Int) → Option Nat
  | [] => none
  | v :: vs => if v = w then some 0 else (tix w vs).map (· + 1)
