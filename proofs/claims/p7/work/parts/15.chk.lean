/-! A checker: runs of method bodies over symbols with bounds. What it accepts, the interpreter does. -/
/-- a form: a times a symbol, plus c -/
abbrev yL : Type := Int × Nat × Int
/-- a value: its kind (0 int, 1 long, 2 reference with -1 for null, 3 a rule or null, 4 what lcmp said of two forms, 5 a rule's steps, 6 a rule's stack, 7 the formatter) and forms -/
abbrev yV : Type := Nat × yL × yL
abbrev yB : Type := List (Nat × Int × Int)
/-- a sum of multiples of symbols, plus a number -/
abbrev yX : Type := List (Int × Nat) × Int
/-- at a cell's place stands a value -/
abbrev yK : Type := yL × yL × yV
/-- next symbol, bounds, sums that are not negative, places, locals, operands -/
abbrev yS : Type := Nat × yB × List yX × List yK × List (Nat × yV) × List yV
def yc (c : Int) : yL := (0, 0, c)
def yI (l : yL) : yV := (0, l, yc 0)
def yev (r : Nat → Int) (l : yL) : Int := l.1 * r l.2.1 + l.2.2
def yxs (r : Nat → Int) : List (Int × Nat) → Int
  | [] => 0
  | q :: l => q.1 * r q.2 + yxs r l
def yex (r : Nat → Int) (x : yX) : Int := yxs r x.1 + x.2
def yw (n : Nat) (l : yL) : Prop := l.1 = 0 ∨ l.2.1 < n
def ywv (n : Nat) (a : yV) : Prop := yw n a.2.1 ∧ yw n a.2.2
/-- what a value of the checker says of a value; h: how many cells there are -/
def yv (h : Nat) (r : Nat → Int) (a : yV) (w : Value) : Prop := match a.1 with
  | 0 => ∃ x : Int32, w = .int x ∧ x.toInt = yev r a.2.1
  | 1 => ∃ x : Int64, w = .long x ∧ x.toInt = yev r a.2.1
  | 2 => (yev r a.2.1 = -1 ∧ w = .null) ∨ (0 ≤ yev r a.2.1 ∧ w = .ref (yev r a.2.1).toNat)
  | 3 => (yev r a.2.1 = -1 ∧ w = .null) ∨ (0 ≤ yev r a.2.1 ∧ 88 + 3 * (yev r a.2.1).toNat + 2 < h ∧ w = .ref (88 + 3 * (yev r a.2.1).toNat))
  | 4 => ∃ x : Int32, w = .int x ∧ ((x.toInt = -1 ∧ yev r a.2.1 < yev r a.2.2) ∨ (x.toInt = 0 ∧ yev r a.2.1 = yev r a.2.2) ∨ (x.toInt = 1 ∧ yev r a.2.2 < yev r a.2.1))
  | 5 => 0 ≤ yev r a.2.1 ∧ 88 + 3 * (yev r a.2.1).toNat + 2 < h ∧ w = .ref (89 + 3 * (yev r a.2.1).toNat)
  | 6 => 0 ≤ yev r a.2.1 ∧ 88 + 3 * (yev r a.2.1).toNat + 2 < h ∧ w = .ref (90 + 3 * (yev r a.2.1).toNat)
  | 7 => w = .retAddr 0
  | _ => False
/-- what stands at a place of a cell; a row's place below 0: its length -/
def yrd (hp : zHp) (i : Nat) (j : Int) : Option Value := match hp.2 i with
  | .inr (_, fs) => if j < 0 then none else fs[j.toNat]?
  | .inl (_, n, x) => if j < 0 then (if i < hp.1 then some (.int (Int32.ofNat n)) else none) else match x with
    | .inl f => some (.int (f j.toNat))
    | .inr (.inl f) => some (.long (f j.toNat))
    | .inr (.inr (.inr (.inr f))) => some (va_rf (f j.toNat))
    | _ => none
/-- a length is known of a cell that is there alone -/
theorem yrd_lt {hp : zHp} {i : Nat} {j : Int} {w : Value} (h : yrd hp i j = some w) (hj : j < 0) : i < hp.1 := by
  unfold yrd at h
  cases e : hp.2 i with
  | inr q =>
    obtain ⟨c, fs⟩ := q
    rw [e] at h
    dsimp only at h
    rw [if_pos hj] at h
    cases h
  | inl q =>
    obtain ⟨c, n, x⟩ := q
    rw [e] at h
    dsimp only at h
    rw [if_pos hj] at h
    by_cases c : i < hp.1
    · exact c
    · rw [if_neg c] at h
      cases h
theorem yifs {i n : Nat} {x y : Value} (h : (if i < n then some x else none) = some y) : some x = some y := by
  by_cases k : i < n
  · rw [if_pos k] at h
    exact h
  · rw [if_neg k] at h
    cases h
def ytk (hp : zHp) (r : Nat → Int) (t : yK) : Prop := 0 ≤ yev r t.1 ∧ ∃ w, yrd hp (yev r t.1).toNat (yev r t.2.1) = some w ∧ yv hp.1 r t.2.2 w
def yld : List (Nat × yV) → Nat → Option yV
  | [], _ => none
  | q :: l, i => if q.1 = i then some q.2 else yld l i
def ystk (h : Nat) (r : Nat → Int) (n : Nat) : List yV → List Value → Prop
  | [], [] => True
  | a :: l, w :: m => (ywv n a ∧ yv h r a w) ∧ ystk h r n l m
  | _, _ => False
def yGe (r : Nat → Int) (n : Nat) (b : yB) : Prop := ∀ e ∈ b, e.1 < n ∧ e.2.1 ≤ r e.1 ∧ r e.1 ≤ e.2.2
def yGf (r : Nat → Int) (n : Nat) (f : List yX) : Prop := ∀ x ∈ f, (∀ t ∈ x.1, t.2 < n) ∧ 0 ≤ yex r x
def yGt (hp : zHp) (r : Nat → Int) (n : Nat) (t : List yK) : Prop := ∀ q ∈ t, (yw n q.1 ∧ yw n q.2.1 ∧ ywv n q.2.2) ∧ ytk hp r q
def yGl (h : Nat) (r : Nat → Int) (n : Nat) (l : List (Nat × yV)) (lv : List (Nat × Value)) : Prop := ∀ i a, yld l i = some a → ywv n a ∧ ∃ w, zld lv i = some w ∧ yv h r a w
/-- a state of the checker holds here -/
def yG (hp : zHp) (r : Nat → Int) (S : yS) (lv : List (Nat × Value)) (st : List Value) : Prop :=
  yGe r S.1 S.2.1 ∧ yGf r S.1 S.2.2.1 ∧ yGt hp r S.1 S.2.2.2.1 ∧ yGl hp.1 r S.1 S.2.2.2.2.1 lv ∧ ystk hp.1 r S.1 S.2.2.2.2.2 st
/-- two readings of symbols agree below n -/
def yag (n : Nat) (r r2 : Nat → Int) : Prop := ∀ s, s < n → r2 s = r s
theorem yev_ag {n : Nat} {r r2 : Nat → Int} (h : yag n r r2) {l : yL} (w : yw n l) : yev r2 l = yev r l := by
  obtain ⟨a, s, c⟩ := l
  rcases w with w | w
  · have w : a = 0 := w
    subst w
    simp [yev]
  · show a * r2 s + c = a * r s + c
    rw [h s w]
theorem yw_le {n m : Nat} (h : n ≤ m) {l : yL} (w : yw n l) : yw m l := w.imp_right (fun q => Nat.lt_of_lt_of_le q h)
theorem ywv_le {n m : Nat} (h : n ≤ m) {a : yV} (w : ywv n a) : ywv m a := ⟨yw_le h w.1, yw_le h w.2⟩
theorem yv_ag {n hn : Nat} {r r2 : Nat → Int} (h : yag n r r2) {a : yV} (w : ywv n a) {v : Value} (g : yv hn r a v) : yv hn r2 a v := by
  unfold yv at g ⊢
  rw [yev_ag h w.1, yev_ag h w.2]
  exact g
theorem yxs_ag {n : Nat} {r r2 : Nat → Int} (h : yag n r r2) : ∀ {l : List (Int × Nat)}, (∀ t ∈ l, t.2 < n) → yxs r2 l = yxs r l
  | [], _ => rfl
  | q :: l, w => by
    show q.1 * r2 q.2 + yxs r2 l = q.1 * r q.2 + yxs r l
    rw [h q.2 (w q List.mem_cons_self), yxs_ag h (fun t ht => w t (List.mem_cons_of_mem _ ht))]
theorem yGe_ag {n m : Nat} (hm : n ≤ m) {r r2 : Nat → Int} (h : yag n r r2) {b : yB} (g : yGe r n b) : yGe r2 m b := fun e he => by
  have q := g e he
  rw [h e.1 q.1]
  exact ⟨Nat.lt_of_lt_of_le q.1 hm, q.2⟩
theorem yGf_ag {n m : Nat} (hm : n ≤ m) {r r2 : Nat → Int} (h : yag n r r2) {f : List yX} (g : yGf r n f) : yGf r2 m f := fun x hx => by
  have q := g x hx
  refine ⟨fun t ht => Nat.lt_of_lt_of_le (q.1 t ht) hm, ?_⟩
  unfold yex
  rw [yxs_ag h q.1]
  exact q.2
theorem yGt_ag {hp : zHp} {n m : Nat} (hm : n ≤ m) {r r2 : Nat → Int} (h : yag n r r2) {t : List yK} (g : yGt hp r n t) : yGt hp r2 m t := fun q hq => by
  obtain ⟨⟨w1, w2, w3⟩, h1, w, h2, h3⟩ := g q hq
  refine ⟨⟨yw_le hm w1, yw_le hm w2, ywv_le hm w3⟩, ?_, w, ?_, yv_ag h w3 h3⟩
  · rw [yev_ag h w1]; exact h1
  · rw [yev_ag h w1, yev_ag h w2]; exact h2
theorem yGl_ag {hn n m : Nat} (hm : n ≤ m) {r r2 : Nat → Int} (h : yag n r r2) {l : List (Nat × yV)} {lv : List (Nat × Value)} (g : yGl hn r n l lv) : yGl hn r2 m l lv := fun i a e => by
  obtain ⟨w, v, h1, h2⟩ := g i a e
  exact ⟨ywv_le hm w, v, h1, yv_ag h w h2⟩
theorem ystk_ag {hn n m : Nat} (hm : n ≤ m) {r r2 : Nat → Int} (h : yag n r r2) : ∀ {l : List yV} {st : List Value}, ystk hn r n l st → ystk hn r2 m l st
  | [], [], _ => trivial
  | [], _ :: _, g => g.elim
  | _ :: _, [], g => g.elim
  | a :: l, w :: st, g => ⟨⟨ywv_le hm g.1.1, yv_ag h g.1.1 g.1.2⟩, ystk_ag hm h g.2⟩
/-- bounds -/
def ybd : yB → Nat → Option (Int × Int)
  | [], _ => none
  | e :: l, s => if e.1 = s then some e.2 else ybd l s
def yrg (b : yB) (l : yL) : Option (Int × Int) := if l.1 = 0 then some (l.2.2, l.2.2) else match ybd b l.2.1 with
  | none => none
  | some q => if 0 ≤ l.1 then some (l.1 * q.1 + l.2.2, l.1 * q.2 + l.2.2) else some (l.1 * q.2 + l.2.2, l.1 * q.1 + l.2.2)
theorem ybd_mem : ∀ {b : yB} {s : Nat} {q : Int × Int}, ybd b s = some q → (s, q) ∈ b
  | [], _, _, h => by cases h
  | e :: l, s, q, h => by
    unfold ybd at h
    split at h
    · next he =>
      cases h
      cases he
      exact List.mem_cons_self
    · exact List.mem_cons_of_mem _ (ybd_mem h)
theorem yrg_ok {r : Nat → Int} {n : Nat} {b : yB} (g : yGe r n b) {l : yL} {q : Int × Int} (h : yrg b l = some q) : q.1 ≤ yev r l ∧ yev r l ≤ q.2 := by
  obtain ⟨a, s, c⟩ := l
  unfold yrg at h
  split at h
  · next ha =>
    have ha : a = 0 := ha
    subst ha
    cases h
    simp [yev]
  · next ha =>
    split at h
    · cases h
    · next e he =>
      have hb := g _ (ybd_mem he)
      have h1 : e.1 ≤ r s := hb.2.1
      have h2 : r s ≤ e.2 := hb.2.2
      show q.1 ≤ a * r s + c ∧ a * r s + c ≤ q.2
      split at h
      · next h0 =>
        have h0 : 0 ≤ a := h0
        cases h
        have := Int.mul_le_mul_of_nonneg_left h1 h0
        have := Int.mul_le_mul_of_nonneg_left h2 h0
        show a * e.1 + c ≤ a * r s + c ∧ a * r s + c ≤ a * e.2 + c
        omega
      · next h0 =>
        have h0 : a ≤ 0 := by have : ¬ (0 ≤ a) := h0; omega
        cases h
        have := Int.mul_le_mul_of_nonpos_left h0 h1
        have := Int.mul_le_mul_of_nonpos_left h0 h2
        show a * e.2 + c ≤ a * r s + c ∧ a * r s + c ≤ a * e.1 + c
        omega
/-- a number where the bounds leave but one -/
def ynm (b : yB) (l : yL) : yL := match yrg b l with
  | some q => if q.1 = q.2 then yc q.1 else l
  | none => l
theorem ynm_ok {r : Nat → Int} {n : Nat} {b : yB} (g : yGe r n b) {l : yL} (w : yw n l) : yev r (ynm b l) = yev r l ∧ yw n (ynm b l) := by
  unfold ynm
  split
  · next q hq =>
    split
    · next he =>
      have := yrg_ok g hq
      refine ⟨?_, Or.inl rfl⟩
      show 0 * r 0 + q.1 = _
      omega
    · exact ⟨rfl, w⟩
  · exact ⟨rfl, w⟩
/-- sums -/
def yin1 (k : Int) (s : Nat) : List (Int × Nat) → List (Int × Nat)
  | [] => [(k, s)]
  | q :: l => if q.2 = s then (q.1 + k, s) :: l else q :: yin1 k s l
theorem yin1_ok (r : Nat → Int) (k : Int) (s : Nat) : ∀ l, yxs r (yin1 k s l) = k * r s + yxs r l
  | [] => rfl
  | q :: l => by
    unfold yin1
    split
    · next h =>
      show (q.1 + k) * r s + yxs r l = k * r s + (q.1 * r q.2 + yxs r l)
      rw [h, Int.add_mul]
      omega
    · show q.1 * r q.2 + yxs r (yin1 k s l) = k * r s + (q.1 * r q.2 + yxs r l)
      rw [yin1_ok r k s l]
      omega
def yaddl (k : Int) : List (Int × Nat) → List (Int × Nat) → List (Int × Nat)
  | [], m => m
  | q :: l, m => yaddl k l (yin1 (k * q.1) q.2 m)
theorem yaddl_ok (r : Nat → Int) (k : Int) : ∀ l m, yxs r (yaddl k l m) = k * yxs r l + yxs r m
  | [], m => by show yxs r m = k * 0 + yxs r m; omega
  | q :: l, m => by
    show yxs r (yaddl k l (yin1 (k * q.1) q.2 m)) = k * (q.1 * r q.2 + yxs r l) + yxs r m
    rw [yaddl_ok r k l, yin1_ok, Int.mul_add, Int.mul_assoc]
    omega
/-- e plus k times f -/
def yadd (k : Int) (f e : yX) : yX := (yaddl k f.1 e.1, k * f.2 + e.2)
theorem yadd_ok (r : Nat → Int) (k : Int) (f e : yX) : yex r (yadd k f e) = k * yex r f + yex r e := by
  show yxs r (yaddl k f.1 e.1) + (k * f.2 + e.2) = k * (yxs r f.1 + f.2) + (yxs r e.1 + e.2)
  rw [yaddl_ok, Int.mul_add]
  omega
def yxl (l : yL) : yX := if l.1 = 0 then ([], l.2.2) else ([(l.1, l.2.1)], l.2.2)
theorem yxl_ok (r : Nat → Int) (l : yL) : yex r (yxl l) = yev r l := by
  unfold yxl
  split
  · next h =>
    show 0 + l.2.2 = l.1 * r l.2.1 + l.2.2
    rw [h]
    omega
  · show l.1 * r l.2.1 + 0 + l.2.2 = l.1 * r l.2.1 + l.2.2
    omega
/-- a lower bound of a sum -/
def ylbs (b : yB) : List (Int × Nat) → Option Int
  | [] => some 0
  | q :: l => if q.1 = 0 then ylbs b l else match ylbs b l, ybd b q.2 with
    | some z, some e => if 0 ≤ q.1 then some (q.1 * e.1 + z) else some (q.1 * e.2 + z)
    | _, _ => none
theorem ylbs_ok {r : Nat → Int} {n : Nat} {b : yB} (g : yGe r n b) : ∀ {l : List (Int × Nat)} {z : Int}, ylbs b l = some z → z ≤ yxs r l
  | [], z, h => by cases h; exact Int.le_refl _
  | q :: l, z, h => by
    unfold ylbs at h
    show z ≤ q.1 * r q.2 + yxs r l
    split at h
    · next h0 =>
      have := ylbs_ok g h
      rw [h0]
      omega
    · split at h
      · next z2 e h2 he =>
        have hb := g _ (ybd_mem he)
        have i1 : e.1 ≤ r q.2 := hb.2.1
        have i2 : r q.2 ≤ e.2 := hb.2.2
        have := ylbs_ok g h2
        split at h
        · next h0 =>
          cases h
          have := Int.mul_le_mul_of_nonneg_left i1 h0
          omega
        · next h0 =>
          cases h
          have := Int.mul_le_mul_of_nonpos_left (show q.1 ≤ 0 by omega) i2
          omega
      · cases h
def yge0 (b : yB) (x : yX) : Bool := match ylbs b x.1 with
  | some z => decide (0 ≤ z + x.2)
  | none => false
theorem yge0_ok {r : Nat → Int} {n : Nat} {b : yB} (g : yGe r n b) {x : yX} (h : yge0 b x = true) : 0 ≤ yex r x := by
  unfold yge0 at h
  split at h
  · next z hz =>
    have := ylbs_ok g hz
    have h2 : 0 ≤ z + x.2 := of_decide_eq_true h
    show 0 ≤ yxs r x.1 + x.2
    omega
  · cases h
/-- it isn't negative, by the bounds and two of the facts at most -/
def yprv (b : yB) (f : List yX) (x : yX) : Bool := yge0 b x || f.any (fun g => yge0 b (yadd (-1) g x)) || f.any (fun g => f.any (fun h => yge0 b (yadd (-1) h (yadd (-1) g x))))
theorem yprv_ok {r : Nat → Int} {n : Nat} {b : yB} {f : List yX} (g : yGe r n b) (gf : yGf r n f) {x : yX} (h : yprv b f x = true) : 0 ≤ yex r x := by
  unfold yprv at h
  simp only [Bool.or_eq_true, List.any_eq_true] at h
  rcases h with (h | ⟨y, hy, h⟩) | ⟨y, hy, z, hz, h⟩
  · exact yge0_ok g h
  · have h1 := yge0_ok g h
    rw [yadd_ok] at h1
    have h2 := (gf y hy).2
    omega
  · have h1 := yge0_ok g h
    rw [yadd_ok, yadd_ok] at h1
    have h2 := (gf y hy).2
    have h3 := (gf z hz).2
    omega
