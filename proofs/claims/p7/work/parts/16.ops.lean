/-! Sums and products of forms, what the machine's operations make of them. -/
def yladd (l1 l2 : yL) : Option yL := if l1.1 = 0 then some (l2.1, l2.2.1, l2.2.2 + l1.2.2) else if l2.1 = 0 then some (l1.1, l1.2.1, l1.2.2 + l2.2.2) else if l1.2.1 = l2.2.1 then (if l1.1 + l2.1 = 0 then some (yc (l1.2.2 + l2.2.2)) else some (l1.1 + l2.1, l1.2.1, l1.2.2 + l2.2.2)) else none
def ylneg (l : yL) : yL := (-l.1, l.2.1, -l.2.2)
def ylsc (k : Int) (l : yL) : yL := if k * l.1 = 0 then yc (k * yev (fun _ => 0) l) else (k * l.1, l.2.1, k * l.2.2)
theorem yev_c (r : Nat → Int) (c : Int) : yev r (yc c) = c := by show 0 * r 0 + c = c; omega
theorem yev_0 {r : Nat → Int} {l : yL} (h : l.1 = 0) : yev r l = l.2.2 := by show l.1 * r l.2.1 + l.2.2 = l.2.2; rw [h]; omega
theorem yladd_ok {r : Nat → Int} {n : Nat} {l1 l2 l : yL} (w1 : yw n l1) (w2 : yw n l2) (h : yladd l1 l2 = some l) : yw n l ∧ yev r l = yev r l1 + yev r l2 := by
  unfold yladd at h
  split at h
  · next h0 =>
    cases h
    refine ⟨w2, ?_⟩
    rw [yev_0 h0]
    show l2.1 * r l2.2.1 + (l2.2.2 + l1.2.2) = l1.2.2 + (l2.1 * r l2.2.1 + l2.2.2)
    omega
  · split at h
    · next h0 =>
      cases h
      refine ⟨w1, ?_⟩
      rw [yev_0 h0]
      show l1.1 * r l1.2.1 + (l1.2.2 + l2.2.2) = l1.1 * r l1.2.1 + l1.2.2 + l2.2.2
      omega
    · split at h
      · next hs =>
        split at h
        · next h0 =>
          cases h
          refine ⟨Or.inl rfl, ?_⟩
          rw [yev_c]
          show _ = l1.1 * r l1.2.1 + l1.2.2 + (l2.1 * r l2.2.1 + l2.2.2)
          rw [← hs]
          have : l1.1 * r l1.2.1 + l2.1 * r l1.2.1 = 0 := by rw [← Int.add_mul, h0]; omega
          omega
        · cases h
          refine ⟨Or.inr (w1.resolve_left (by assumption)), ?_⟩
          show (l1.1 + l2.1) * r l1.2.1 + (l1.2.2 + l2.2.2) = l1.1 * r l1.2.1 + l1.2.2 + (l2.1 * r l2.2.1 + l2.2.2)
          rw [← hs, Int.add_mul]
          omega
      · cases h
theorem ylneg_ok {r : Nat → Int} {n : Nat} {l : yL} (w : yw n l) : yw n (ylneg l) ∧ yev r (ylneg l) = - yev r l := by
  refine ⟨w.imp_left (fun h => by show -l.1 = 0; omega), ?_⟩
  show -l.1 * r l.2.1 + -l.2.2 = -(l.1 * r l.2.1 + l.2.2)
  rw [Int.neg_mul]
  omega
theorem ylsc_ok {r : Nat → Int} {n : Nat} (k : Int) {l : yL} (w : yw n l) : yw n (ylsc k l) ∧ yev r (ylsc k l) = k * yev r l := by
  unfold ylsc
  split
  · next h =>
    refine ⟨Or.inl rfl, ?_⟩
    rw [yev_c]
    show k * (l.1 * 0 + l.2.2) = k * (l.1 * r l.2.1 + l.2.2)
    rw [Int.mul_add, Int.mul_add, ← Int.mul_assoc, ← Int.mul_assoc, h]
    omega
  · next h =>
    refine ⟨Or.inr (w.resolve_left (fun z => h (by rw [z]; omega))), ?_⟩
    show k * l.1 * r l.2.1 + k * l.2.2 = k * (l.1 * r l.2.1 + l.2.2)
    rw [Int.mul_add, Int.mul_assoc]
def ymin (a b : Int) : Int := if a ≤ b then a else b
def ymax (a b : Int) : Int := if a ≤ b then b else a
theorem ymin_l (a b : Int) : ymin a b ≤ a ∧ ymin a b ≤ b := by unfold ymin; split <;> omega
theorem ymax_l (a b : Int) : a ≤ ymax a b ∧ b ≤ ymax a b := by unfold ymax; split <;> omega
def ymul (p q : Int × Int) : Int × Int := (ymin (ymin (p.1 * q.1) (p.1 * q.2)) (ymin (p.2 * q.1) (p.2 * q.2)), ymax (ymax (p.1 * q.1) (p.1 * q.2)) (ymax (p.2 * q.1) (p.2 * q.2)))
theorem ymul1 {a b x y : Int} (h1 : a ≤ x) (h2 : x ≤ b) : (a * y ≤ x * y ∨ b * y ≤ x * y) ∧ (x * y ≤ a * y ∨ x * y ≤ b * y) := by
  by_cases h : 0 ≤ y
  · exact ⟨Or.inl (Int.mul_le_mul_of_nonneg_right h1 h), Or.inr (Int.mul_le_mul_of_nonneg_right h2 h)⟩
  · have h : y ≤ 0 := by omega
    exact ⟨Or.inr (Int.mul_le_mul_of_nonpos_right h2 h), Or.inl (Int.mul_le_mul_of_nonpos_right h1 h)⟩
theorem ymul_ok {p q : Int × Int} {x y : Int} (h1 : p.1 ≤ x ∧ x ≤ p.2) (h2 : q.1 ≤ y ∧ y ≤ q.2) : (ymul p q).1 ≤ x * y ∧ x * y ≤ (ymul p q).2 := by
  have e := ymul1 (y := y) h1.1 h1.2
  have f := ymul1 (y := p.1) h2.1 h2.2
  have g := ymul1 (y := p.2) h2.1 h2.2
  rw [Int.mul_comm q.1 p.1, Int.mul_comm q.2 p.1, Int.mul_comm y p.1] at f
  rw [Int.mul_comm q.1 p.2, Int.mul_comm q.2 p.2, Int.mul_comm y p.2] at g
  have a1 := ymin_l (p.1 * q.1) (p.1 * q.2)
  have a2 := ymin_l (p.2 * q.1) (p.2 * q.2)
  have a3 := ymin_l (ymin (p.1 * q.1) (p.1 * q.2)) (ymin (p.2 * q.1) (p.2 * q.2))
  have b1 := ymax_l (p.1 * q.1) (p.1 * q.2)
  have b2 := ymax_l (p.2 * q.1) (p.2 * q.2)
  have b3 := ymax_l (ymax (p.1 * q.1) (p.1 * q.2)) (ymax (p.2 * q.1) (p.2 * q.2))
  show ymin (ymin (p.1 * q.1) (p.1 * q.2)) (ymin (p.2 * q.1) (p.2 * q.2)) ≤ x * y ∧ x * y ≤ ymax (ymax (p.1 * q.1) (p.1 * q.2)) (ymax (p.2 * q.1) (p.2 * q.2))
  obtain ⟨e1 | e1, e2 | e2⟩ := e <;> obtain ⟨f1 | f1, f2 | f2⟩ := f <;> obtain ⟨g1 | g1, g2 | g2⟩ := g <;> constructor <;> omega
/-- operations: 0 add, 1 sub, 2 mul, 9 div, 10 rem -/
def ymo (o : Nat) (x y : Int) : Int := match o with
  | 0 => x + y
  | 1 => x - y
  | 2 => x * y
  | 9 => x.tdiv y
  | _ => x.tmod y
def yma (o : Nat) (p q : Int × Int) (l1 l2 : yL) : Option ((Int × Int) × Option yL) := match o with
  | 0 => some ((p.1 + q.1, p.2 + q.2), yladd l1 l2)
  | 1 => some ((p.1 - q.2, p.2 - q.1), yladd l1 (ylneg l2))
  | 2 => some (ymul p q, if p.1 = p.2 then some (ylsc p.1 l2) else if q.1 = q.2 then some (ylsc q.1 l1) else none)
  | 9 => if 0 < q.1 ∧ 0 ≤ p.1 then some ((0, p.2), none) else none
  | 10 => if 0 < q.1 ∧ 0 ≤ p.1 then some ((0, ymin p.2 (q.2 - 1)), none) else none
  | _ => none
theorem yma_ok {r : Nat → Int} {n : Nat} {o : Nat} {p q : Int × Int} {l1 l2 : yL} (w1 : yw n l1) (w2 : yw n l2) (h1 : p.1 ≤ yev r l1 ∧ yev r l1 ≤ p.2) (h2 : q.1 ≤ yev r l2 ∧ yev r l2 ≤ q.2) {t : (Int × Int) × Option yL} (h : yma o p q l1 l2 = some t) :
    (t.1.1 ≤ ymo o (yev r l1) (yev r l2) ∧ ymo o (yev r l1) (yev r l2) ≤ t.1.2) ∧ ∀ l, t.2 = some l → yw n l ∧ yev r l = ymo o (yev r l1) (yev r l2) := by
  unfold yma at h
  split at h
  · cases h
    refine ⟨?_, fun l hl => yladd_ok w1 w2 hl⟩
    show p.1 + q.1 ≤ yev r l1 + yev r l2 ∧ yev r l1 + yev r l2 ≤ p.2 + q.2
    omega
  · cases h
    refine ⟨?_, fun l hl => ?_⟩
    · show p.1 - q.2 ≤ yev r l1 - yev r l2 ∧ yev r l1 - yev r l2 ≤ p.2 - q.1
      omega
    · obtain ⟨a, b⟩ := yladd_ok (r := r) w1 (ylneg_ok (r := r) w2).1 hl
      rw [(ylneg_ok w2).2] at b
      refine ⟨a, b.trans ?_⟩
      show _ = yev r l1 - yev r l2
      omega
  · cases h
    refine ⟨ymul_ok h1 h2, fun l hl => ?_⟩
    have hl : (if p.1 = p.2 then some (ylsc p.1 l2) else if q.1 = q.2 then some (ylsc q.1 l1) else none) = some l := hl
    show yw n l ∧ yev r l = yev r l1 * yev r l2
    split at hl
    · next e =>
      cases hl
      have : yev r l1 = p.1 := by omega
      rw [this]
      exact ylsc_ok _ w2
    · split at hl
      · next e =>
        cases hl
        have : yev r l2 = q.1 := by omega
        rw [this, Int.mul_comm]
        exact ylsc_ok _ w1
      · cases hl
  · split at h
    · next e =>
      cases h
      refine ⟨?_, fun l hl => by cases hl⟩
      have e1 : 0 ≤ yev r l1 := by omega
      have e2 : 0 ≤ yev r l2 := by omega
      show 0 ≤ (yev r l1).tdiv (yev r l2) ∧ (yev r l1).tdiv (yev r l2) ≤ p.2
      have := Int.tdiv_nonneg e1 e2
      have := Int.tdiv_le_self (yev r l2) e1
      omega
    · cases h
  · split at h
    · next e =>
      cases h
      refine ⟨?_, fun l hl => by cases hl⟩
      have e1 : 0 ≤ yev r l1 := by omega
      have e2 : 0 < yev r l2 := by omega
      show 0 ≤ (yev r l1).tmod (yev r l2) ∧ (yev r l1).tmod (yev r l2) ≤ ymin p.2 (q.2 - 1)
      have a1 := Int.tmod_nonneg (yev r l2) e1
      have a2 := Int.tmod_lt_of_pos (yev r l1) e2
      have a3 : (yev r l1).tmod (yev r l2) ≤ yev r l1 := by
        have := Int.tdiv_nonneg e1 (Int.le_of_lt e2)
        have := Int.mul_nonneg (Int.le_of_lt e2) this
        rw [Int.tmod_def]
        omega
      refine ⟨a1, ?_⟩
      unfold ymin
      split <;> omega
    · cases h
  · cases h
/-- within the machine's numbers (from -m on, below m), or anything -/
def yop (m : Int) (o : Nat) (p q : Int × Int) (l1 l2 : yL) : (Int × Int) × Option yL := match yma o p q l1 l2 with
  | some t => if -m ≤ t.1.1 ∧ t.1.2 < m then t else ((-m, m - 1), none)
  | none => ((-m, m - 1), none)
theorem yop_ok {r : Nat → Int} {n : Nat} {m : Int} {k : Nat} (hk : (k : Int) = 2 * m) {o : Nat} {p q : Int × Int} {l1 l2 : yL} (w1 : yw n l1) (w2 : yw n l2) (h1 : p.1 ≤ yev r l1 ∧ yev r l1 ≤ p.2) (h2 : q.1 ≤ yev r l2 ∧ yev r l2 ≤ q.2) {z : Int} (hz : z = (ymo o (yev r l1) (yev r l2)).bmod k) (hm : -m ≤ z ∧ z < m) :
    ((yop m o p q l1 l2).1.1 ≤ z ∧ z ≤ (yop m o p q l1 l2).1.2) ∧ ∀ l, (yop m o p q l1 l2).2 = some l → yw n l ∧ yev r l = z := by
  unfold yop
  split
  · next t ht =>
    have g := yma_ok w1 w2 h1 h2 ht
    split
    · next hb =>
      have e : z = ymo o (yev r l1) (yev r l2) := hz.trans (Int.bmod_eq_of_le_mul_two (by omega) (by omega))
      rw [e]
      exact g
    · exact ⟨⟨hm.1, by show z ≤ m - 1; omega⟩, fun l hl => by cases hl⟩
  · exact ⟨⟨hm.1, by show z ≤ m - 1; omega⟩, fun l hl => by cases hl⟩
def yfI (o : Nat) (x y : Int32) : Int32 := match o with
  | 0 => x + y
  | 1 => x - y
  | 2 => x * y
  | 3 => x &&& y
  | 4 => x ||| y
  | 5 => x ^^^ y
  | 6 => x <<< (y &&& 31)
  | 7 => x >>> (y &&& 31)
  | 8 => (x.toUInt32 >>> (y.toUInt32 &&& Int32.toUInt32 31)).toInt32
  | 9 => x / y
  | _ => x - x / y * y
def yfL (o : Nat) (x y : Int64) : Int64 := match o with
  | 0 => x + y
  | 1 => x - y
  | 2 => x * y
  | 3 => x &&& y
  | 4 => x ||| y
  | 9 => x / y
  | _ => x - x / y * y
theorem yfI_m {o : Nat} (ho : o < 3 ∨ o = 9 ∨ o = 10) (x y : Int32) : (yfI o x y).toInt = (ymo o x.toInt y.toInt).bmod (2 ^ 32) := by
  rcases ho with ho | rfl | rfl
  · match o, ho with
    | 0, _ => exact Int32.toInt_add x y
    | 1, _ => exact Int32.toInt_sub x y
    | 2, _ => exact Int32.toInt_mul x y
  · exact Int32.toInt_div x y
  · show (x - x / y * y).toInt = (x.toInt.tmod y.toInt).bmod (2 ^ 32)
    rw [Int32.toInt_sub, Int32.toInt_mul, Int32.toInt_div, Int.bmod_mul_bmod, Int.sub_bmod_bmod, Int.tmod_def, Int.mul_comm y.toInt]
theorem yfL_m {o : Nat} (ho : o < 3 ∨ o = 9 ∨ o = 10) (x y : Int64) : (yfL o x y).toInt = (ymo o x.toInt y.toInt).bmod (2 ^ 64) := by
  rcases ho with ho | rfl | rfl
  · match o, ho with
    | 0, _ => exact Int64.toInt_add x y
    | 1, _ => exact Int64.toInt_sub x y
    | 2, _ => exact Int64.toInt_mul x y
  · exact Int64.toInt_div x y
  · show (x - x / y * y).toInt = (x.toInt.tmod y.toInt).bmod (2 ^ 64)
    rw [Int64.toInt_sub, Int64.toInt_mul, Int64.toInt_div, Int.bmod_mul_bmod, Int.sub_bmod_bmod, Int.tmod_def, Int.mul_comm y.toInt]
theorem y32 (x : Int32) : -2147483648 ≤ x.toInt ∧ x.toInt < 2147483648 := ⟨x.le_toInt, x.toInt_lt⟩
theorem y64 (x : Int64) : -9223372036854775808 ≤ x.toInt ∧ x.toInt < 9223372036854775808 := ⟨x.le_toInt, x.toInt_lt⟩
theorem ynat {x : Int32} (h : 0 ≤ x.toInt) : x.toInt = (x.toBitVec.toNat : Int) ∧ x.toBitVec.toNat < 2147483648 := by
  have e : x.toInt = x.toBitVec.toInt := rfl
  rw [e, BitVec.toInt_eq_toNat_cond] at h ⊢
  have := x.toBitVec.isLt
  split at h <;> split <;> omega
theorem ynat_of {b : BitVec 32} (h : b.toNat < 2147483648) : b.toInt = (b.toNat : Int) := BitVec.toInt_eq_toNat_of_lt (by omega)
theorem yand_l {x y : Int32} (h : 0 ≤ x.toInt) : 0 ≤ (x &&& y).toInt ∧ (x &&& y).toInt ≤ x.toInt := by
  obtain ⟨h1, h2⟩ := ynat h
  have e : (x &&& y).toBitVec.toNat ≤ x.toBitVec.toNat := by
    rw [Int32.toBitVec_and, BitVec.toNat_and]
    exact Nat.and_le_left
  have e2 : (x &&& y).toInt = ((x &&& y).toBitVec.toNat : Int) := ynat_of (Nat.lt_of_le_of_lt e h2)
  rw [e2, h1]
  omega
theorem yand_r {x y : Int32} (h : 0 ≤ y.toInt) : 0 ≤ (x &&& y).toInt ∧ (x &&& y).toInt ≤ y.toInt := by
  obtain ⟨h1, h2⟩ := ynat h
  have e : (x &&& y).toBitVec.toNat ≤ y.toBitVec.toNat := by
    rw [Int32.toBitVec_and, BitVec.toNat_and]
    exact Nat.and_le_right
  have e2 : (x &&& y).toInt = ((x &&& y).toBitVec.toNat : Int) := ynat_of (Nat.lt_of_le_of_lt e h2)
  rw [e2, h1]
  omega
theorem yor_64 {x y : Int32} (h1 : 0 ≤ x.toInt) (h2 : x.toInt < 64) (h3 : 0 ≤ y.toInt) (h4 : y.toInt < 64) : 0 ≤ (x ||| y).toInt ∧ (x ||| y).toInt ≤ 63 := by
  obtain ⟨a1, a2⟩ := ynat h1
  obtain ⟨b1, b2⟩ := ynat h3
  have e : (x ||| y).toBitVec.toNat < 2 ^ 6 := by
    rw [Int32.toBitVec_or, BitVec.toNat_or]
    exact Nat.or_lt_two_pow (by show _ < 64; omega) (by show _ < 64; omega)
  have e3 : (x ||| y).toBitVec.toNat < 64 := e
  have e2 : (x ||| y).toInt = ((x ||| y).toBitVec.toNat : Int) := ynat_of (by omega)
  rw [e2]
  omega
theorem yshl_t : ∀ l, l < 31 → ((1 : Int32) <<< (Int32.ofInt (l : Nat) &&& 31)).toInt = 2 ^ l := by decide +kernel
theorem yofI {x : Int32} {k : Int} (h : x.toInt = k) : x = Int32.ofInt k := by rw [← h, Int32.ofInt_toInt]
theorem ypw {a b : Nat} (h : a ≤ b) : (2 : Int) ^ a ≤ 2 ^ b := by
  have := Nat.pow_le_pow_right (n := 2) (by decide) h
  have e : ∀ k : Nat, ((2 ^ k : Nat) : Int) = (2 : Int) ^ k := fun k => by simp
  rw [← e, ← e]
  omega
/-- of ints: 3 and, 4 or, 6 shl beside those of yop; what is not known may be anything -/
def yoI (o : Nat) (p q : Int × Int) (l1 l2 : yL) : (Int × Int) × Option yL :=
  if o < 9 ∧ p.1 = p.2 ∧ q.1 = q.2 then (((yfI o (Int32.ofInt p.1) (Int32.ofInt q.1)).toInt, (yfI o (Int32.ofInt p.1) (Int32.ofInt q.1)).toInt), none) else
  if o < 3 ∨ o = 9 ∨ o = 10 then yop 2147483648 o p q l1 l2 else
  if o = 3 ∧ 0 ≤ p.1 ∧ 0 ≤ q.1 then ((0, ymin p.2 q.2), none) else
  if o = 3 ∧ 0 ≤ p.1 then ((0, p.2), none) else
  if o = 3 ∧ 0 ≤ q.1 then ((0, q.2), none) else
  if o = 4 ∧ 0 ≤ p.1 ∧ p.2 < 64 ∧ 0 ≤ q.1 ∧ q.2 < 64 then ((0, 63), none) else
  if o = 6 ∧ p.1 = 1 ∧ p.2 = 1 ∧ 0 ≤ q.1 ∧ q.2 ≤ 30 then ((2 ^ q.1.toNat, 2 ^ q.2.toNat), none) else
  ((-2147483648, 2147483647), none)
theorem yoI_ok {r : Nat → Int} {n : Nat} {o : Nat} {p q : Int × Int} {l1 l2 : yL} {x y : Int32} (w1 : yw n l1) (w2 : yw n l2) (hx : x.toInt = yev r l1) (hy : y.toInt = yev r l2) (h1 : p.1 ≤ yev r l1 ∧ yev r l1 ≤ p.2) (h2 : q.1 ≤ yev r l2 ∧ yev r l2 ≤ q.2) :
    ((yoI o p q l1 l2).1.1 ≤ (yfI o x y).toInt ∧ (yfI o x y).toInt ≤ (yoI o p q l1 l2).1.2) ∧ ∀ l, (yoI o p q l1 l2).2 = some l → yw n l ∧ yev r l = (yfI o x y).toInt := by
  have hz := y32 (yfI o x y)
  have nl : ∀ {P : yL → Prop}, ∀ l, (none : Option yL) = some l → P l := fun l hl => by cases hl
  unfold yoI
  split
  · next h =>
    have e1 : x = Int32.ofInt p.1 := yofI (by omega)
    have e2 : y = Int32.ofInt q.1 := yofI (by omega)
    rw [e1, e2]
    exact ⟨⟨Int.le_refl _, Int.le_refl _⟩, nl⟩
  split
  · next h =>
    refine yop_ok (k := 2 ^ 32) (by decide) w1 w2 h1 h2 ?_ hz
    rw [← hx, ← hy]
    exact yfI_m h x y
  split
  · next h =>
    obtain ⟨rfl, h3, h4⟩ := h
    have a := yand_l (x := x) (y := y) (by omega)
    have b := yand_r (x := x) (y := y) (by omega)
    refine ⟨⟨a.1, ?_⟩, nl⟩
    show (x &&& y).toInt ≤ ymin p.2 q.2
    unfold ymin
    split <;> omega
  split
  · next h =>
    obtain ⟨rfl, h3⟩ := h
    have a := yand_l (x := x) (y := y) (by omega)
    exact ⟨⟨a.1, by show (x &&& y).toInt ≤ p.2; omega⟩, nl⟩
  split
  · next h =>
    obtain ⟨rfl, h3⟩ := h
    have a := yand_r (x := x) (y := y) (by omega)
    exact ⟨⟨a.1, by show (x &&& y).toInt ≤ q.2; omega⟩, nl⟩
  split
  · next h =>
    obtain ⟨rfl, h3⟩ := h
    exact ⟨yor_64 (by omega) (by omega) (by omega) (by omega), nl⟩
  split
  · next h =>
    obtain ⟨rfl, h3, h4, h5, h6⟩ := h
    have e1 : x = 1 := by
      rw [yofI (show x.toInt = 1 by omega)]
      rfl
    obtain ⟨k, hk⟩ : ∃ k : Nat, yev r l2 = (k : Int) := ⟨(yev r l2).toNat, by omega⟩
    have e2 : y = Int32.ofInt (k : Nat) := yofI (by omega)
    have e3 : (yfI 6 x y).toInt = 2 ^ k := by
      rw [e1, e2]
      exact yshl_t k (by omega)
    rw [e3]
    exact ⟨⟨ypw (by omega), ypw (by omega)⟩, nl⟩
  · exact ⟨⟨hz.1, by show (yfI o x y).toInt ≤ 2147483647; omega⟩, nl⟩
def yoL (o : Nat) (p q : Int × Int) (l1 l2 : yL) : (Int × Int) × Option yL :=
  if o < 3 ∨ o = 9 ∨ o = 10 then yop 9223372036854775808 o p q l1 l2 else ((-9223372036854775808, 9223372036854775807), none)
theorem yoL_ok {r : Nat → Int} {n : Nat} {o : Nat} {p q : Int × Int} {l1 l2 : yL} {x y : Int64} (w1 : yw n l1) (w2 : yw n l2) (hx : x.toInt = yev r l1) (hy : y.toInt = yev r l2) (h1 : p.1 ≤ yev r l1 ∧ yev r l1 ≤ p.2) (h2 : q.1 ≤ yev r l2 ∧ yev r l2 ≤ q.2) :
    ((yoL o p q l1 l2).1.1 ≤ (yfL o x y).toInt ∧ (yfL o x y).toInt ≤ (yoL o p q l1 l2).1.2) ∧ ∀ l, (yoL o p q l1 l2).2 = some l → yw n l ∧ yev r l = (yfL o x y).toInt := by
  have hz := y64 (yfL o x y)
  unfold yoL
  split
  · next h =>
    refine yop_ok (k := 2 ^ 64) (by decide) w1 w2 h1 h2 ?_ hz
    rw [← hx, ← hy]
    exact yfL_m h x y
  · exact ⟨⟨hz.1, by show (yfL o x y).toInt ≤ 9223372036854775807; omega⟩, fun l hl => by cases hl⟩
