section
/-! The village that both hold: pure functions of it, and the methods that only look. s: the reference's row. -/
def sI (s : Nat → Int32) (j : Nat) : Int := (s j).toInt
def R32 (s c : Nat → Int32) : Prop := vR (sI s) c
def pB (b : Bool) : Int32 := if b = true then 1 else 0
/-- is it a tool's, work's, house's number (k: where how many there are stands) -/
def pin (s : Nat → Int32) (k : Nat) (v : Int32) : Bool := decide (0 ≤ v.toInt) && decide (v.toInt < (s k).toInt)
def phm (s : Nat → Int32) (t : Nat) : Bool := s (10 + 6 * t + 3) == s (10 + 6 * t)
def prs (s : Nat → Int32) (t : Nat) : Int32 := if phm s t = true ∨ (s (10 + 6 * t + 5) - s 1).toInt < 0 then 0 else s (10 + 6 * t + 5) - s 1
def psh0 (s : Nat → Int32) (t : Nat) (more : Int32) : Int32 := if (s (10 + 6 * t + 2) + s (10 + 6 * t + 4) + more - prs s t).toInt < 0 then 0 else s (10 + 6 * t + 2) + s (10 + 6 * t + 4) + more - prs s t
def psh (s : Nat → Int32) (t : Nat) (more : Int32) : Int32 := if more = 0 ∧ phm s t = true then 0 else psh0 s t more
def pdn (s : Nat → Int32) (w : Nat) : Bool := decide (0 ≤ (s (118 + w)).toInt)
def pfit (s : Nat → Int32) (w t : Nat) : Bool := s (10 + 6 * t + 1) == s (124 + 4 * w + 1) && (s (10 + 6 * t + 3) == s (124 + 4 * w) && decide ((s (124 + 4 * w + 2)).toInt ≤ (psh s t 0).toInt))
def pcd (s : Nat → Int32) (w : Nat) : Bool := !pdn s w && (List.range (s 2).toInt.toNat).any (pfit s w)
def ptr (s : Nat → Int32) (a d : Nat) : Bool := s (46 + 6 * a + d) == 1
/-- may it be lent there -/
def pcl (s : Nat → Int32) (t h : Nat) : Bool := !(s (10 + 6 * t + 3) == Int32.ofNat h) && (!(s (10 + 6 * t) == Int32.ofNat h) && ptr s (s (10 + 6 * t + 3)).toInt.toNat h)
/-- what holds of a village at all times: numbers, tools, works, trust and thanks -/
def vIa (s : Nat → Int32) : Prop := (((s 0).toInt = 0 ∨ 2 ≤ (s 0).toInt) ∧ (s 0).toInt ≤ 6) ∧ 0 ≤ (s 1).toInt ∧ (0 ≤ (s 2).toInt ∧ (s 2).toInt ≤ 6) ∧ (0 ≤ (s 3).toInt ∧ (s 3).toInt ≤ 6) ∧ (0 ≤ (s 4).toInt ∧ (s 4).toInt ≤ 2000)
def vIt (s : Nat → Int32) : Prop := ∀ t : Nat, (t : Int) < (s 2).toInt → (0 ≤ (s (10 + 6 * t)).toInt ∧ (s (10 + 6 * t)).toInt < (s 0).toInt) ∧ (0 ≤ (s (10 + 6 * t + 3)).toInt ∧ (s (10 + 6 * t + 3)).toInt < (s 0).toInt) ∧ (s (10 + 6 * t + 3) = s (10 + 6 * t) → s (10 + 6 * t + 4) = 0 ∧ s (10 + 6 * t + 5) = 0) ∧ (0 ≤ (s (10 + 6 * t + 5)).toInt ∧ (s (10 + 6 * t + 5)).toInt ≤ (s 4).toInt)
def vIw (s : Nat → Int32) : Prop := ∀ w : Nat, (w : Int) < (s 3).toInt → (0 ≤ (s (124 + 4 * w)).toInt ∧ (s (124 + 4 * w)).toInt < (s 0).toInt) ∧ -1 ≤ (s (118 + w)).toInt
def vIh (s : Nat → Int32) : Prop := (∀ a : Nat, a < 6 → s (46 + 6 * a + a) = 0 ∧ s (82 + 6 * a + a) = 0) ∧ (∀ a d : Nat, a < 6 → d < 6 → 0 ≤ (s (82 + 6 * a + d)).toInt ∧ (s (82 + 6 * a + d)).toInt ≤ 99)
def vI (s : Nat → Int32) : Prop := vIa s ∧ vIt s ∧ vIw s ∧ vIh s
theorem I_n6 {s : Nat → Int32} (I : vI s) : (s 0).toInt ≤ 6 := I.1.1.2
theorem I_n0 {s : Nat → Int32} (I : vI s) : (s 0).toInt = 0 ∨ 2 ≤ (s 0).toInt := I.1.1.1
theorem I_late {s : Nat → Int32} (I : vI s) : 0 ≤ (s 1).toInt := I.1.2.1
theorem I_nt {s : Nat → Int32} (I : vI s) : 0 ≤ (s 2).toInt ∧ (s 2).toInt ≤ 6 := I.1.2.2.1
theorem I_nw {s : Nat → Int32} (I : vI s) : 0 ≤ (s 3).toInt ∧ (s 3).toInt ≤ 6 := I.1.2.2.2.1
/-- and the day is one of the document's -/
def vI9 (s : Nat → Int32) : Prop := vI s ∧ (s 4).toInt ≤ 999
theorem I_day {s : Nat → Int32} (I : vI s) : 0 ≤ (s 4).toInt ∧ (s 4).toInt ≤ 2000 := I.1.2.2.2.2
theorem xP_bp {α β : Type} {o : Option (α × xS)} {f : α × xS → Option (β × xS)} {a : α} {m : xS} {Q : β → xS → Prop} (h : o = some (a, m)) (k : xP (f (a, m)) Q) : xP (o.bind f) Q := by
  rw [h]
  exact k
theorem ob {α β : Type} {o : Option (α × xS)} {f : α × xS → Option (β × xS)} {a : α} {m : xS} {r : Option (β × xS)} (h : o = some (a, m)) (k : f (a, m) = r) : o.bind f = r := by
  rw [h]
  exact k
theorem oi {α : Type} {c p : Bool} {a b r : Option α} (h : c = p) (h1 : p = true → a = r) (h2 : p = false → b = r) : (if c = true then a else b) = r := by
  subst h
  cases c with
  | true => exact h1 rfl
  | false => exact h2 rfl
theorem pB1 {b : Bool} : zcmp .eq (pB b) 0 = !b := by cases b <;> rfl
theorem pB2 {b : Bool} : zcmp .ne (pB b) 0 = b := by cases b <;> rfl
section GX
theorem gxn {e : Int32} {n : Nat} (h : e.toInt = (n : Int)) : e.toNatClampNeg = n := by show e.toInt.toNat = n; omega
theorem gxb {e : Int32} {n len : Nat} (h : e.toInt = (n : Int)) (l : n < len) : xib e len = true := xib_t (by omega) (by omega)
theorem nJ {n : Nat} (h : n < 2000) : (Int32.ofNat n).toInt = (n : Int) := xI (by omega)
theorem ix6 {A : Int32} {B a d : Nat} (hA : A.toInt = (B : Int)) (hB : B ≤ 1000) (ha : a < 7) (hd : d < 7) : (A + 6 * Int32.ofNat a + Int32.ofNat d).toInt = ((B + 6 * a + d : Nat) : Int) := ixH hA hB (nJ (by omega)) (nJ (by omega)) (by omega) (by omega)
theorem ix4 {a d : Nat} (ha : a < 7) (hd : d < 7) : ((124 : Int32) + 4 * Int32.ofNat a + Int32.ofNat d).toInt = ((124 + 4 * a + d : Nat) : Int) := ixp (ixW (nJ (by omega)) (by omega)) (nJ (by omega)) (by omega)
theorem ix1 {A : Int32} {B d : Nat} (hA : A.toInt = (B : Int)) (hB : B ≤ 1000) (hd : d < 200) : (A + Int32.ofNat d).toInt = ((B + d : Nat) : Int) := ixp hA (nJ (by omega)) (by omega)
theorem zc {x y : Int32} : zcmp .ge x y = decide (y.toInt ≤ x.toInt) := decide_eq_decide.mpr Int32.le_iff_toInt_le
theorem zcl {x y : Int32} : zcmp .lt x y = decide (x.toInt < y.toInt) := decide_eq_decide.mpr Int32.lt_iff_toInt_lt
theorem zcle {x y : Int32} : zcmp .le x y = decide (x.toInt ≤ y.toInt) := decide_eq_decide.mpr Int32.le_iff_toInt_le
theorem zcgt {x y : Int32} : zcmp .gt x y = decide (y.toInt < x.toInt) := decide_eq_decide.mpr Int32.lt_iff_toInt_lt
theorem zce {x y : Int32} : zcmp .eq x y = (x == y) := by
  show decide (x = y) = _
  by_cases h : x = y
  · subst h; simp
  · simp [h]
theorem zcn {x y : Int32} : zcmp .ne x y = !(x == y) := by
  show decide (¬ x = y) = _
  by_cases h : x = y
  · subst h; simp
  · simp [h]
/-- which bit: as class and checker ask -/
theorem tbq {x : Int32} {d : Nat} (h0 : 0 ≤ x.toInt) (h1 : x.toInt ≤ 63) (hd : d < 6) : zcmp .eq ((x >>> (Int32.ofNat d &&& 31)) &&& 1) 0 = !tbt x d := by
  have key : (List.range 64).all (fun x => (List.range 6).all (fun d => zcmp .eq ((Int32.ofNat x >>> (Int32.ofNat d &&& 31)) &&& 1) 0 == !tbt (Int32.ofNat x) d)) = true := by decide +kernel
  have e : x = Int32.ofNat x.toInt.toNat := i32n (by omega)
  have k1 := List.all_eq_true.mp (List.all_eq_true.mp key x.toInt.toNat (List.mem_range.mpr (by omega))) d (List.mem_range.mpr hd)
  rw [← e] at k1
  exact eq_of_beq k1
end GX
section RX
variable {s c : Nat → Int32}
theorem R_j (R : R32 s c) {j : Nat} (h : j < 6) : c j = s j := Int32.toInt_inj.mp (R.1 j h)
theorem R_t (R : R32 s c) {t w : Nat} (ht : t < 6) (hw : w < 6) : c (6 + 6 * w + t) = s (10 + 6 * t + w) := Int32.toInt_inj.mp (R.2.1 t w ht hw)
theorem R_w (R : R32 s c) {w k : Nat} (hw : w < 6) (hk : k < 4) : c (42 + 6 * k + w) = s (124 + 4 * w + k) := Int32.toInt_inj.mp (R.2.2.1 w k hw hk)
theorem R_d (R : R32 s c) {w : Nat} (hw : w < 6) (h : (w : Int) < (s 3).toInt) : c (66 + w) = s (118 + w) := Int32.toInt_inj.mp (R.2.2.2.1 w hw h)
theorem R_tr (R : R32 s c) {a d : Nat} (ha : a < 6) (hd : d < 6) : tbt (c (72 + a)) d = ptr s a d := by
  have h : (s (46 + 6 * a + d)).toInt = (if tbt (c (72 + a)) d = true then 1 else 0) := R.2.2.2.2.1 a d ha hd
  unfold ptr
  cases e : tbt (c (72 + a)) d with
  | true =>
    rw [e] at h
    have : s (46 + 6 * a + d) = 1 := Int32.toInt_inj.mp h
    rw [this]
    rfl
  | false =>
    rw [e] at h
    have : s (46 + 6 * a + d) = 0 := Int32.toInt_inj.mp h
    rw [this]
    rfl
theorem R_h (R : R32 s c) {a d : Nat} (ha : a < 6) (hd : d < 6) : c (78 + 6 * a + d) = s (82 + 6 * a + d) := Int32.toInt_inj.mp (R.2.2.2.2.2 a d ha hd)
end RX
theorem pin_iff {s : Nat → Int32} {k : Nat} {v : Int32} : pin s k v = true ↔ 0 ≤ v.toInt ∧ v.toInt < (s k).toInt := by
  unfold pin
  simp only [Bool.and_eq_true, decide_eq_true_eq]
theorem pin_n {s : Nat → Int32} {k : Nat} {v : Int32} (h : pin s k v = true) : ∃ t : Nat, v = Int32.ofNat t ∧ (t : Int) < (s k).toInt := by
  have h := pin_iff.mp h
  exact ⟨v.toInt.toNat, i32n (by omega), by omega⟩
/-- the class's bits stay small -/
theorem b63 {m : xS} (hT : xT m) {r a : Nat} (hr : yty r = (1, 0, 114, 1, [])) (r88 : r < 88) (ha : a < 6) : 0 ≤ (m.1 r (72 + a)).toInt ∧ (m.1 r (72 + a)).toInt ≤ 63 := by
  have e0 : xbn r (72 + a) = some (yel 1 (72 + a)) := xbn_a (k := 0) (n := 114) (ec := 1) r88 hr (by decide) (by omega)
  have e2 : yel 1 (72 + a) = (0, 63) := by
    have e : yel 1 (72 + a) = if 72 + a = 0 ∨ 72 + a = 2 ∨ 72 + a = 3 then (0, 6) else if (6 ≤ 72 + a ∧ 72 + a < 12) ∨ (24 ≤ 72 + a ∧ 72 + a < 30) ∨ (42 ≤ 72 + a ∧ 72 + a < 48) then (0, 5) else if 72 ≤ 72 + a ∧ 72 + a < 78 then (0, 63) else (-2147483648, 2147483647) := rfl
    rw [e, if_neg (by omega), if_neg (by omega), if_pos (by omega)]
  rw [e2] at e0
  exact hT r (72 + a) _ e0
end
section
/-! The class looks. -/
theorem mx0 {x : Int32} : (if (0 : Int32) < x then x else 0) = if x.toInt < 0 then 0 else x := by
  by_cases l : x.toInt < 0
  · rw [if_pos l, if_neg (fun q => by
      have q : (0 : Int) < x.toInt := Int32.lt_iff_toInt_lt.mp q
      omega)]
  · rw [if_neg l]
    by_cases e : x.toInt = 0
    · rw [if_neg (fun q => by
        have q : (0 : Int) < x.toInt := Int32.lt_iff_toInt_lt.mp q
        omega)]
      exact (Int32.toInt_inj.mp e).symm
    · rw [if_pos (Int32.lt_iff_toInt_lt.mpr (by show (0 : Int) < _; omega))]
section CG_9
variable {s : Nat → Int32} {m : xS} {F : Nat}
theorem c79_9 (R : R32 s (m.1 10)) : D79_9 F m = some (s 2, m) := by
  unfold D79_9
  rw [R_j R (by decide)]
theorem c80_9 (R : R32 s (m.1 10)) : D80_9 F m = some (s 3, m) := by
  unfold D80_9
  rw [R_j R (by decide)]
theorem c77_9 (R : R32 s (m.1 10)) : D77_9 F m = some (s 0, m) := by
  unfold D77_9
  rw [R_j R (by decide)]
theorem c78_9 (R : R32 s (m.1 10)) : D78_9 F m = some (s 1, m) := by
  unfold D78_9
  rw [R_j R (by decide)]
theorem c81_9 (R : R32 s (m.1 10)) : D81_9 F m = some (s 4, m) := by
  unfold D81_9
  rw [R_j R (by decide)]
theorem c82_9 (R : R32 s (m.1 10)) : D82_9 F m = some (s 5, m) := by
  unfold D82_9
  rw [R_j R (by decide)]
theorem c83_9 (R : R32 s (m.1 10)) {v : Int32} : D83_9 F v m = some (pB (pin s 2 v), m) := by
  unfold D83_9 D83_9_16
  refine oi (p := decide (v.toInt < 0)) zcl (fun h => ?_) (fun h => ob (c79_9 R) (oi (p := decide ((s 2).toInt ≤ v.toInt)) zc (fun h2 => ?_) (fun h2 => ?_)))
  · have h := of_decide_eq_true h
    rw [show pin s 2 v = false by unfold pin; rw [decide_eq_false (by omega), Bool.false_and]]
    rfl
  · have h2 := of_decide_eq_true h2
    rw [show pin s 2 v = false by unfold pin; rw [decide_eq_false (p := v.toInt < (s 2).toInt) (by omega), Bool.and_false]]
    rfl
  · have h := of_decide_eq_false h
    have h2 := of_decide_eq_false h2
    rw [pin_iff.mpr (by omega)]
    rfl
theorem c84_9 (R : R32 s (m.1 10)) {v : Int32} : D84_9 F v m = some (pB (pin s 3 v), m) := by
  unfold D84_9 D84_9_16
  refine oi (p := decide (v.toInt < 0)) zcl (fun h => ?_) (fun h => ob (c80_9 R) (oi (p := decide ((s 3).toInt ≤ v.toInt)) zc (fun h2 => ?_) (fun h2 => ?_)))
  · have h := of_decide_eq_true h
    rw [show pin s 3 v = false by unfold pin; rw [decide_eq_false (by omega), Bool.false_and]]
    rfl
  · have h2 := of_decide_eq_true h2
    rw [show pin s 3 v = false by unfold pin; rw [decide_eq_false (p := v.toInt < (s 3).toInt) (by omega), Bool.and_false]]
    rfl
  · have h := of_decide_eq_false h
    have h2 := of_decide_eq_false h2
    rw [pin_iff.mpr (by omega)]
    rfl
theorem c85_9 (R : R32 s (m.1 10)) {v : Int32} : D85_9 F v m = some (pB (pin s 0 v), m) := by
  unfold D85_9 D85_9_16
  refine oi (p := decide (v.toInt < 0)) zcl (fun h => ?_) (fun h => ob (c77_9 R) (oi (p := decide ((s 0).toInt ≤ v.toInt)) zc (fun h2 => ?_) (fun h2 => ?_)))
  · have h := of_decide_eq_true h
    rw [show pin s 0 v = false by unfold pin; rw [decide_eq_false (by omega), Bool.false_and]]
    rfl
  · have h2 := of_decide_eq_true h2
    rw [show pin s 0 v = false by unfold pin; rw [decide_eq_false (p := v.toInt < (s 0).toInt) (by omega), Bool.and_false]]
    rfl
  · have h := of_decide_eq_false h
    have h2 := of_decide_eq_false h2
    rw [pin_iff.mpr (by omega)]
    rfl
theorem c87_9 (R : R32 s (m.1 10)) {t w : Nat} {v1 v2 : Int32} (h1 : v1 = Int32.ofNat t) (h2 : v2 = Int32.ofNat w) (ht : t < 6) (hw : w < 6) : D87_9 F v1 v2 m = some (s (10 + 6 * t + w), m) := by
  subst h1
  subst h2
  have i := ix6 (A := 6) (B := 6) (a := w) (d := t) rfl (by decide) (by omega) (by omega)
  unfold D87_9
  rw [gxn i, if_pos (gxb i (by omega)), R_t R ht hw]
theorem c89_9 (R : R32 s (m.1 10)) {w k : Nat} {v1 v2 : Int32} (h1 : v1 = Int32.ofNat w) (h2 : v2 = Int32.ofNat k) (hw : w < 6) (hk : k < 4) : D89_9 F v1 v2 m = some (s (124 + 4 * w + k), m) := by
  subst h1
  subst h2
  have i := ix6 (A := 42) (B := 42) (a := k) (d := w) rfl (by decide) (by omega) (by omega)
  unfold D89_9
  rw [gxn i, if_pos (gxb i (by omega)), R_w R hw hk]
theorem c89d_9 (R : R32 s (m.1 10)) {w : Nat} {v1 : Int32} (h1 : v1 = Int32.ofNat w) (hw : w < 6) (h3 : (w : Int) < (s 3).toInt) : D89_9 F v1 4 m = some (s (118 + w), m) := by
  subst h1
  have i := ix6 (A := 42) (B := 42) (a := 4) (d := w) rfl (by decide) (by omega) (by omega)
  have i : ((42 : Int32) + 6 * 4 + Int32.ofNat w).toInt = ((66 + w : Nat) : Int) := i
  unfold D89_9
  rw [gxn i, if_pos (gxb i (by omega)), R_d R hw h3]
theorem c97_9 (R : R32 s (m.1 10)) {t : Nat} {v1 : Int32} (h1 : v1 = Int32.ofNat t) (ht : t < 6) : D97_9 F v1 m = some (pB (phm s t), m) := by
  unfold D97_9
  refine ob (c87_9 R h1 (w := 3) rfl ht (by decide)) (ob (c87_9 R h1 (w := 0) rfl ht (by decide)) (oi (p := !phm s t) zcn (fun h => ?_) (fun h => ?_)))
  · rw [show phm s t = false by simpa using h]
    rfl
  · rw [show phm s t = true by simpa using h]
    rfl
theorem c98_9 (R : R32 s (m.1 10)) (I : vI s) {t : Nat} {v1 : Int32} (h1 : v1 = Int32.ofNat t) (ht : (t : Int) < (s 2).toInt) : D98_9 F v1 m = some (prs s t, m) := by
  have t6 : t < 6 := by have := I_nt I; omega
  unfold D98_9
  refine ob (c87_9 R h1 (w := 5) rfl t6 (by decide)) (ob (c78_9 R) ?_)
  refine congrArg (fun z => some (z, m)) ?_
  dsimp only
  unfold prs
  rw [mx0]
  by_cases hm : phm s t = true
  · have z := (I.2.1 t ht).2.2.1 (eq_of_beq hm)
    have l0 := I_late I
    rw [if_pos (Or.inl hm), z.2]
    by_cases l : ((0 : Int32) - s 1).toInt < 0
    · rw [if_pos l]
    · rw [if_neg l]
      have e : ((0 : Int32) - s 1).toInt = 0 - (s 1).toInt := xs1 (by show _ ≤ (0 : Int) - _; have := y32 (s 1); omega) (by show (0 : Int) - _ ≤ _; omega)
      exact Int32.toInt_inj.mp (by show _ = (0 : Int); omega)
  · by_cases l : (s (10 + 6 * t + 5) - s 1).toInt < 0
    · rw [if_pos (Or.inr l), if_pos l]
    · rw [if_neg (fun z => Or.elim z hm l), if_neg l]
theorem c100_14_9 (R : R32 s (m.1 10)) (I : vI s) {t : Nat} {v1 v2 : Int32} (h1 : v1 = Int32.ofNat t) (ht : (t : Int) < (s 2).toInt) : D100_9_14 F v1 v2 m = some (psh0 s t v2, m) := by
  have t6 : t < 6 := by have := I_nt I; omega
  unfold D100_9_14
  refine ob (c87_9 R h1 (w := 2) rfl t6 (by decide)) (ob (c87_9 R h1 (w := 4) rfl t6 (by decide)) (ob (c98_9 R I h1 ht) ?_))
  refine congrArg (fun z => some (z, m)) ?_
  dsimp only
  unfold psh0
  generalize s (10 + 6 * t + 2) + s (10 + 6 * t + 4) + v2 - prs s t = x
  rw [mx0]
theorem c100_9 (R : R32 s (m.1 10)) (I : vI s) {t : Nat} {v1 v2 : Int32} (h1 : v1 = Int32.ofNat t) (ht : (t : Int) < (s 2).toInt) : D100_9 F v1 v2 m = some (psh s t v2, m) := by
  have t6 : t < 6 := by have := I_nt I; omega
  unfold D100_9 psh
  refine oi (p := !(v2 == 0)) zcn (fun h => ?_) (fun h => ?_)
  · have h : ¬ v2 = 0 := by simpa using h
    rw [if_neg (fun z => h z.1)]
    exact c100_14_9 R I h1 ht
  · have h : v2 = 0 := by simpa using h
    refine ob (c97_9 R h1 t6) (oi (p := !phm s t) pB1 (fun h2 => ?_) (fun h2 => ?_))
    · have h2 : phm s t = false := by simpa using h2
      rw [if_neg (fun z => by rw [h2] at z; cases z.2)]
      exact c100_14_9 R I h1 ht
    · have h2 : phm s t = true := by simpa using h2
      rw [if_pos ⟨h, h2⟩]
theorem c99_9 (R : R32 s (m.1 10)) (I : vI s) {t : Nat} {v1 : Int32} (h1 : v1 = Int32.ofNat t) (ht : (t : Int) < (s 2).toInt) : D99_9 F v1 m = some (psh s t 0, m) := by
  unfold D99_9
  exact ob (c100_9 R I h1 ht) rfl
theorem c106_9 (R : R32 s (m.1 10)) (I : vI s) {w : Nat} {v1 : Int32} (h1 : v1 = Int32.ofNat w) (hw : (w : Int) < (s 3).toInt) : D106_9 F v1 m = some (pB (pdn s w), m) := by
  have w6 : w < 6 := by have := (I_nw I); omega
  have l := (I.2.2.1 w hw).2
  unfold D106_9
  refine ob (c89d_9 R h1 w6 hw) (oi (p := s (118 + w) == -1) zce (fun h => ?_) (fun h => ?_))
  · have h : s (118 + w) = -1 := by simpa using h
    rw [show pdn s w = false by unfold pdn; rw [h]; decide]
    rfl
  · have h : ¬ s (118 + w) = -1 := by simpa using h
    have : (s (118 + w)).toInt ≠ -1 := fun z => h (Int32.toInt_inj.mp z)
    rw [show pdn s w = true by unfold pdn; exact decide_eq_true (by omega)]
    rfl
theorem c107_12_9 (R : R32 s (m.1 10)) (I : vI s) {w : Nat} {v1 : Int32} (h1 : v1 = Int32.ofNat w) (hw : (w : Int) < (s 3).toInt) : ∀ (f : Nat) {t : Nat}, (t : Int) ≤ (s 2).toInt → 6 - t < f → D107_9_12 F f v1 (Int32.ofNat t) m = some (pB ((List.range' t ((s 2).toInt.toNat - t)).any (pfit s w)), m) := by
  have w6 : w < 6 := by have := (I_nw I); omega
  have n6 := I_nt I
  intro f
  induction f with
  | zero => intro t _ l; omega
  | succ f ih =>
    intro t ht l
    have et := nJ (n := t) (by omega)
    unfold D107_9_12
    refine ob (c79_9 R) (oi (p := decide ((s 2).toInt ≤ (Int32.ofNat t).toInt)) zc (fun h => ?_) (fun h => ?_))
    · have h := of_decide_eq_true h
      rw [show (s 2).toInt.toNat - t = 0 by omega]
      rfl
    · have h := of_decide_eq_false h
      have t2 : (t : Int) < (s 2).toInt := by omega
      have next : D107_9_66 F (D107_9_12 F f) v1 (Int32.ofNat t) m = some (pB ((List.range' (t + 1) ((s 2).toInt.toNat - (t + 1))).any (pfit s w)), m) := by
        unfold D107_9_66
        rw [show Int32.ofNat t + Int32.ofInt 1 = Int32.ofNat (t + 1) from xadd (a := t) (b := 1) (by omega)]
        exact ih (by omega) (by omega)
      rw [show (s 2).toInt.toNat - t = ((s 2).toInt.toNat - (t + 1)) + 1 by omega, List.range'_succ, List.any_cons]
      refine ob (c87_9 R (t := t) (w := 1) rfl rfl (by omega) (by decide)) (ob (c89_9 R h1 (k := 1) rfl w6 (by decide)) (oi (p := !(s (10 + 6 * t + 1) == s (124 + 4 * w + 1))) zcn (fun a => ?_) (fun a => ?_)))
      · rw [show pfit s w t = false by unfold pfit; rw [show (s (10 + 6 * t + 1) == s (124 + 4 * w + 1)) = false by simpa using a, Bool.false_and], Bool.false_or]
        exact next
      have a : (s (10 + 6 * t + 1) == s (124 + 4 * w + 1)) = true := by simpa using a
      refine ob (c87_9 R (t := t) (w := 3) rfl rfl (by omega) (by decide)) (ob (c89_9 R h1 (k := 0) rfl w6 (by decide)) (oi (p := !(s (10 + 6 * t + 3) == s (124 + 4 * w))) zcn (fun b => ?_) (fun b => ?_)))
      · rw [show pfit s w t = false by unfold pfit; rw [show (s (10 + 6 * t + 3) == s (124 + 4 * w)) = false by simpa using b, Bool.false_and, Bool.and_false], Bool.false_or]
        exact next
      have b : (s (10 + 6 * t + 3) == s (124 + 4 * w)) = true := by simpa using b
      refine ob (c99_9 R I (t := t) rfl t2) (ob (c89_9 R h1 (k := 2) rfl w6 (by decide)) (oi (p := decide ((psh s t 0).toInt < (s (124 + 4 * w + 2)).toInt)) zcl (fun g => ?_) (fun g => ?_)))
      · have g := of_decide_eq_true g
        rw [show pfit s w t = false by unfold pfit; rw [a, b, decide_eq_false (by omega)]; rfl, Bool.false_or]
        exact next
      · have g := of_decide_eq_false g
        rw [show pfit s w t = true by unfold pfit; rw [a, b, decide_eq_true (by omega)]; rfl, Bool.true_or]
        rfl
theorem c107_9 (hF : 500 ≤ F) (R : R32 s (m.1 10)) (I : vI s) {w : Nat} {v1 : Int32} (h1 : v1 = Int32.ofNat w) (hw : (w : Int) < (s 3).toInt) : D107_9 F v1 m = some (pB (pcd s w), m) := by
  have n6 := I_nt I
  unfold D107_9 pcd
  refine ob (c106_9 R I h1 hw) (oi (p := !pdn s w) pB1 (fun h => ?_) (fun h => ?_))
  · have z := c107_12_9 (F := F) R I h1 hw F (t := 0) (by omega) (by omega)
    rw [Nat.sub_zero, ← List.range_eq_range'] at z
    rw [h, Bool.true_and]
    exact z
  · rw [h, Bool.false_and]
    rfl
theorem c91_9 (R : R32 s (m.1 10)) {a : Nat} {v1 : Int32} (h1 : v1 = Int32.ofNat a) (ha : a < 6) : D91_9 F v1 m = some (m.1 10 (72 + a), m) := by
  subst h1
  have i := ix1 (A := 72) (B := 72) (d := a) rfl (by decide) (by omega)
  unfold D91_9
  rw [gxn i, if_pos (gxb i (by omega))]
theorem c92_9 (hT : xT m) (R : R32 s (m.1 10)) {a d : Nat} {v1 v2 : Int32} (h1 : v1 = Int32.ofNat a) (h2 : v2 = Int32.ofNat d) (ha : a < 6) (hd : d < 6) : D92_9 F v1 v2 m = some (pB (ptr s a d), m) := by
  have b := b63 hT (r := 10) rfl (by decide) ha
  subst h2
  unfold D92_9
  refine ob (c91_9 R h1 ha) (oi (p := !ptr s a d) ?_ (fun h => ?_) (fun h => ?_))
  · rw [tbq b.1 b.2 hd, R_tr R ha hd]
  · rw [show ptr s a d = false by simpa using h]
    rfl
  · rw [show ptr s a d = true by simpa using h]
    rfl
theorem c94_9 (R : R32 s (m.1 10)) {a d : Nat} {v1 v2 : Int32} (h1 : v1 = Int32.ofNat a) (h2 : v2 = Int32.ofNat d) (ha : a < 6) (hd : d < 6) : D94_9 F v1 v2 m = some (s (82 + 6 * a + d), m) := by
  subst h1
  subst h2
  have i := ix6 (A := 78) (B := 78) (a := a) (d := d) rfl (by decide) (by omega) (by omega)
  unfold D94_9
  rw [gxn i, if_pos (gxb i (by omega)), R_h R ha hd]
theorem c101_9 (hT : xT m) (R : R32 s (m.1 10)) (I : vI s) {t h : Nat} {v1 v2 : Int32} (h1 : v1 = Int32.ofNat t) (h2 : v2 = Int32.ofNat h) (ht : (t : Int) < (s 2).toInt) (hh : h < 6) : D101_9 F v1 v2 m = some (pB (pcl s t h), m) := by
  have t6 : t < 6 := by have := I_nt I; omega
  have it := I.2.1 t ht
  have n6 := I_n6 I
  have eh : s (10 + 6 * t + 3) = Int32.ofNat (s (10 + 6 * t + 3)).toInt.toNat := i32n (by omega)
  subst h2
  unfold D101_9 D101_9_28
  refine ob (c87_9 R h1 (w := 0) rfl t6 (by decide)) (oi (p := Int32.ofNat h == s (10 + 6 * t)) zce (fun a => ?_) (fun a => ?_))
  · have a : Int32.ofNat h = s (10 + 6 * t) := by simpa using a
    rw [show pcl s t h = false by unfold pcl; rw [← a]; simp]
    rfl
  have a : ¬ Int32.ofNat h = s (10 + 6 * t) := by simpa using a
  have a2 : (s (10 + 6 * t) == Int32.ofNat h) = false := by
    simp only [beq_eq_false_iff_ne]
    exact fun z => a z.symm
  refine ob (c87_9 R h1 (w := 3) rfl t6 (by decide)) (ob (c92_9 hT R (a := (s (10 + 6 * t + 3)).toInt.toNat) eh rfl (by omega) hh) (oi (p := !ptr s (s (10 + 6 * t + 3)).toInt.toNat h) pB1 (fun b => ?_) (fun b => ?_)))
  · have b : ptr s (s (10 + 6 * t + 3)).toInt.toNat h = false := by simpa using b
    rw [show pcl s t h = false by unfold pcl; rw [b]; simp]
    rfl
  · have b : ptr s (s (10 + 6 * t + 3)).toInt.toNat h = true := by simpa using b
    have ne : (s (10 + 6 * t + 3) == Int32.ofNat h) = false := by
      simp only [beq_eq_false_iff_ne]
      intro z
      have dg := (I.2.2.2.1 h hh).1
      rw [z, nJ (by omega), Int.toNat_natCast] at b
      unfold ptr at b
      rw [dg] at b
      exact absurd b (by decide)
    rw [show pcl s t h = true by unfold pcl; rw [b, ne, a2]; rfl]
    rfl
end CG_9
section CG_11t
variable {s : Nat → Int32} {m : xS} {F : Nat}
theorem c79_11t (R : R32 s (m.1 12)) : D79_11t F m = some (s 2, m) := by
  unfold D79_11t
  rw [R_j R (by decide)]
theorem c80_11t (R : R32 s (m.1 12)) : D80_11t F m = some (s 3, m) := by
  unfold D80_11t
  rw [R_j R (by decide)]
theorem c77_11t (R : R32 s (m.1 12)) : D77_11t F m = some (s 0, m) := by
  unfold D77_11t
  rw [R_j R (by decide)]
theorem c78_11t (R : R32 s (m.1 12)) : D78_11t F m = some (s 1, m) := by
  unfold D78_11t
  rw [R_j R (by decide)]
theorem c81_11t (R : R32 s (m.1 12)) : D81_11t F m = some (s 4, m) := by
  unfold D81_11t
  rw [R_j R (by decide)]
theorem c82_11t (R : R32 s (m.1 12)) : D82_11t F m = some (s 5, m) := by
  unfold D82_11t
  rw [R_j R (by decide)]
theorem c87_11t (R : R32 s (m.1 12)) {t w : Nat} {v1 v2 : Int32} (h1 : v1 = Int32.ofNat t) (h2 : v2 = Int32.ofNat w) (ht : t < 6) (hw : w < 6) : D87_11t F v1 v2 m = some (s (10 + 6 * t + w), m) := by
  subst h1
  subst h2
  have i := ix6 (A := 6) (B := 6) (a := w) (d := t) rfl (by decide) (by omega) (by omega)
  unfold D87_11t
  rw [gxn i, if_pos (gxb i (by omega)), R_t R ht hw]
theorem c89_11t (R : R32 s (m.1 12)) {w k : Nat} {v1 v2 : Int32} (h1 : v1 = Int32.ofNat w) (h2 : v2 = Int32.ofNat k) (hw : w < 6) (hk : k < 4) : D89_11t F v1 v2 m = some (s (124 + 4 * w + k), m) := by
  subst h1
  subst h2
  have i := ix6 (A := 42) (B := 42) (a := k) (d := w) rfl (by decide) (by omega) (by omega)
  unfold D89_11t
  rw [gxn i, if_pos (gxb i (by omega)), R_w R hw hk]
theorem c89d_11t (R : R32 s (m.1 12)) {w : Nat} {v1 : Int32} (h1 : v1 = Int32.ofNat w) (hw : w < 6) (h3 : (w : Int) < (s 3).toInt) : D89_11t F v1 4 m = some (s (118 + w), m) := by
  subst h1
  have i := ix6 (A := 42) (B := 42) (a := 4) (d := w) rfl (by decide) (by omega) (by omega)
  have i : ((42 : Int32) + 6 * 4 + Int32.ofNat w).toInt = ((66 + w : Nat) : Int) := i
  unfold D89_11t
  rw [gxn i, if_pos (gxb i (by omega)), R_d R hw h3]
theorem c97_11t (R : R32 s (m.1 12)) {t : Nat} {v1 : Int32} (h1 : v1 = Int32.ofNat t) (ht : t < 6) : D97_11t F v1 m = some (pB (phm s t), m) := by
  unfold D97_11t
  refine ob (c87_11t R h1 (w := 3) rfl ht (by decide)) (ob (c87_11t R h1 (w := 0) rfl ht (by decide)) (oi (p := !phm s t) zcn (fun h => ?_) (fun h => ?_)))
  · rw [show phm s t = false by simpa using h]
    rfl
  · rw [show phm s t = true by simpa using h]
    rfl
theorem c98_11t (R : R32 s (m.1 12)) (I : vI s) {t : Nat} {v1 : Int32} (h1 : v1 = Int32.ofNat t) (ht : (t : Int) < (s 2).toInt) : D98_11t F v1 m = some (prs s t, m) := by
  have t6 : t < 6 := by have := I_nt I; omega
  unfold D98_11t
  refine ob (c87_11t R h1 (w := 5) rfl t6 (by decide)) (ob (c78_11t R) ?_)
  refine congrArg (fun z => some (z, m)) ?_
  dsimp only
  unfold prs
  rw [mx0]
  by_cases hm : phm s t = true
  · have z := (I.2.1 t ht).2.2.1 (eq_of_beq hm)
    have l0 := I_late I
    rw [if_pos (Or.inl hm), z.2]
    by_cases l : ((0 : Int32) - s 1).toInt < 0
    · rw [if_pos l]
    · rw [if_neg l]
      have e : ((0 : Int32) - s 1).toInt = 0 - (s 1).toInt := xs1 (by show _ ≤ (0 : Int) - _; have := y32 (s 1); omega) (by show (0 : Int) - _ ≤ _; omega)
      exact Int32.toInt_inj.mp (by show _ = (0 : Int); omega)
  · by_cases l : (s (10 + 6 * t + 5) - s 1).toInt < 0
    · rw [if_pos (Or.inr l), if_pos l]
    · rw [if_neg (fun z => Or.elim z hm l), if_neg l]
theorem c100_14_11t (R : R32 s (m.1 12)) (I : vI s) {t : Nat} {v1 v2 : Int32} (h1 : v1 = Int32.ofNat t) (ht : (t : Int) < (s 2).toInt) : D100_11t_14 F v1 v2 m = some (psh0 s t v2, m) := by
  have t6 : t < 6 := by have := I_nt I; omega
  unfold D100_11t_14
  refine ob (c87_11t R h1 (w := 2) rfl t6 (by decide)) (ob (c87_11t R h1 (w := 4) rfl t6 (by decide)) (ob (c98_11t R I h1 ht) ?_))
  refine congrArg (fun z => some (z, m)) ?_
  dsimp only
  unfold psh0
  generalize s (10 + 6 * t + 2) + s (10 + 6 * t + 4) + v2 - prs s t = x
  rw [mx0]
theorem c100_11t (R : R32 s (m.1 12)) (I : vI s) {t : Nat} {v1 v2 : Int32} (h1 : v1 = Int32.ofNat t) (ht : (t : Int) < (s 2).toInt) : D100_11t F v1 v2 m = some (psh s t v2, m) := by
  have t6 : t < 6 := by have := I_nt I; omega
  unfold D100_11t psh
  refine oi (p := !(v2 == 0)) zcn (fun h => ?_) (fun h => ?_)
  · have h : ¬ v2 = 0 := by simpa using h
    rw [if_neg (fun z => h z.1)]
    exact c100_14_11t R I h1 ht
  · have h : v2 = 0 := by simpa using h
    refine ob (c97_11t R h1 t6) (oi (p := !phm s t) pB1 (fun h2 => ?_) (fun h2 => ?_))
    · have h2 : phm s t = false := by simpa using h2
      rw [if_neg (fun z => by rw [h2] at z; cases z.2)]
      exact c100_14_11t R I h1 ht
    · have h2 : phm s t = true := by simpa using h2
      rw [if_pos ⟨h, h2⟩]
theorem c99_11t (R : R32 s (m.1 12)) (I : vI s) {t : Nat} {v1 : Int32} (h1 : v1 = Int32.ofNat t) (ht : (t : Int) < (s 2).toInt) : D99_11t F v1 m = some (psh s t 0, m) := by
  unfold D99_11t
  exact ob (c100_11t R I h1 ht) rfl
theorem c106_11t (R : R32 s (m.1 12)) (I : vI s) {w : Nat} {v1 : Int32} (h1 : v1 = Int32.ofNat w) (hw : (w : Int) < (s 3).toInt) : D106_11t F v1 m = some (pB (pdn s w), m) := by
  have w6 : w < 6 := by have := (I_nw I); omega
  have l := (I.2.2.1 w hw).2
  unfold D106_11t
  refine ob (c89d_11t R h1 w6 hw) (oi (p := s (118 + w) == -1) zce (fun h => ?_) (fun h => ?_))
  · have h : s (118 + w) = -1 := by simpa using h
    rw [show pdn s w = false by unfold pdn; rw [h]; decide]
    rfl
  · have h : ¬ s (118 + w) = -1 := by simpa using h
    have : (s (118 + w)).toInt ≠ -1 := fun z => h (Int32.toInt_inj.mp z)
    rw [show pdn s w = true by unfold pdn; exact decide_eq_true (by omega)]
    rfl
theorem c107_12_11t (R : R32 s (m.1 12)) (I : vI s) {w : Nat} {v1 : Int32} (h1 : v1 = Int32.ofNat w) (hw : (w : Int) < (s 3).toInt) : ∀ (f : Nat) {t : Nat}, (t : Int) ≤ (s 2).toInt → 6 - t < f → D107_11t_12 F f v1 (Int32.ofNat t) m = some (pB ((List.range' t ((s 2).toInt.toNat - t)).any (pfit s w)), m) := by
  have w6 : w < 6 := by have := (I_nw I); omega
  have n6 := I_nt I
  intro f
  induction f with
  | zero => intro t _ l; omega
  | succ f ih =>
    intro t ht l
    have et := nJ (n := t) (by omega)
    unfold D107_11t_12
    refine ob (c79_11t R) (oi (p := decide ((s 2).toInt ≤ (Int32.ofNat t).toInt)) zc (fun h => ?_) (fun h => ?_))
    · have h := of_decide_eq_true h
      rw [show (s 2).toInt.toNat - t = 0 by omega]
      rfl
    · have h := of_decide_eq_false h
      have t2 : (t : Int) < (s 2).toInt := by omega
      have next : D107_11t_66 F (D107_11t_12 F f) v1 (Int32.ofNat t) m = some (pB ((List.range' (t + 1) ((s 2).toInt.toNat - (t + 1))).any (pfit s w)), m) := by
        unfold D107_11t_66
        rw [show Int32.ofNat t + Int32.ofInt 1 = Int32.ofNat (t + 1) from xadd (a := t) (b := 1) (by omega)]
        exact ih (by omega) (by omega)
      rw [show (s 2).toInt.toNat - t = ((s 2).toInt.toNat - (t + 1)) + 1 by omega, List.range'_succ, List.any_cons]
      refine ob (c87_11t R (t := t) (w := 1) rfl rfl (by omega) (by decide)) (ob (c89_11t R h1 (k := 1) rfl w6 (by decide)) (oi (p := !(s (10 + 6 * t + 1) == s (124 + 4 * w + 1))) zcn (fun a => ?_) (fun a => ?_)))
      · rw [show pfit s w t = false by unfold pfit; rw [show (s (10 + 6 * t + 1) == s (124 + 4 * w + 1)) = false by simpa using a, Bool.false_and], Bool.false_or]
        exact next
      have a : (s (10 + 6 * t + 1) == s (124 + 4 * w + 1)) = true := by simpa using a
      refine ob (c87_11t R (t := t) (w := 3) rfl rfl (by omega) (by decide)) (ob (c89_11t R h1 (k := 0) rfl w6 (by decide)) (oi (p := !(s (10 + 6 * t + 3) == s (124 + 4 * w))) zcn (fun b => ?_) (fun b => ?_)))
      · rw [show pfit s w t = false by unfold pfit; rw [show (s (10 + 6 * t + 3) == s (124 + 4 * w)) = false by simpa using b, Bool.false_and, Bool.and_false], Bool.false_or]
        exact next
      have b : (s (10 + 6 * t + 3) == s (124 + 4 * w)) = true := by simpa using b
      refine ob (c99_11t R I (t := t) rfl t2) (ob (c89_11t R h1 (k := 2) rfl w6 (by decide)) (oi (p := decide ((psh s t 0).toInt < (s (124 + 4 * w + 2)).toInt)) zcl (fun g => ?_) (fun g => ?_)))
      · have g := of_decide_eq_true g
        rw [show pfit s w t = false by unfold pfit; rw [a, b, decide_eq_false (by omega)]; rfl, Bool.false_or]
        exact next
      · have g := of_decide_eq_false g
        rw [show pfit s w t = true by unfold pfit; rw [a, b, decide_eq_true (by omega)]; rfl, Bool.true_or]
        rfl
theorem c107_11t (hF : 500 ≤ F) (R : R32 s (m.1 12)) (I : vI s) {w : Nat} {v1 : Int32} (h1 : v1 = Int32.ofNat w) (hw : (w : Int) < (s 3).toInt) : D107_11t F v1 m = some (pB (pcd s w), m) := by
  have n6 := I_nt I
  unfold D107_11t pcd
  refine ob (c106_11t R I h1 hw) (oi (p := !pdn s w) pB1 (fun h => ?_) (fun h => ?_))
  · have z := c107_12_11t (F := F) R I h1 hw F (t := 0) (by omega) (by omega)
    rw [Nat.sub_zero, ← List.range_eq_range'] at z
    rw [h, Bool.true_and]
    exact z
  · rw [h, Bool.false_and]
    rfl
theorem c91_11t (R : R32 s (m.1 12)) {a : Nat} {v1 : Int32} (h1 : v1 = Int32.ofNat a) (ha : a < 6) : D91_11t F v1 m = some (m.1 12 (72 + a), m) := by
  subst h1
  have i := ix1 (A := 72) (B := 72) (d := a) rfl (by decide) (by omega)
  unfold D91_11t
  rw [gxn i, if_pos (gxb i (by omega))]
theorem c92_11t (hT : xT m) (R : R32 s (m.1 12)) {a d : Nat} {v1 v2 : Int32} (h1 : v1 = Int32.ofNat a) (h2 : v2 = Int32.ofNat d) (ha : a < 6) (hd : d < 6) : D92_11t F v1 v2 m = some (pB (ptr s a d), m) := by
  have b := b63 hT (r := 12) rfl (by decide) ha
  subst h2
  unfold D92_11t
  refine ob (c91_11t R h1 ha) (oi (p := !ptr s a d) ?_ (fun h => ?_) (fun h => ?_))
  · rw [tbq b.1 b.2 hd, R_tr R ha hd]
  · rw [show ptr s a d = false by simpa using h]
    rfl
  · rw [show ptr s a d = true by simpa using h]
    rfl
theorem c94_11t (R : R32 s (m.1 12)) {a d : Nat} {v1 v2 : Int32} (h1 : v1 = Int32.ofNat a) (h2 : v2 = Int32.ofNat d) (ha : a < 6) (hd : d < 6) : D94_11t F v1 v2 m = some (s (82 + 6 * a + d), m) := by
  subst h1
  subst h2
  have i := ix6 (A := 78) (B := 78) (a := a) (d := d) rfl (by decide) (by omega) (by omega)
  unfold D94_11t
  rw [gxn i, if_pos (gxb i (by omega)), R_h R ha hd]
theorem c101_11t (hT : xT m) (R : R32 s (m.1 12)) (I : vI s) {t h : Nat} {v1 v2 : Int32} (h1 : v1 = Int32.ofNat t) (h2 : v2 = Int32.ofNat h) (ht : (t : Int) < (s 2).toInt) (hh : h < 6) : D101_11t F v1 v2 m = some (pB (pcl s t h), m) := by
  have t6 : t < 6 := by have := I_nt I; omega
  have it := I.2.1 t ht
  have n6 := I_n6 I
  have eh : s (10 + 6 * t + 3) = Int32.ofNat (s (10 + 6 * t + 3)).toInt.toNat := i32n (by omega)
  subst h2
  unfold D101_11t D101_11t_28
  refine ob (c87_11t R h1 (w := 0) rfl t6 (by decide)) (oi (p := Int32.ofNat h == s (10 + 6 * t)) zce (fun a => ?_) (fun a => ?_))
  · have a : Int32.ofNat h = s (10 + 6 * t) := by simpa using a
    rw [show pcl s t h = false by unfold pcl; rw [← a]; simp]
    rfl
  have a : ¬ Int32.ofNat h = s (10 + 6 * t) := by simpa using a
  have a2 : (s (10 + 6 * t) == Int32.ofNat h) = false := by
    simp only [beq_eq_false_iff_ne]
    exact fun z => a z.symm
  refine ob (c87_11t R h1 (w := 3) rfl t6 (by decide)) (ob (c92_11t hT R (a := (s (10 + 6 * t + 3)).toInt.toNat) eh rfl (by omega) hh) (oi (p := !ptr s (s (10 + 6 * t + 3)).toInt.toNat h) pB1 (fun b => ?_) (fun b => ?_)))
  · have b : ptr s (s (10 + 6 * t + 3)).toInt.toNat h = false := by simpa using b
    rw [show pcl s t h = false by unfold pcl; rw [b]; simp]
    rfl
  · have b : ptr s (s (10 + 6 * t + 3)).toInt.toNat h = true := by simpa using b
    have ne : (s (10 + 6 * t + 3) == Int32.ofNat h) = false := by
      simp only [beq_eq_false_iff_ne]
      intro z
      have dg := (I.2.2.2.1 h hh).1
      rw [z, nJ (by omega), Int.toNat_natCast] at b
      unfold ptr at b
      rw [dg] at b
      exact absurd b (by decide)
    rw [show pcl s t h = true by unfold pcl; rw [b, ne, a2]; rfl]
    rfl
end CG_11t
end
section
/-! The reference looks. -/
section RG
variable {m : xS} {F : Nat}
theorem r205 {v : Int32} : D205 F v m = some (pB (pin (m.1 80) 0 v), m) := by
  unfold D205 D205_18
  refine oi (p := decide (v.toInt < 0)) zcl (fun h => ?_) (fun h => oi (p := decide ((m.1 80 0).toInt ≤ v.toInt)) zc (fun h2 => ?_) (fun h2 => ?_))
  · have h := of_decide_eq_true h
    rw [show pin (m.1 80) 0 v = false by unfold pin; rw [decide_eq_false (by omega), Bool.false_and]]
    rfl
  · have h2 := of_decide_eq_true h2
    rw [show pin (m.1 80) 0 v = false by unfold pin; rw [decide_eq_false (p := v.toInt < (m.1 80 0).toInt) (by omega), Bool.and_false]]
    rfl
  · have h := of_decide_eq_false h
    have h2 := of_decide_eq_false h2
    rw [pin_iff.mpr (by omega)]
    rfl
theorem r206 {v : Int32} : D206 F v m = some (pB (pin (m.1 80) 2 v), m) := by
  unfold D206 D206_18
  refine oi (p := decide (v.toInt < 0)) zcl (fun h => ?_) (fun h => oi (p := decide ((m.1 80 2).toInt ≤ v.toInt)) zc (fun h2 => ?_) (fun h2 => ?_))
  · have h := of_decide_eq_true h
    rw [show pin (m.1 80) 2 v = false by unfold pin; rw [decide_eq_false (by omega), Bool.false_and]]
    rfl
  · have h2 := of_decide_eq_true h2
    rw [show pin (m.1 80) 2 v = false by unfold pin; rw [decide_eq_false (p := v.toInt < (m.1 80 2).toInt) (by omega), Bool.and_false]]
    rfl
  · have h := of_decide_eq_false h
    have h2 := of_decide_eq_false h2
    rw [pin_iff.mpr (by omega)]
    rfl
theorem r207 {v : Int32} : D207 F v m = some (pB (pin (m.1 80) 3 v), m) := by
  unfold D207 D207_18
  refine oi (p := decide (v.toInt < 0)) zcl (fun h => ?_) (fun h => oi (p := decide ((m.1 80 3).toInt ≤ v.toInt)) zc (fun h2 => ?_) (fun h2 => ?_))
  · have h := of_decide_eq_true h
    rw [show pin (m.1 80) 3 v = false by unfold pin; rw [decide_eq_false (by omega), Bool.false_and]]
    rfl
  · have h2 := of_decide_eq_true h2
    rw [show pin (m.1 80) 3 v = false by unfold pin; rw [decide_eq_false (p := v.toInt < (m.1 80 3).toInt) (by omega), Bool.and_false]]
    rfl
  · have h := of_decide_eq_false h
    have h2 := of_decide_eq_false h2
    rw [pin_iff.mpr (by omega)]
    rfl
theorem r208 {t w : Nat} {v1 v2 : Int32} (h1 : v1 = Int32.ofNat t) (h2 : v2 = Int32.ofNat w) (ht : t < 6) (hw : w < 6) : D208 F v1 v2 m = some (m.1 80 (10 + 6 * t + w), m) := by
  subst h1
  subst h2
  have i := ix6 (A := 10) (B := 10) (a := t) (d := w) rfl (by decide) (by omega) (by omega)
  unfold D208
  rw [gxn i, if_pos (gxb i (by omega))]
theorem r209 {w k : Nat} {v1 v2 : Int32} (h1 : v1 = Int32.ofNat w) (h2 : v2 = Int32.ofNat k) (hw : w < 6) (hk : k < 4) : D209 F v1 v2 m = some (m.1 80 (124 + 4 * w + k), m) := by
  subst h1
  subst h2
  have i := ix4 (a := w) (d := k) (by omega) (by omega)
  unfold D209
  rw [gxn i, if_pos (gxb i (by omega))]
theorem r210 {a d : Nat} {v1 v2 : Int32} (h1 : v1 = Int32.ofNat a) (h2 : v2 = Int32.ofNat d) (ha : a < 6) (hd : d < 6) : D210 F v1 v2 m = some (pB (ptr (m.1 80) a d), m) := by
  subst h1
  subst h2
  have i := ix6 (A := 46) (B := 46) (a := a) (d := d) rfl (by decide) (by omega) (by omega)
  unfold D210
  rw [gxn i, if_pos (gxb i (by omega))]
  refine oi (p := !(m.1 80 (46 + 6 * a + d) == 1)) zcn (fun h => ?_) (fun h => ?_)
  · rw [show ptr (m.1 80) a d = false by unfold ptr; simpa using h]
    rfl
  · rw [show ptr (m.1 80) a d = true by unfold ptr; simpa using h]
    rfl
theorem r211 {a d : Nat} {v1 v2 : Int32} (h1 : v1 = Int32.ofNat a) (h2 : v2 = Int32.ofNat d) (ha : a < 6) (hd : d < 6) : D211 F v1 v2 m = some (m.1 80 (82 + 6 * a + d), m) := by
  subst h1
  subst h2
  have i := ix6 (A := 82) (B := 82) (a := a) (d := d) rfl (by decide) (by omega) (by omega)
  unfold D211
  rw [gxn i, if_pos (gxb i (by omega))]
theorem r212 {t : Nat} {v1 : Int32} (h1 : v1 = Int32.ofNat t) (ht : t < 6) : D212 F v1 m = some (pB (phm (m.1 80) t), m) := by
  unfold D212
  refine ob (r208 h1 (w := 0) rfl ht (by decide)) (ob (r208 h1 (w := 3) rfl ht (by decide)) (oi (p := !phm (m.1 80) t) ?_ (fun h => ?_) (fun h => ?_)))
  · rw [zcn]
    unfold phm
    exact congrArg not (by rw [Bool.eq_iff_iff, beq_iff_eq, beq_iff_eq]; exact ⟨fun z => z.symm, fun z => z.symm⟩)
  · rw [show phm (m.1 80) t = false by simpa using h]
    rfl
  · rw [show phm (m.1 80) t = true by simpa using h]
    rfl
theorem r213 {t : Nat} {v1 : Int32} (h1 : v1 = Int32.ofNat t) (ht : t < 6) : D213 F v1 m = some (prs (m.1 80) t, m) := by
  unfold D213 D213_26 prs
  refine ob (r208 h1 (w := 5) rfl ht (by decide)) (ob (r212 h1 ht) (oi (p := phm (m.1 80) t) pB2 (fun h => ?_) (fun h => ?_)))
  · rw [if_pos (Or.inl h)]
  · dsimp only
    refine oi (p := decide (0 ≤ (m.1 80 (10 + 6 * t + 5) - m.1 80 1).toInt)) zc (fun h2 => ?_) (fun h2 => ?_)
    · have h2 := of_decide_eq_true h2
      rw [if_neg (fun z => Or.elim z (fun q => by rw [h] at q; cases q) (fun q => by omega))]
    · have h2 := of_decide_eq_false h2
      rw [if_pos (Or.inr (by omega))]
theorem r214_14 {t : Nat} {v1 v2 : Int32} (h1 : v1 = Int32.ofNat t) (ht : t < 6) : D214_14 F v1 v2 m = some (psh0 (m.1 80) t v2, m) := by
  unfold D214_14 psh0
  refine ob (r208 h1 (w := 2) rfl ht (by decide)) (ob (r208 h1 (w := 4) rfl ht (by decide)) (ob (r213 h1 ht) ?_))
  dsimp only
  refine oi (p := decide (0 ≤ (m.1 80 (10 + 6 * t + 2) + m.1 80 (10 + 6 * t + 4) + v2 - prs (m.1 80) t).toInt)) zc (fun h2 => ?_) (fun h2 => ?_)
  · have h2 := of_decide_eq_true h2
    rw [if_neg (by omega)]
  · have h2 := of_decide_eq_false h2
    rw [if_pos (by omega)]
theorem r214 {t : Nat} {v1 v2 : Int32} (h1 : v1 = Int32.ofNat t) (ht : t < 6) : D214 F v1 v2 m = some (psh (m.1 80) t v2, m) := by
  unfold D214 psh
  refine oi (p := !(v2 == 0)) zcn (fun h => ?_) (fun h => ?_)
  · have h : ¬ v2 = 0 := by simpa using h
    rw [if_neg (fun z => h z.1)]
    exact r214_14 h1 ht
  · have h : v2 = 0 := by simpa using h
    refine ob (r212 h1 ht) (oi (p := !phm (m.1 80) t) pB1 (fun h2 => ?_) (fun h2 => ?_))
    · have h2 : phm (m.1 80) t = false := by simpa using h2
      rw [if_neg (fun z => by rw [h2] at z; cases z.2)]
      exact r214_14 h1 ht
    · have h2 : phm (m.1 80) t = true := by simpa using h2
      rw [if_pos ⟨h, h2⟩]
theorem r215 {w : Nat} {v1 : Int32} (h1 : v1 = Int32.ofNat w) (hw : w < 6) : D215 F v1 m = some (pB (pdn (m.1 80) w), m) := by
  subst h1
  have i := ix1 (A := 118) (B := 118) (d := w) rfl (by decide) (by omega)
  unfold D215
  rw [gxn i, if_pos (gxb i (by omega))]
  refine oi (p := decide ((m.1 80 (118 + w)).toInt < 0)) zcl (fun h => ?_) (fun h => ?_)
  · have h := of_decide_eq_true h
    rw [show pdn (m.1 80) w = false by unfold pdn; exact decide_eq_false (by omega)]
    rfl
  · have h := of_decide_eq_false h
    rw [show pdn (m.1 80) w = true by unfold pdn; exact decide_eq_true (by omega)]
    rfl
theorem r216_12 (n6 : 0 ≤ (m.1 80 2).toInt ∧ (m.1 80 2).toInt ≤ 6) {w : Nat} {v1 : Int32} (h1 : v1 = Int32.ofNat w) (w6 : w < 6) : ∀ (f : Nat) {t : Nat}, (t : Int) ≤ (m.1 80 2).toInt → 6 - t < f → D216_12 F f v1 (Int32.ofNat t) m = some (pB ((List.range' t ((m.1 80 2).toInt.toNat - t)).any (pfit (m.1 80) w)), m) := by
  intro f
  induction f with
  | zero => intro t _ l; omega
  | succ f ih =>
    intro t ht l
    have et := nJ (n := t) (by omega)
    unfold D216_12
    refine oi (p := decide ((m.1 80 2).toInt ≤ (Int32.ofNat t).toInt)) zc (fun h => ?_) (fun h => ?_)
    · have h := of_decide_eq_true h
      rw [show (m.1 80 2).toInt.toNat - t = 0 by omega]
      rfl
    · have h := of_decide_eq_false h
      have t2 : (t : Int) < (m.1 80 2).toInt := by omega
      have next : D216_69 F (D216_12 F f) v1 (Int32.ofNat t) m = some (pB ((List.range' (t + 1) ((m.1 80 2).toInt.toNat - (t + 1))).any (pfit (m.1 80) w)), m) := by
        unfold D216_69
        rw [show Int32.ofNat t + Int32.ofInt 1 = Int32.ofNat (t + 1) from xadd (a := t) (b := 1) (by omega)]
        exact ih (by omega) (by omega)
      rw [show (m.1 80 2).toInt.toNat - t = ((m.1 80 2).toInt.toNat - (t + 1)) + 1 by omega, List.range'_succ, List.any_cons]
      refine ob (r208 (t := t) (w := 1) rfl rfl (by omega) (by decide)) (ob (r209 h1 (k := 1) rfl w6 (by decide)) (oi (p := !(m.1 80 (10 + 6 * t + 1) == m.1 80 (124 + 4 * w + 1))) zcn (fun a => ?_) (fun a => ?_)))
      · rw [show pfit (m.1 80) w t = false by unfold pfit; rw [show (m.1 80 (10 + 6 * t + 1) == m.1 80 (124 + 4 * w + 1)) = false by simpa using a, Bool.false_and], Bool.false_or]
        exact next
      have a : (m.1 80 (10 + 6 * t + 1) == m.1 80 (124 + 4 * w + 1)) = true := by simpa using a
      refine ob (r208 (t := t) (w := 3) rfl rfl (by omega) (by decide)) (ob (r209 h1 (k := 0) rfl w6 (by decide)) (oi (p := !(m.1 80 (10 + 6 * t + 3) == m.1 80 (124 + 4 * w))) zcn (fun b => ?_) (fun b => ?_)))
      · rw [show pfit (m.1 80) w t = false by unfold pfit; rw [show (m.1 80 (10 + 6 * t + 3) == m.1 80 (124 + 4 * w)) = false by simpa using b, Bool.false_and, Bool.and_false], Bool.false_or]
        exact next
      have b : (m.1 80 (10 + 6 * t + 3) == m.1 80 (124 + 4 * w)) = true := by simpa using b
      refine ob (r214 (t := t) (v2 := 0) rfl (by omega)) (ob (r209 h1 (k := 2) rfl w6 (by decide)) (oi (p := decide ((psh (m.1 80) t 0).toInt < (m.1 80 (124 + 4 * w + 2)).toInt)) zcl (fun g => ?_) (fun g => ?_)))
      · have g := of_decide_eq_true g
        rw [show pfit (m.1 80) w t = false by unfold pfit; rw [a, b, decide_eq_false (by omega)]; rfl, Bool.false_or]
        exact next
      · have g := of_decide_eq_false g
        rw [show pfit (m.1 80) w t = true by unfold pfit; rw [a, b, decide_eq_true (by omega)]; rfl, Bool.true_or]
        rfl
theorem r216 (hF : 500 ≤ F) (n6 : 0 ≤ (m.1 80 2).toInt ∧ (m.1 80 2).toInt ≤ 6) {w : Nat} {v1 : Int32} (h1 : v1 = Int32.ofNat w) (w6 : w < 6) : D216 F v1 m = some (pB (pcd (m.1 80) w), m) := by
  unfold D216 pcd
  refine ob (r215 h1 w6) (oi (p := !pdn (m.1 80) w) pB1 (fun h => ?_) (fun h => ?_))
  · have z := r216_12 (F := F) n6 h1 w6 F (t := 0) (by omega) (by omega)
    rw [Nat.sub_zero, ← List.range_eq_range'] at z
    rw [h, Bool.true_and]
    exact z
  · rw [h, Bool.false_and]
    rfl
theorem r222 (I : vI (m.1 80)) {t h : Nat} {v1 v2 : Int32} (h1 : v1 = Int32.ofNat t) (h2 : v2 = Int32.ofNat h) (ht : (t : Int) < (m.1 80 2).toInt) (hh : h < 6) : D222 F v1 v2 m = some (pB (pcl (m.1 80) t h), m) := by
  have t6 : t < 6 := by have := I_nt I; omega
  have it := I.2.1 t ht
  have n6 := I_n6 I
  have eh : m.1 80 (10 + 6 * t + 3) = Int32.ofNat (m.1 80 (10 + 6 * t + 3)).toInt.toNat := i32n (by omega)
  subst h2
  unfold D222 D222_35
  refine ob (r208 h1 (w := 3) rfl t6 (by decide)) (oi (p := m.1 80 (10 + 6 * t + 3) == Int32.ofNat h) zce (fun a => ?_) (fun a => ?_))
  · rw [show pcl (m.1 80) t h = false by unfold pcl; rw [a]; rfl]
    rfl
  refine ob (r208 h1 (w := 0) rfl t6 (by decide)) (oi (p := m.1 80 (10 + 6 * t) == Int32.ofNat h) zce (fun b => ?_) (fun b => ?_))
  · rw [show pcl (m.1 80) t h = false by unfold pcl; rw [b]; simp]
    rfl
  refine ob (r210 (a := (m.1 80 (10 + 6 * t + 3)).toInt.toNat) eh rfl (by omega) hh) (oi (p := !ptr (m.1 80) (m.1 80 (10 + 6 * t + 3)).toInt.toNat h) pB1 (fun g => ?_) (fun g => ?_))
  · have g : ptr (m.1 80) (m.1 80 (10 + 6 * t + 3)).toInt.toNat h = false := by simpa using g
    rw [show pcl (m.1 80) t h = false by unfold pcl; rw [g]; simp]
    rfl
  · have g : ptr (m.1 80) (m.1 80 (10 + 6 * t + 3)).toInt.toNat h = true := by simpa using g
    rw [show pcl (m.1 80) t h = true by unfold pcl; rw [g, a, b]; rfl]
    rfl
/-- in, of ints -/
theorem r158 {v : Int32} {l h : Int64} {x y : Int} (hl : l.toInt = x) (hh : h.toInt = y) : D158 F v.toInt64 l h m = some (pB (decide (x ≤ v.toInt) && decide (v.toInt ≤ y)), m) := by
  have k1 := ylcmp v.toInt64 l
  have k2 := ylcmp v.toInt64 h
  rw [Int32.toInt_toInt64] at k1 k2
  unfold D158 D158_17
  refine oi (p := decide ((lg_cmp v.toInt64 l).toInt < 0)) zcl (fun a => ?_) (fun a => oi (p := decide (0 < (lg_cmp v.toInt64 h).toInt)) zcgt (fun b => ?_) (fun b => ?_))
  · have a := of_decide_eq_true a
    rw [decide_eq_false (p := x ≤ v.toInt) (by omega)]
    rfl
  · have b := of_decide_eq_true b
    rw [decide_eq_false (p := v.toInt ≤ y) (by omega), Bool.and_false]
    rfl
  · have a := of_decide_eq_false a
    have b := of_decide_eq_false b
    rw [decide_eq_true (p := x ≤ v.toInt) (by omega), decide_eq_true (p := v.toInt ≤ y) (by omega)]
    rfl
end RG
end
section
/-! Acts, as functions of the village. -/
def xr (m : xS) (i : Nat) (c : Nat → Int32) : xS := (fun a => if a = i then c else m.1 a, m.2)
def pgv (s : Nat → Int32) (t : Nat) (v : Int32) : Nat → Int32 := cup (cup (cup (cup s (10 + 6 * t) v) (10 + 6 * t + 3) v) (10 + 6 * t + 4) 0) (10 + 6 * t + 5) 0
def pth (s : Nat → Int32) (k : Nat) : Nat → Int32 := if (s k).toInt < 99 then cup s k (s k + 1) else s
def pld (s : Nat → Int32) (t h : Nat) : Nat → Int32 := cup (cup (pth s (82 + 6 * h + (s (10 + 6 * t + 3)).toInt.toNat)) (10 + 6 * t + 4) (s (10 + 6 * t + 4) + 1)) (10 + 6 * t + 3) (Int32.ofNat h)
def pwk (s : Nat → Int32) (w : Nat) : Nat → Int32 := cup (cup s (118 + w) (s 4)) 5 (s 5 + s (124 + 4 * w + 3))
def pqu (s : Nat → Int32) (a d : Nat) : Nat → Int32 := cup (cup s (46 + 6 * a + d) 0) (46 + 6 * d + a) 0
def pou (s : Nat → Int32) (t : Nat) : Nat → Int32 := if phm s t = true then s else cup s (10 + 6 * t + 5) (s (10 + 6 * t + 5) + 1)
def pous (s : Nat → Int32) : Nat → Nat → Nat → Int32
  | _, 0 => s
  | t, n + 1 => pous (pou s t) (t + 1) n
def pdy (s : Nat → Int32) : Nat → Int32 := cup (pous s 0 (s 2).toInt.toNat) 4 (s 4 + 1)
def plt (s : Nat → Int32) (t : Nat) : Bool := decide (0 < (prs s t).toInt)
section PAC
variable {s c : Nat → Int32} {v : Int32}
theorem xr_s (m : xS) (i : Nat) (c : Nat → Int32) : (xr m i c).1 i = c := if_pos rfl
theorem xr_o {m : xS} {i a : Nat} {c : Nat → Int32} (h : a ≠ i) : (xr m i c).1 a = m.1 a := if_neg h
theorem xr_xr (m : xS) (i : Nat) (c c' : Nat → Int32) : xr (xr m i c) i c' = xr m i c' := by
  refine Prod.ext (funext fun a => ?_) rfl
  show (if a = i then c' else (if a = i then c else m.1 a)) = if a = i then c' else m.1 a
  split <;> rfl
theorem xr_id (m : xS) (i : Nat) : xr m i (m.1 i) = m := by
  refine Prod.ext (funext fun a => ?_) rfl
  show (if a = i then m.1 i else m.1 a) = m.1 a
  split
  · next h => rw [h]
  · rfl
theorem xu_xr (m : xS) (i k : Nat) (v : Int32) : xu m i k v = xr m i (cup (m.1 i) k v) := by
  refine Prod.ext (funext fun a => ?_) rfl
  show (xu m i k v).1 a = if a = i then cup (m.1 i) k v else m.1 a
  by_cases h : a = i
  · subst h
    rw [if_pos rfl, xu_cup]
  · rw [if_neg h]
    exact funext fun j => xu_o (fun z => h z.1)
theorem cup_id (s : Nat → Int32) (k : Nat) (h : s k = v) : cup s k v = s := by
  funext j
  unfold cup
  split
  · next z => rw [z, h]
  · rfl
theorem cup_sw {x y : Int32} {i j : Nat} (h : i ≠ j) : cup (cup s i x) j y = cup (cup s j y) i x := by
  funext a
  unfold cup
  by_cases z : a = j
  · rw [if_pos z, if_neg (by omega), if_pos z]
  · rw [if_neg z]
    by_cases z2 : a = i
    · rw [if_pos z2, if_pos z2]
    · rw [if_neg z2, if_neg z2, if_neg z]
theorem sI_cup (s : Nat → Int32) (k : Nat) (v : Int32) : sI (cup s k v) = vup (sI s) k v.toInt := by
  funext j
  unfold sI cup vup
  split <;> rfl
theorem R_ut (R : R32 s c) {t w : Nat} (ht : t < 6) (hw : w < 6) : R32 (cup s (10 + 6 * t + w) v) (cup c (6 + 6 * w + t) v) := by
  unfold R32
  rw [sI_cup]
  exact vR_tool R ht hw rfl
theorem R_uj (R : R32 s c) {j : Nat} (hj : j < 6) (h3 : j ≠ 3) : R32 (cup s j v) (cup c j v) := by
  unfold R32
  rw [sI_cup]
  exact vR_sc R hj h3 rfl
theorem R_uh (R : R32 s c) {a d : Nat} (ha : a < 6) (hd : d < 6) : R32 (cup s (82 + 6 * a + d) v) (cup c (78 + 6 * a + d) v) := by
  unfold R32
  rw [sI_cup]
  exact vR_thx R ha hd rfl
theorem R_ud (R : R32 s c) {w : Nat} (hw : w < 6) : R32 (cup s (118 + w) v) (cup c (66 + w) v) := by
  unfold R32
  rw [sI_cup]
  exact vR_done R hw rfl
theorem R_uq (R : R32 s c) {a d : Nat} (ha : a < 6) (hd : d < 6) (e0 : tbt v d = false) (e1 : ∀ i, i < 6 → i ≠ d → tbt v i = tbt (c (72 + a)) i) : R32 (cup s (46 + 6 * a + d) 0) (cup c (72 + a) v) := by
  unfold R32
  rw [sI_cup]
  exact vR_tru R ha hd e0 e1
theorem R_gv (R : R32 s c) {t : Nat} (ht : t < 6) : R32 (pgv s t v) (cup (cup (cup (cup c (6 + 6 * 0 + t) v) (6 + 6 * 3 + t) v) (6 + 6 * 4 + t) 0) (6 + 6 * 5 + t) 0) := R_ut (R_ut (R_ut (R_ut R ht (w := 0) (by decide)) ht (w := 3) (by decide)) ht (w := 4) (by decide)) ht (w := 5) (by decide)
theorem tb_nand {x : Int32} {d i : Nat} (h0 : 0 ≤ x.toInt) (h1 : x.toInt ≤ 63) (hd : d < 6) (hi : i < 6) : tbt (x &&& (((1 : Int32) <<< (Int32.ofNat d &&& 31)) ^^^ (-1))) i = (tbt x i && !decide (i = d)) := by
  have key : (List.range 64).all (fun x => (List.range 6).all (fun d => (List.range 6).all (fun i => tbt (Int32.ofNat x &&& (((1 : Int32) <<< (Int32.ofNat d &&& 31)) ^^^ (-1))) i == (tbt (Int32.ofNat x) i && !decide (i = d))))) = true := by decide +kernel
  have e : x = Int32.ofNat x.toInt.toNat := i32n (by omega)
  have k1 := List.all_eq_true.mp (List.all_eq_true.mp (List.all_eq_true.mp key x.toInt.toNat (List.mem_range.mpr (by omega))) d (List.mem_range.mpr hd)) i (List.mem_range.mpr hi)
  rw [← e] at k1
  exact eq_of_beq k1
theorem tb_nb {x : Int32} {d : Nat} (h0 : 0 ≤ x.toInt) (h1 : x.toInt ≤ 63) (hd : d < 6) : 0 ≤ (x &&& (((1 : Int32) <<< (Int32.ofNat d &&& 31)) ^^^ (-1))).toInt ∧ (x &&& (((1 : Int32) <<< (Int32.ofNat d &&& 31)) ^^^ (-1))).toInt ≤ 63 := by
  have key : (List.range 64).all (fun x => (List.range 6).all (fun d => decide (0 ≤ (Int32.ofNat x &&& (((1 : Int32) <<< (Int32.ofNat d &&& 31)) ^^^ (-1))).toInt) && decide ((Int32.ofNat x &&& (((1 : Int32) <<< (Int32.ofNat d &&& 31)) ^^^ (-1))).toInt ≤ 63))) = true := by decide +kernel
  have e : x = Int32.ofNat x.toInt.toNat := i32n (by omega)
  have k1 := List.all_eq_true.mp (List.all_eq_true.mp key x.toInt.toNat (List.mem_range.mpr (by omega))) d (List.mem_range.mpr hd)
  rw [← e] at k1
  simpa using k1
theorem pth_o {k j : Nat} (h : j ≠ k) : pth s k j = s j := by
  unfold pth
  split
  · exact cup_o h
  · rfl
/-- thanks, 99 at most, as the class reckons -/
theorem R_th (R : R32 s c) (I : vI s) {a d : Nat} (ha : a < 6) (hd : d < 6) : R32 (pth s (82 + 6 * a + d)) (cup c (78 + 6 * a + d) (if s (82 + 6 * a + d) + 1 < 99 then s (82 + 6 * a + d) + 1 else 99)) := by
  have b := I.2.2.2.2 a d ha hd
  have e1 : (s (82 + 6 * a + d) + 1).toInt = (s (82 + 6 * a + d)).toInt + 1 := xa1 (by show _ ≤ _ + (1 : Int); omega) (by show _ + (1 : Int) ≤ _; omega)
  unfold pth
  by_cases l : (s (82 + 6 * a + d)).toInt < 99
  · rw [if_pos l]
    have e : (if s (82 + 6 * a + d) + 1 < 99 then s (82 + 6 * a + d) + 1 else 99) = s (82 + 6 * a + d) + 1 := by
      by_cases z : s (82 + 6 * a + d) + 1 < 99
      · rw [if_pos z]
      · rw [if_neg z]
        apply Int32.toInt_inj.mp
        have z : ¬ (s (82 + 6 * a + d) + 1).toInt < (99 : Int) := fun y => z (Int32.lt_iff_toInt_lt.mpr y)
        show (99 : Int) = _
        omega
    rw [e]
    exact R_uh R ha hd
  · rw [if_neg l]
    have z : ¬ s (82 + 6 * a + d) + 1 < 99 := fun y => by
      have y : (s (82 + 6 * a + d) + 1).toInt < (99 : Int) := Int32.lt_iff_toInt_lt.mp y
      omega
    rw [if_neg z, cup_id]
    · exact R
    · rw [R_h R ha hd]
      apply Int32.toInt_inj.mp
      show _ = (99 : Int)
      omega
theorem pou_R (R : R32 s c) {t : Nat} (ht : t < 6) : R32 (pou s t) (if phm s t = true then c else cup c (6 + 6 * 5 + t) (s (10 + 6 * t + 5) + 1)) := by
  unfold pou
  split
  · exact R
  · exact R_ut R ht (w := 5) (by decide)
/-- what a day leaves as it is -/
theorem pou_o {t j : Nat} (h : j ≠ 10 + 6 * t + 5) : pou s t j = s j := by
  unfold pou
  split
  · rfl
  · exact cup_o h
theorem pous_o : ∀ (n : Nat) {s : Nat → Int32} {t j : Nat}, (∀ i, t ≤ i → i < t + n → j ≠ 10 + 6 * i + 5) → pous s t n j = s j
  | 0, _, _, _, _ => rfl
  | n + 1, s, t, j, h => by
    show pous (pou s t) (t + 1) n j = s j
    rw [pous_o n (fun i h1 h2 => h i (by omega) (by omega)), pou_o (h t (by omega) (by omega))]
theorem pous_r : ∀ (n : Nat) {s : Nat → Int32} {t : Nat}, pous s t (n + 1) = pou (pous s t n) (t + n)
  | 0, _, _ => rfl
  | n + 1, s, t => by
    show pous (pou s t) (t + 1) (n + 1) = pou (pous (pou s t) (t + 1) n) (t + (n + 1))
    rw [pous_r n, show t + 1 + n = t + (n + 1) by omega]
end PAC
end
section
/-! Acts of the class. -/
section CA_9
variable {s : Nat → Int32} {m : xS} {F : Nat}
theorem a88_9 {t w : Nat} {v1 v2 v3 : Int32} (h1 : v1 = Int32.ofNat t) (h2 : v2 = Int32.ofNat w) (ht : t < 6) (hw : w < 6) : D88_9 F v1 v2 v3 m = some ((), xr m 10 (cup (m.1 10) (6 + 6 * w + t) v3)) := by
  subst h1
  subst h2
  have i := ix6 (A := 6) (B := 6) (a := w) (d := t) rfl (by decide) (by omega) (by omega)
  unfold D88_9
  rw [gxn i, if_pos (gxb i (by omega)), xu_xr]
theorem a75_9 {a d : Nat} {v1 v2 v3 : Int32} (h1 : v1 = Int32.ofNat a) (h2 : v2 = Int32.ofNat d) (ha : a < 6) (hd : d < 6) : D75_9 F v1 v2 v3 m = some ((), xr m 10 (cup (m.1 10) (78 + 6 * a + d) v3)) := by
  subst h1
  subst h2
  have i := ix6 (A := 78) (B := 78) (a := a) (d := d) rfl (by decide) (by omega) (by omega)
  unfold D75_9
  rw [gxn i, if_pos (gxb i (by omega)), xu_xr]
theorem a104_9 {t : Nat} {v1 v2 : Int32} (h1 : v1 = Int32.ofNat t) (ht : t < 6) : D104_9 F v1 v2 m = some ((), xr m 10 (cup (cup (cup (cup (m.1 10) (6 + 6 * 0 + t) v2) (6 + 6 * 3 + t) v2) (6 + 6 * 4 + t) 0) (6 + 6 * 5 + t) 0)) := by
  unfold D104_9
  refine ob (a88_9 h1 (w := 0) rfl ht (by decide)) (ob (a88_9 h1 (w := 3) rfl ht (by decide)) (ob (a88_9 h1 (w := 4) rfl ht (by decide)) (ob (a88_9 h1 (w := 5) rfl ht (by decide)) ?_)))
  simp only [xr_s, xr_xr]
theorem a103_9 (R : R32 s (m.1 10)) {t : Nat} {v1 : Int32} (h1 : v1 = Int32.ofNat t) (ht : t < 6) : ∃ c', D103_9 F v1 m = some ((), xr m 10 c') ∧ R32 (pgv s t (s (10 + 6 * t))) c' := by
  refine ⟨_, ?_, R_gv R ht⟩
  unfold D103_9
  exact ob (c87_9 R h1 (w := 0) rfl ht (by decide)) (ob (a104_9 h1 ht) rfl)
theorem a102_9 (R : R32 s (m.1 10)) (I : vI s) {t h : Nat} {v1 v2 : Int32} (h1 : v1 = Int32.ofNat t) (h2 : v2 = Int32.ofNat h) (ht : (t : Int) < (s 2).toInt) (hh : h < 6) : ∃ c', D102_9 F v1 v2 m = some ((), xr m 10 c') ∧ R32 (pld s t h) c' := by
  have t6 : t < 6 := by have := I_nt I; omega
  have it := I.2.1 t ht
  have n6 := I_n6 I
  obtain ⟨hol, eh⟩ : ∃ n : Nat, n = (s (10 + 6 * t + 3)).toInt.toNat := ⟨_, rfl⟩
  have eh2 : s (10 + 6 * t + 3) = Int32.ofNat hol := i32n (by omega)
  have R1 := R_th R I hh (d := hol) (by omega)
  have e4 : pth s (82 + 6 * h + hol) (10 + 6 * t + 4) = s (10 + 6 * t + 4) := pth_o (by omega)
  have R2 := R_ut (v := s (10 + 6 * t + 4) + 1) R1 t6 (w := 4) (by decide)
  have R3 := R_ut (v := v2) R2 t6 (w := 3) (by decide)
  refine ⟨_, ?_, (by unfold pld; rw [← eh, ← h2]; exact R3)⟩
  unfold D102_9
  refine ob (c87_9 R h1 (w := 3) rfl t6 (by decide)) (ob (c94_9 R h2 eh2 hh (by omega)) (ob (a75_9 h2 eh2 hh (by omega)) (ob (c87_9 (s := pth s (82 + 6 * h + hol)) (by rw [xr_s]; exact R1) h1 (w := 4) rfl t6 (by decide)) (ob (a88_9 h1 (w := 4) rfl t6 (by decide)) (ob (a88_9 h1 (w := 3) rfl t6 (by decide)) ?_)))))
  simp only [xr_s, xr_xr, e4]
theorem a108_9 (R : R32 s (m.1 10)) {w : Nat} {v1 : Int32} (h1 : v1 = Int32.ofNat w) (hw : w < 6) : ∃ c', D108_9 F v1 m = some (s (124 + 4 * w + 3), xr m 10 c') ∧ R32 (pwk s w) c' := by
  have R1 := R_ud (v := s 4) R hw
  have e5 : cup s (118 + w) (s 4) 5 = s 5 := cup_o (by omega)
  have R2 := R_uj (v := s 5 + s (124 + 4 * w + 3)) R1 (j := 5) (by decide) (by decide)
  refine ⟨_, ?_, R2⟩
  unfold D108_9
  refine ob (c89_9 R h1 (k := 3) rfl hw (by decide)) (ob (c81_9 R) ?_)
  have i := ix6 (A := 42) (B := 42) (a := 4) (d := w) rfl (by decide) (by omega) (by omega)
  have i : ((42 : Int32) + 6 * 4 + Int32.ofNat w).toInt = ((66 + w : Nat) : Int) := i
  subst h1
  unfold D90_9
  rw [gxn i, if_pos (gxb i (by omega))]
  refine ob rfl ?_
  have e : (cup (m.1 10) (66 + w) (s 4)) 5 = s 5 := by rw [cup_o (by omega), R_j R (by decide)]
  simp only [xu_xr, xr_s, xr_xr, e]
theorem a105_9 (hT : xT m) (R : R32 s (m.1 10)) {a d : Nat} {v1 v2 : Int32} (h1 : v1 = Int32.ofNat a) (h2 : v2 = Int32.ofNat d) (ha : a < 6) (hd : d < 6) (ne : a ≠ d) : ∃ c', D105_9 F v1 v2 m = some ((), xr m 10 c') ∧ R32 (pqu s a d) c' := by
  have b1 := b63 hT (r := 10) rfl (by decide) ha
  have b2 := b63 hT (r := 10) rfl (by decide) hd
  subst h1
  subst h2
  have R1 := R_uq (v := m.1 10 (72 + a) &&& (((1 : Int32) <<< (Int32.ofNat d &&& 31)) ^^^ (-1))) R ha hd (by rw [tb_nand b1.1 b1.2 hd hd, decide_eq_true rfl]; exact Bool.and_false _) (fun i hi z => by rw [tb_nand b1.1 b1.2 hd hi, decide_eq_false z]; exact Bool.and_true _)
  have e : cup (m.1 10) (72 + a) (m.1 10 (72 + a) &&& (((1 : Int32) <<< (Int32.ofNat d &&& 31)) ^^^ (-1))) (72 + d) = m.1 10 (72 + d) := cup_o (by omega)
  have R2 := R_uq (v := m.1 10 (72 + d) &&& (((1 : Int32) <<< (Int32.ofNat a &&& 31)) ^^^ (-1))) R1 hd ha (by rw [tb_nand b2.1 b2.2 ha ha, decide_eq_true rfl]; exact Bool.and_false _) (fun i hi z => by rw [tb_nand b2.1 b2.2 ha hi, decide_eq_false z, e]; exact Bool.and_true _)
  refine ⟨_, ?_, R2⟩
  have i := ix1 (A := 72) (B := 72) (d := a) rfl (by decide) (by omega)
  have j := ix1 (A := 72) (B := 72) (d := d) rfl (by decide) (by omega)
  unfold D105_9
  rw [gxn i, gxn j, if_pos (gxb i (by omega)), if_pos (gxb i (by omega)), if_pos (gxb j (by omega)), if_pos (gxb j (by omega))]
  simp only [xu_xr, xr_s, xr_xr, e]
theorem a112_2_9 (hd : 0 ≤ (s 4).toInt) (d9 : (s 4).toInt < 999) : ∀ (f : Nat) {t : Nat} {s' : Nat → Int32} {m : xS}, R32 s' (m.1 10) → s' 2 = s 2 → s' 4 = s 4 → (t : Int) ≤ (s 2).toInt → (s 2).toInt ≤ 6 → 6 - t < f → ∃ c', D112_9_2 F f (Int32.ofNat t) m = some ((), xr m 10 c') ∧ R32 (cup (pous s' t ((s 2).toInt.toNat - t)) 4 (s 4 + 1)) c' := by
  intro f
  induction f with
  | zero => intro t s' m _ _ _ _ _ l; omega
  | succ f ih =>
    intro t s' m R e2 e4 ht n6 l
    have et := nJ (n := t) (by omega)
    unfold D112_9_2
    by_cases h : (s 2).toInt ≤ (t : Int)
    · rw [show (s 2).toInt.toNat - t = 0 by omega]
      have R1 := R_uj (v := s 4 + 1) R (j := 4) (by decide) (by decide)
      refine ⟨_, ob (c79_9 R) (oi (p := true) (by rw [zc]; exact decide_eq_true (by dsimp only; rw [e2]; omega)) (fun _ => ob (c81_9 R) ?_) (fun z => by cases z)), R1⟩
      have e : (if s' 4 + 1 < 999 then s' 4 + 1 else 999) = s 4 + 1 := by
        rw [e4]
        have e1 : (s 4 + 1).toInt = (s 4).toInt + 1 := xa1 (by show _ ≤ _ + (1 : Int); omega) (by show _ + (1 : Int) ≤ _; omega)
        by_cases z : s 4 + 1 < 999
        · rw [if_pos z]
        · rw [if_neg z]
          apply Int32.toInt_inj.mp
          have z : ¬ (s 4 + 1).toInt < (999 : Int) := fun y => z (Int32.lt_iff_toInt_lt.mpr y)
          show (999 : Int) = _
          omega
      dsimp only
      rw [e, xu_xr]
    · have t6 : t < 6 := by omega
      rw [show (s 2).toInt.toNat - t = ((s 2).toInt.toNat - (t + 1)) + 1 by omega]
      show ∃ c', _ ∧ R32 (cup (pous (pou s' t) (t + 1) ((s 2).toInt.toNat - (t + 1))) 4 (s 4 + 1)) c'
      have next : ∀ {m' : xS}, R32 (pou s' t) (m'.1 10) → ∃ c', D112_9_32 F (D112_9_2 F f) (Int32.ofNat t) m' = some ((), xr m' 10 c') ∧ R32 (cup (pous (pou s' t) (t + 1) ((s 2).toInt.toNat - (t + 1))) 4 (s 4 + 1)) c' := fun {m'} R' => by
        unfold D112_9_32
        rw [show Int32.ofNat t + Int32.ofInt 1 = Int32.ofNat (t + 1) from xadd (a := t) (b := 1) (by omega)]
        exact ih R' (by rw [pou_o (by omega)]; exact e2) (by rw [pou_o (by omega)]; exact e4) (by omega) n6 (by omega)
      have R1 := pou_R R t6
      by_cases hm : phm s' t = true
      · rw [if_pos hm] at R1
        obtain ⟨c', k1, k2⟩ := next R1
        refine ⟨c', ob (c79_9 R) (oi (p := false) (by rw [zc]; exact decide_eq_false (by dsimp only; rw [e2]; omega)) (fun z => by cases z) (fun _ => ob (c97_9 R rfl t6) (oi (p := true) (by rw [pB2]; exact hm) (fun _ => k1) (fun z => by cases z)))), k2⟩
      · rw [if_neg hm] at R1
        obtain ⟨c', k1, k2⟩ := next (m' := xr m 10 (cup (m.1 10) (6 + 6 * 5 + t) (s' (10 + 6 * t + 5) + 1))) (by rw [xr_s]; exact R1)
        rw [xr_xr] at k1
        refine ⟨c', ob (c79_9 R) (oi (p := false) (by rw [zc]; exact decide_eq_false (by dsimp only; rw [e2]; omega)) (fun z => by cases z) (fun _ => ob (c97_9 R rfl t6) (oi (p := false) (by rw [pB2]; simpa using hm) (fun z => by cases z) (fun _ => ob (c87_9 R rfl (w := 5) rfl t6 (by decide)) (ob (a88_9 rfl (w := 5) rfl t6 (by decide)) k1))))), k2⟩
/-- passDay -/
theorem a112_9 (hF : 500 ≤ F) (R : R32 s (m.1 10)) (I : vI s) (d9 : (s 4).toInt < 999) : ∃ c', D112_9 F m = some ((), xr m 10 c') ∧ R32 (pdy s) c' := by
  have n := I_nt I
  have z := a112_2_9 (F := F) (I_day I).1 d9 F (t := 0) R rfl rfl (by omega) n.2 (by omega)
  exact z
end CA_9
section CA_11t
variable {s : Nat → Int32} {m : xS} {F : Nat}
theorem a88_11t {t w : Nat} {v1 v2 v3 : Int32} (h1 : v1 = Int32.ofNat t) (h2 : v2 = Int32.ofNat w) (ht : t < 6) (hw : w < 6) : D88_11t F v1 v2 v3 m = some ((), xr m 12 (cup (m.1 12) (6 + 6 * w + t) v3)) := by
  subst h1
  subst h2
  have i := ix6 (A := 6) (B := 6) (a := w) (d := t) rfl (by decide) (by omega) (by omega)
  unfold D88_11t
  rw [gxn i, if_pos (gxb i (by omega)), xu_xr]
theorem a75_11t {a d : Nat} {v1 v2 v3 : Int32} (h1 : v1 = Int32.ofNat a) (h2 : v2 = Int32.ofNat d) (ha : a < 6) (hd : d < 6) : D75_11t F v1 v2 v3 m = some ((), xr m 12 (cup (m.1 12) (78 + 6 * a + d) v3)) := by
  subst h1
  subst h2
  have i := ix6 (A := 78) (B := 78) (a := a) (d := d) rfl (by decide) (by omega) (by omega)
  unfold D75_11t
  rw [gxn i, if_pos (gxb i (by omega)), xu_xr]
theorem a104_11t {t : Nat} {v1 v2 : Int32} (h1 : v1 = Int32.ofNat t) (ht : t < 6) : D104_11t F v1 v2 m = some ((), xr m 12 (cup (cup (cup (cup (m.1 12) (6 + 6 * 0 + t) v2) (6 + 6 * 3 + t) v2) (6 + 6 * 4 + t) 0) (6 + 6 * 5 + t) 0)) := by
  unfold D104_11t
  refine ob (a88_11t h1 (w := 0) rfl ht (by decide)) (ob (a88_11t h1 (w := 3) rfl ht (by decide)) (ob (a88_11t h1 (w := 4) rfl ht (by decide)) (ob (a88_11t h1 (w := 5) rfl ht (by decide)) ?_)))
  simp only [xr_s, xr_xr]
theorem a103_11t (R : R32 s (m.1 12)) {t : Nat} {v1 : Int32} (h1 : v1 = Int32.ofNat t) (ht : t < 6) : ∃ c', D103_11t F v1 m = some ((), xr m 12 c') ∧ R32 (pgv s t (s (10 + 6 * t))) c' := by
  refine ⟨_, ?_, R_gv R ht⟩
  unfold D103_11t
  exact ob (c87_11t R h1 (w := 0) rfl ht (by decide)) (ob (a104_11t h1 ht) rfl)
theorem a102_11t (R : R32 s (m.1 12)) (I : vI s) {t h : Nat} {v1 v2 : Int32} (h1 : v1 = Int32.ofNat t) (h2 : v2 = Int32.ofNat h) (ht : (t : Int) < (s 2).toInt) (hh : h < 6) : ∃ c', D102_11t F v1 v2 m = some ((), xr m 12 c') ∧ R32 (pld s t h) c' := by
  have t6 : t < 6 := by have := I_nt I; omega
  have it := I.2.1 t ht
  have n6 := I_n6 I
  obtain ⟨hol, eh⟩ : ∃ n : Nat, n = (s (10 + 6 * t + 3)).toInt.toNat := ⟨_, rfl⟩
  have eh2 : s (10 + 6 * t + 3) = Int32.ofNat hol := i32n (by omega)
  have R1 := R_th R I hh (d := hol) (by omega)
  have e4 : pth s (82 + 6 * h + hol) (10 + 6 * t + 4) = s (10 + 6 * t + 4) := pth_o (by omega)
  have R2 := R_ut (v := s (10 + 6 * t + 4) + 1) R1 t6 (w := 4) (by decide)
  have R3 := R_ut (v := v2) R2 t6 (w := 3) (by decide)
  refine ⟨_, ?_, (by unfold pld; rw [← eh, ← h2]; exact R3)⟩
  unfold D102_11t
  refine ob (c87_11t R h1 (w := 3) rfl t6 (by decide)) (ob (c94_11t R h2 eh2 hh (by omega)) (ob (a75_11t h2 eh2 hh (by omega)) (ob (c87_11t (s := pth s (82 + 6 * h + hol)) (by rw [xr_s]; exact R1) h1 (w := 4) rfl t6 (by decide)) (ob (a88_11t h1 (w := 4) rfl t6 (by decide)) (ob (a88_11t h1 (w := 3) rfl t6 (by decide)) ?_)))))
  simp only [xr_s, xr_xr, e4]
theorem a108_11t (R : R32 s (m.1 12)) {w : Nat} {v1 : Int32} (h1 : v1 = Int32.ofNat w) (hw : w < 6) : ∃ c', D108_11t F v1 m = some (s (124 + 4 * w + 3), xr m 12 c') ∧ R32 (pwk s w) c' := by
  have R1 := R_ud (v := s 4) R hw
  have e5 : cup s (118 + w) (s 4) 5 = s 5 := cup_o (by omega)
  have R2 := R_uj (v := s 5 + s (124 + 4 * w + 3)) R1 (j := 5) (by decide) (by decide)
  refine ⟨_, ?_, R2⟩
  unfold D108_11t
  refine ob (c89_11t R h1 (k := 3) rfl hw (by decide)) (ob (c81_11t R) ?_)
  have i := ix6 (A := 42) (B := 42) (a := 4) (d := w) rfl (by decide) (by omega) (by omega)
  have i : ((42 : Int32) + 6 * 4 + Int32.ofNat w).toInt = ((66 + w : Nat) : Int) := i
  subst h1
  unfold D90_11t
  rw [gxn i, if_pos (gxb i (by omega))]
  refine ob rfl ?_
  have e : (cup (m.1 12) (66 + w) (s 4)) 5 = s 5 := by rw [cup_o (by omega), R_j R (by decide)]
  simp only [xu_xr, xr_s, xr_xr, e]
theorem a112_2_11t (hd : 0 ≤ (s 4).toInt) (d9 : (s 4).toInt < 999) : ∀ (f : Nat) {t : Nat} {s' : Nat → Int32} {m : xS}, R32 s' (m.1 12) → s' 2 = s 2 → s' 4 = s 4 → (t : Int) ≤ (s 2).toInt → (s 2).toInt ≤ 6 → 6 - t < f → ∃ c', D112_11t_2 F f (Int32.ofNat t) m = some ((), xr m 12 c') ∧ R32 (cup (pous s' t ((s 2).toInt.toNat - t)) 4 (s 4 + 1)) c' := by
  intro f
  induction f with
  | zero => intro t s' m _ _ _ _ _ l; omega
  | succ f ih =>
    intro t s' m R e2 e4 ht n6 l
    have et := nJ (n := t) (by omega)
    unfold D112_11t_2
    by_cases h : (s 2).toInt ≤ (t : Int)
    · rw [show (s 2).toInt.toNat - t = 0 by omega]
      have R1 := R_uj (v := s 4 + 1) R (j := 4) (by decide) (by decide)
      refine ⟨_, ob (c79_11t R) (oi (p := true) (by rw [zc]; exact decide_eq_true (by dsimp only; rw [e2]; omega)) (fun _ => ob (c81_11t R) ?_) (fun z => by cases z)), R1⟩
      have e : (if s' 4 + 1 < 999 then s' 4 + 1 else 999) = s 4 + 1 := by
        rw [e4]
        have e1 : (s 4 + 1).toInt = (s 4).toInt + 1 := xa1 (by show _ ≤ _ + (1 : Int); omega) (by show _ + (1 : Int) ≤ _; omega)
        by_cases z : s 4 + 1 < 999
        · rw [if_pos z]
        · rw [if_neg z]
          apply Int32.toInt_inj.mp
          have z : ¬ (s 4 + 1).toInt < (999 : Int) := fun y => z (Int32.lt_iff_toInt_lt.mpr y)
          show (999 : Int) = _
          omega
      dsimp only
      rw [e, xu_xr]
    · have t6 : t < 6 := by omega
      rw [show (s 2).toInt.toNat - t = ((s 2).toInt.toNat - (t + 1)) + 1 by omega]
      show ∃ c', _ ∧ R32 (cup (pous (pou s' t) (t + 1) ((s 2).toInt.toNat - (t + 1))) 4 (s 4 + 1)) c'
      have next : ∀ {m' : xS}, R32 (pou s' t) (m'.1 12) → ∃ c', D112_11t_32 F (D112_11t_2 F f) (Int32.ofNat t) m' = some ((), xr m' 12 c') ∧ R32 (cup (pous (pou s' t) (t + 1) ((s 2).toInt.toNat - (t + 1))) 4 (s 4 + 1)) c' := fun {m'} R' => by
        unfold D112_11t_32
        rw [show Int32.ofNat t + Int32.ofInt 1 = Int32.ofNat (t + 1) from xadd (a := t) (b := 1) (by omega)]
        exact ih R' (by rw [pou_o (by omega)]; exact e2) (by rw [pou_o (by omega)]; exact e4) (by omega) n6 (by omega)
      have R1 := pou_R R t6
      by_cases hm : phm s' t = true
      · rw [if_pos hm] at R1
        obtain ⟨c', k1, k2⟩ := next R1
        refine ⟨c', ob (c79_11t R) (oi (p := false) (by rw [zc]; exact decide_eq_false (by dsimp only; rw [e2]; omega)) (fun z => by cases z) (fun _ => ob (c97_11t R rfl t6) (oi (p := true) (by rw [pB2]; exact hm) (fun _ => k1) (fun z => by cases z)))), k2⟩
      · rw [if_neg hm] at R1
        obtain ⟨c', k1, k2⟩ := next (m' := xr m 12 (cup (m.1 12) (6 + 6 * 5 + t) (s' (10 + 6 * t + 5) + 1))) (by rw [xr_s]; exact R1)
        rw [xr_xr] at k1
        refine ⟨c', ob (c79_11t R) (oi (p := false) (by rw [zc]; exact decide_eq_false (by dsimp only; rw [e2]; omega)) (fun z => by cases z) (fun _ => ob (c97_11t R rfl t6) (oi (p := false) (by rw [pB2]; simpa using hm) (fun z => by cases z) (fun _ => ob (c87_11t R rfl (w := 5) rfl t6 (by decide)) (ob (a88_11t rfl (w := 5) rfl t6 (by decide)) k1))))), k2⟩
/-- passDay -/
theorem a112_11t (hF : 500 ≤ F) (R : R32 s (m.1 12)) (I : vI s) (d9 : (s 4).toInt < 999) : ∃ c', D112_11t F m = some ((), xr m 12 c') ∧ R32 (pdy s) c' := by
  have n := I_nt I
  have z := a112_2_11t (F := F) (I_day I).1 d9 F (t := 0) R rfl rfl (by omega) n.2 (by omega)
  exact z
end CA_11t
end
section
/-! What holds of a village is kept by each act. -/
def vIo (s : Nat → Int32) (t : Nat) : Prop := (0 ≤ (s (10 + 6 * t)).toInt ∧ (s (10 + 6 * t)).toInt < (s 0).toInt) ∧ (0 ≤ (s (10 + 6 * t + 3)).toInt ∧ (s (10 + 6 * t + 3)).toInt < (s 0).toInt) ∧ (s (10 + 6 * t + 3) = s (10 + 6 * t) → s (10 + 6 * t + 4) = 0 ∧ s (10 + 6 * t + 5) = 0) ∧ (0 ≤ (s (10 + 6 * t + 5)).toInt ∧ (s (10 + 6 * t + 5)).toInt ≤ (s 4).toInt)
/-- a ring's thanks -/
def prg (s : Nat → Int32) (a d : Nat) : Nat → Int32 := cup s (82 + 6 * a + d) (s (82 + 6 * a + d) - 1)
section PIN
variable {s s' : Nat → Int32} {v : Int32}
theorem I_tool (I : vI s) {t0 : Nat} (h : ∀ j, ¬ (10 + 6 * t0 ≤ j ∧ j < 16 + 6 * t0) → ¬ (82 ≤ j ∧ j < 118) → s' j = s j) (t6 : t0 < 6) (hq : vIo s' t0) (hh : ∀ a d : Nat, a < 6 → d < 6 → 0 ≤ (s' (82 + 6 * a + d)).toInt ∧ (s' (82 + 6 * a + d)).toInt ≤ 99) (hd : ∀ a : Nat, a < 6 → s' (82 + 6 * a + a) = 0) : vI s' := by
  have e0 : s' 0 = s 0 := h 0 (by omega) (by omega)
  have e1 : s' 1 = s 1 := h 1 (by omega) (by omega)
  have e2 : s' 2 = s 2 := h 2 (by omega) (by omega)
  have e3 : s' 3 = s 3 := h 3 (by omega) (by omega)
  have e4 : s' 4 = s 4 := h 4 (by omega) (by omega)
  refine ⟨?_, fun t ht => ?_, fun w hw => ?_, fun a ha => ⟨?_, hd a ha⟩, hh⟩
  · unfold vIa
    rw [e0, e1, e2, e3, e4]
    exact I.1
  · by_cases z : t = t0
    · subst z
      exact hq
    · rw [e2] at ht
      have l := I_nt I
      rw [h (10 + 6 * t) (by omega) (by omega), h (10 + 6 * t + 3) (by omega) (by omega), h (10 + 6 * t + 4) (by omega) (by omega), h (10 + 6 * t + 5) (by omega) (by omega), e0, e4]
      exact I.2.1 t ht
  · rw [e3] at hw
    have l := I_nw I
    rw [h (124 + 4 * w) (by omega) (by omega), h (118 + w) (by omega) (by omega), e0]
    exact I.2.2.1 w hw
  · rw [h (46 + 6 * a + a) (by omega) (by omega)]
    exact (I.2.2.2.1 a ha).1
theorem pgv_o {t j : Nat} (h : ¬ (10 + 6 * t ≤ j ∧ j < 16 + 6 * t)) : pgv s t v j = s j := by
  unfold pgv
  rw [cup_o (by omega), cup_o (by omega), cup_o (by omega), cup_o (by omega)]
theorem pgv_5 {t : Nat} : pgv s t v (10 + 6 * t + 5) = 0 := cup_s _ _ _
theorem pgv_4 {t : Nat} : pgv s t v (10 + 6 * t + 4) = 0 := (cup_o (by omega)).trans (cup_s _ _ _)
theorem pgv_3 {t : Nat} : pgv s t v (10 + 6 * t + 3) = v := (cup_o (by omega)).trans ((cup_o (by omega)).trans (cup_s _ _ _))
theorem pgv_0 {t : Nat} : pgv s t v (10 + 6 * t) = v := (cup_o (by omega)).trans ((cup_o (by omega)).trans ((cup_o (by omega)).trans (cup_s _ _ _)))
theorem I_gv (I : vI s) {t : Nat} (ht : (t : Int) < (s 2).toInt) (h0 : 0 ≤ v.toInt) (h1 : v.toInt < (s 0).toInt) : vI (pgv s t v) := by
  have l := I_nt I
  have dy := I_day I
  refine I_tool I (t0 := t) (fun j z _ => pgv_o z) (by omega) ?_ (fun a d ha hd => ?_) (fun a ha => ?_)
  · unfold vIo
    rw [pgv_0, pgv_3, pgv_4, pgv_5, pgv_o (by omega), pgv_o (by omega)]
    exact ⟨⟨h0, h1⟩, ⟨h0, h1⟩, fun _ => ⟨rfl, rfl⟩, Int.le_refl _, dy.1⟩
  · rw [pgv_o (by omega)]
    exact I.2.2.2.2 a d ha hd
  · rw [pgv_o (by omega)]
    exact (I.2.2.2.1 a ha).2
theorem pth_s {k : Nat} : pth s k k = if (s k).toInt < 99 then s k + 1 else s k := by
  unfold pth
  split
  · exact cup_s _ _ _
  · rfl
theorem pld_3 {t h : Nat} : pld s t h (10 + 6 * t + 3) = Int32.ofNat h := cup_s _ _ _
theorem pld_4 {t h : Nat} : pld s t h (10 + 6 * t + 4) = s (10 + 6 * t + 4) + 1 := (cup_o (by omega)).trans (cup_s _ _ _)
theorem pld_o {t h j : Nat} (h3 : j ≠ 10 + 6 * t + 3) (h4 : j ≠ 10 + 6 * t + 4) : pld s t h j = pth s (82 + 6 * h + (s (10 + 6 * t + 3)).toInt.toNat) j := (cup_o h3).trans (cup_o h4)
theorem pcl_iff {t h : Nat} : pcl s t h = true ↔ s (10 + 6 * t + 3) ≠ Int32.ofNat h ∧ s (10 + 6 * t) ≠ Int32.ofNat h ∧ ptr s (s (10 + 6 * t + 3)).toInt.toNat h = true := by
  unfold pcl
  simp only [Bool.and_eq_true, Bool.not_eq_true', beq_eq_false_iff_ne, ne_eq]
theorem I_ld (I : vI s) {t h : Nat} (ht : (t : Int) < (s 2).toInt) (hh : (h : Int) < (s 0).toInt) (c : pcl s t h = true) : vI (pld s t h) := by
  have l := I_nt I
  have n6 := I_n6 I
  obtain ⟨i0, i3, -, i5⟩ := I.2.1 t ht
  obtain ⟨c1, c2, -⟩ := pcl_iff.mp c
  obtain ⟨hol, eh⟩ : ∃ n : Nat, n = (s (10 + 6 * t + 3)).toInt.toNat := ⟨_, rfl⟩
  have eh2 : s (10 + 6 * t + 3) = Int32.ofNat hol := by rw [eh]; exact i32n (by omega)
  have ne : hol ≠ h := fun z => c1 (by rw [eh2, z])
  have eI := nJ (n := h) (by omega)
  refine I_tool I (t0 := t) (fun j z1 z2 => ?_) (by omega) ?_ (fun a d ha hd => ?_) (fun a ha => ?_)
  · rw [pld_o (by omega) (by omega), pth_o (by omega)]
  · unfold vIo
    rw [pld_3, pld_4, pld_o (by omega) (by omega), pld_o (by omega) (by omega), pld_o (by omega) (by omega), pld_o (by omega) (by omega), ← eh, pth_o (by omega), pth_o (by omega), pth_o (by omega), pth_o (by omega), eI]
    exact ⟨i0, ⟨by omega, hh⟩, fun z => absurd z.symm c2, i5⟩
  · rw [pld_o (by omega) (by omega), ← eh]
    have b := I.2.2.2.2 a d ha hd
    by_cases z : 82 + 6 * a + d = 82 + 6 * h + hol
    · rw [z, pth_s, ← z]
      split
      · have e1 : (s (82 + 6 * a + d) + 1).toInt = (s (82 + 6 * a + d)).toInt + 1 := xa1 (by show _ ≤ _ + (1 : Int); omega) (by show _ + (1 : Int) ≤ _; omega)
        omega
      · exact b
    · rw [pth_o z]
      exact b
  · rw [pld_o (by omega) (by omega), ← eh, pth_o (by omega)]
    exact (I.2.2.2.1 a ha).2
theorem I_wk (I : vI s) {w : Nat} (hw : (w : Int) < (s 3).toInt) : vI (pwk s w) := by
  have l := I_nw I
  have lt := I_nt I
  have dy := I_day I
  have e : ∀ j, j ≠ 5 → j ≠ 118 + w → pwk s w j = s j := fun j z1 z2 => (cup_o z1).trans (cup_o z2)
  have ew : pwk s w (118 + w) = s 4 := (cup_o (by omega)).trans (cup_s _ _ _)
  refine ⟨?_, fun t ht => ?_, fun u hu => ?_, fun a ha => ?_, fun a d ha hd => ?_⟩
  · unfold vIa
    rw [e 0 (by omega) (by omega), e 1 (by omega) (by omega), e 2 (by omega) (by omega), e 3 (by omega) (by omega), e 4 (by omega) (by omega)]
    exact I.1
  · rw [e 2 (by omega) (by omega)] at ht
    rw [e 0 (by omega) (by omega), e 4 (by omega) (by omega), e _ (by omega) (by omega), e _ (by omega) (by omega), e _ (by omega) (by omega), e _ (by omega) (by omega)]
    exact I.2.1 t ht
  · rw [e 3 (by omega) (by omega)] at hu
    rw [e 0 (by omega) (by omega), e (124 + 4 * u) (by omega) (by omega)]
    refine ⟨(I.2.2.1 u hu).1, ?_⟩
    by_cases z : u = w
    · subst z
      rw [ew]
      omega
    · rw [e _ (by omega) (by omega)]
      exact (I.2.2.1 u hu).2
  · rw [e _ (by omega) (by omega), e _ (by omega) (by omega)]
    exact I.2.2.2.1 a ha
  · rw [e _ (by omega) (by omega)]
    exact I.2.2.2.2 a d ha hd
theorem I_qu (I : vI s) {a d : Nat} (ha : a < 6) (hd : d < 6) : vI (pqu s a d) := by
  have lt := I_nt I
  have l := I_nw I
  have e : ∀ j, ¬ (46 ≤ j ∧ j < 82) → pqu s a d j = s j := fun j z => (cup_o (by omega)).trans (cup_o (by omega))
  refine ⟨?_, fun t ht => ?_, fun u hu => ?_, fun b hb => ?_, fun b f hb hf => ?_⟩
  · unfold vIa
    rw [e 0 (by omega), e 1 (by omega), e 2 (by omega), e 3 (by omega), e 4 (by omega)]
    exact I.1
  · rw [e 2 (by omega)] at ht
    rw [e 0 (by omega), e 4 (by omega), e _ (by omega), e _ (by omega), e _ (by omega), e _ (by omega)]
    exact I.2.1 t ht
  · rw [e 3 (by omega)] at hu
    rw [e 0 (by omega), e _ (by omega), e _ (by omega)]
    exact I.2.2.1 u hu
  · have k := I.2.2.2.1 b hb
    rw [e (82 + 6 * b + b) (by omega)]
    refine ⟨?_, k.2⟩
    unfold pqu cup
    split
    · rfl
    · split
      · rfl
      · exact k.1
  · rw [e _ (by omega)]
    exact I.2.2.2.2 b f hb hf
theorem I_rg (I : vI s) {a d : Nat} (ha : a < 6) (hd : d < 6) (ne : a ≠ d) (h : 0 < (s (82 + 6 * a + d)).toInt) : vI (prg s a d) := by
  have lt := I_nt I
  have l := I_nw I
  have e : ∀ j, j ≠ 82 + 6 * a + d → prg s a d j = s j := fun j z => cup_o z
  refine ⟨?_, fun t ht => ?_, fun u hu => ?_, fun b hb => ?_, fun b f hb hf => ?_⟩
  · unfold vIa
    rw [e 0 (by omega), e 1 (by omega), e 2 (by omega), e 3 (by omega), e 4 (by omega)]
    exact I.1
  · rw [e 2 (by omega)] at ht
    rw [e 0 (by omega), e 4 (by omega), e _ (by omega), e _ (by omega), e _ (by omega), e _ (by omega)]
    exact I.2.1 t ht
  · rw [e 3 (by omega)] at hu
    rw [e 0 (by omega), e _ (by omega), e _ (by omega)]
    exact I.2.2.1 u hu
  · rw [e (46 + 6 * b + b) (by omega), e (82 + 6 * b + b) (by omega)]
    exact I.2.2.2.1 b hb
  · by_cases z : 82 + 6 * b + f = 82 + 6 * a + d
    · rw [z]
      have e2 : prg s a d (82 + 6 * a + d) = s (82 + 6 * a + d) - 1 := cup_s _ _ _
      rw [e2]
      have b9 := I.2.2.2.2 a d ha hd
      have e1 : (s (82 + 6 * a + d) - 1).toInt = (s (82 + 6 * a + d)).toInt - 1 := xs1 (by show _ ≤ _ - (1 : Int); omega) (by show _ - (1 : Int) ≤ _; omega)
      omega
    · rw [e _ z]
      exact I.2.2.2.2 b f hb hf
theorem phm_pou {t u : Nat} : phm (pou s t) u = phm s u := by
  unfold phm
  rw [pou_o (by omega), pou_o (by omega)]
theorem pous_s : ∀ (n : Nat) {s : Nat → Int32} {t u : Nat}, t ≤ u → u < t + n → pous s t n (10 + 6 * u + 5) = if phm s u = true then s (10 + 6 * u + 5) else s (10 + 6 * u + 5) + 1
  | 0, _, _, _, h1, h2 => by omega
  | n + 1, s, t, u, h1, h2 => by
    show pous (pou s t) (t + 1) n (10 + 6 * u + 5) = _
    by_cases z : u = t
    · subst z
      rw [pous_o n (fun i a b => by omega)]
      unfold pou
      split
      · rfl
      · exact cup_s _ _ _
    · rw [pous_s n (by omega) (by omega), phm_pou, pou_o (by omega)]
theorem pdy_4 : pdy s 4 = s 4 + 1 := cup_s _ _ _
theorem pdy_o (I : vI s) {j : Nat} (h : ∀ i : Nat, i < 6 → j ≠ 10 + 6 * i + 5) (h4 : j ≠ 4) : pdy s j = s j := (cup_o h4).trans (pous_o _ (fun i a b => h i (by have := I_nt I; omega)))
theorem pdy_5 (I : vI s) {t : Nat} (ht : (t : Int) < (s 2).toInt) : pdy s (10 + 6 * t + 5) = if phm s t = true then s (10 + 6 * t + 5) else s (10 + 6 * t + 5) + 1 := (cup_o (by omega)).trans (pous_s _ (by omega) (by omega))
theorem I_dy (I : vI s) (d9 : (s 4).toInt < 2000) : vI (pdy s) := by
  have lt := I_nt I
  have l := I_nw I
  have dy := I_day I
  have e0 : pdy s 0 = s 0 := pdy_o I (fun i _ => by omega) (by decide)
  have e1 : pdy s 1 = s 1 := pdy_o I (fun i _ => by omega) (by decide)
  have e2 : pdy s 2 = s 2 := pdy_o I (fun i _ => by omega) (by decide)
  have e3 : pdy s 3 = s 3 := pdy_o I (fun i _ => by omega) (by decide)
  have e4 : (pdy s 4).toInt = (s 4).toInt + 1 := by
    rw [pdy_4]
    exact xa1 (by show _ ≤ _ + (1 : Int); omega) (by show _ + (1 : Int) ≤ _; omega)
  refine ⟨?_, fun t ht => ?_, fun u hu => ?_, fun b hb => ?_, fun b f hb hf => ?_⟩
  · unfold vIa
    rw [e0, e1, e2, e3, e4]
    exact ⟨I.1.1, I.1.2.1, I.1.2.2.1, I.1.2.2.2.1, by omega, by omega⟩
  · rw [e2] at ht
    obtain ⟨i0, i3, i4, i5⟩ := I.2.1 t ht
    rw [e0, e4, pdy_5 I ht, pdy_o I (fun i _ => by omega) (by omega), pdy_o I (fun i _ => by omega) (by omega), pdy_o I (fun i _ => by omega) (by omega)]
    refine ⟨i0, i3, fun z => ?_, ?_⟩
    · rw [if_pos (show phm s t = true by unfold phm; rw [z]; exact beq_self_eq_true _)]
      exact i4 z
    · split
      · exact ⟨i5.1, by omega⟩
      · have k : (s (10 + 6 * t + 5) + 1).toInt = (s (10 + 6 * t + 5)).toInt + 1 := xa1 (by show _ ≤ _ + (1 : Int); omega) (by show _ + (1 : Int) ≤ _; omega)
        omega
  · rw [e3] at hu
    rw [e0, pdy_o I (fun i _ => by omega) (by omega), pdy_o I (fun i _ => by omega) (by omega)]
    exact I.2.2.1 u hu
  · rw [pdy_o I (fun i _ => by omega) (by omega), pdy_o I (fun i _ => by omega) (by omega)]
    exact I.2.2.2.1 b hb
  · rw [pdy_o I (fun i _ => by omega) (by omega)]
    exact I.2.2.2.2 b f hb hf
end PIN
end
section
/-! Acts of the reference. -/
def plc (s : Nat → Int32) : Nat → Nat → Int32 → Int32
  | _, 0, v => v
  | t, n + 1, v => plc s (t + 1) n (if plt s t = true then v + 1 else v)
section RA
variable {m : xS} {F : Nat} {s : Nat → Int32}
theorem r223_36 {t : Nat} {v1 v2 v3 : Int32} (h1 : v1 = Int32.ofNat t) (ht : t < 6) : D223_36 F v1 v2 v3 m = some ((), xr m 80 (cup (cup (m.1 80) (10 + 6 * t + 3) v2) (10 + 6 * t + 4) (m.1 80 (10 + 6 * t + 4) + 1))) := by
  subst h1
  have i3 : ((10 : Int32) + 6 * Int32.ofNat t + 3).toInt = ((10 + 6 * t + 3 : Nat) : Int) := ix6 (A := 10) (B := 10) (a := t) (d := 3) rfl (by decide) (by omega) (by omega)
  have i4 : ((10 : Int32) + 6 * Int32.ofNat t + 4).toInt = ((10 + 6 * t + 4 : Nat) : Int) := ix6 (A := 10) (B := 10) (a := t) (d := 4) rfl (by decide) (by omega) (by omega)
  have e : cup (m.1 80) (10 + 6 * t + 3) v2 (10 + 6 * t + 4) = m.1 80 (10 + 6 * t + 4) := cup_o (by omega)
  unfold D223_36
  rw [gxn i3, gxn i4, if_pos (gxb i3 (by omega)), if_pos (gxb i4 (by omega)), if_pos (gxb i4 (by omega))]
  simp only [xu_xr, xr_s, xr_xr, e]
theorem r223 (I : vI (m.1 80)) {t h : Nat} {v1 v2 : Int32} (h1 : v1 = Int32.ofNat t) (h2 : v2 = Int32.ofNat h) (ht : (t : Int) < (m.1 80 2).toInt) (hh : h < 6) : D223 F v1 v2 m = some ((), xr m 80 (pld (m.1 80) t h)) := by
  have t6 : t < 6 := by have := I_nt I; omega
  have it := I.2.1 t ht
  have n6 := I_n6 I
  obtain ⟨hol, eh⟩ : ∃ n : Nat, n = (m.1 80 (10 + 6 * t + 3)).toInt.toNat := ⟨_, rfl⟩
  have eh2 : m.1 80 (10 + 6 * t + 3) = Int32.ofNat hol := by rw [eh]; exact i32n (by omega)
  have i := ix6 (A := 82) (B := 82) (a := h) (d := hol) rfl (by decide) (by omega) (by omega)
  have ep : pld (m.1 80) t h = cup (cup (pth (m.1 80) (82 + 6 * h + hol)) (10 + 6 * t + 3) (Int32.ofNat h)) (10 + 6 * t + 4) (m.1 80 (10 + 6 * t + 4) + 1) := by
    unfold pld
    rw [← eh]
    exact cup_sw (by omega)
  subst h2
  unfold D223
  refine ob (r208 h1 (w := 3) rfl t6 (by decide)) ?_
  dsimp only
  rw [ep, eh2, gxn i, if_pos (gxb i (by omega))]
  refine oi (p := decide (99 ≤ (m.1 80 (82 + 6 * h + hol)).toInt)) zc (fun l => ?_) (fun l => ?_)
  · have l := of_decide_eq_true l
    have e : pth (m.1 80) (82 + 6 * h + hol) = m.1 80 := if_neg (by omega)
    rw [e]
    exact r223_36 h1 t6
  · have l := of_decide_eq_false l
    have e : pth (m.1 80) (82 + 6 * h + hol) = cup (m.1 80) (82 + 6 * h + hol) (m.1 80 (82 + 6 * h + hol) + 1) := if_pos (by omega)
    have e4 : cup (m.1 80) (82 + 6 * h + hol) (m.1 80 (82 + 6 * h + hol) + 1) (10 + 6 * t + 4) = m.1 80 (10 + 6 * t + 4) := cup_o (by omega)
    rw [if_pos (gxb i (by omega)), if_pos (gxb i (by omega)), e, r223_36 h1 t6]
    simp only [xu_xr, xr_s, xr_xr, e4]
theorem r224 {t : Nat} {v1 : Int32} (h1 : v1 = Int32.ofNat t) (ht : t < 6) : D224 F v1 m = some ((), xr m 80 (pgv (m.1 80) t (m.1 80 (10 + 6 * t)))) := by
  subst h1
  have i3 : ((10 : Int32) + 6 * Int32.ofNat t + 3).toInt = ((10 + 6 * t + 3 : Nat) : Int) := ix6 (A := 10) (B := 10) (a := t) (d := 3) rfl (by decide) (by omega) (by omega)
  have i4 : ((10 : Int32) + 6 * Int32.ofNat t + 4).toInt = ((10 + 6 * t + 4 : Nat) : Int) := ix6 (A := 10) (B := 10) (a := t) (d := 4) rfl (by decide) (by omega) (by omega)
  have i5 : ((10 : Int32) + 6 * Int32.ofNat t + 5).toInt = ((10 + 6 * t + 5 : Nat) : Int) := ix6 (A := 10) (B := 10) (a := t) (d := 5) rfl (by decide) (by omega) (by omega)
  unfold D224 pgv
  refine ob (r208 rfl (w := 0) rfl ht (by decide)) ?_
  dsimp only
  rw [cup_id _ _ rfl, gxn i3, gxn i4, gxn i5, if_pos (gxb i3 (by omega)), if_pos (gxb i4 (by omega)), if_pos (gxb i5 (by omega))]
  simp only [xu_xr, xr_s, xr_xr]
  rfl
theorem r231 {t : Nat} {v1 v2 : Int32} (h1 : v1 = Int32.ofNat t) (ht : t < 6) : D231 F v1 v2 m = some ((), xr m 80 (pgv (m.1 80) t v2)) := by
  have i0 : ((10 : Int32) + 6 * Int32.ofNat t).toInt = ((10 + 6 * t : Nat) : Int) := ixT (nJ (n := t) (by omega)) (by omega)
  unfold D231
  rw [h1, gxn i0, if_pos (gxb i0 (by omega))]
  refine ob (r224 rfl ht) ?_
  unfold pgv
  simp only [xu_xr, xr_s, xr_xr, cup_s]
  rw [cup_id (cup (m.1 80) (10 + 6 * t) v2) _ (cup_s _ _ _)]
theorem r225 {w : Nat} {v1 : Int32} (h1 : v1 = Int32.ofNat w) (hw : w < 6) : D225 F v1 m = some (m.1 80 (124 + 4 * w + 3), xr m 80 (pwk (m.1 80) w)) := by
  have i := ix1 (A := 118) (B := 118) (d := w) rfl (by decide) (by omega)
  have e5 : cup (m.1 80) (118 + w) (m.1 80 4) 5 = m.1 80 5 := cup_o (by omega)
  have e3 : cup (m.1 80) (118 + w) (m.1 80 4) (124 + 4 * w + 3) = m.1 80 (124 + 4 * w + 3) := cup_o (by omega)
  unfold D225 pwk
  rw [h1, gxn i, if_pos (gxb i (by omega))]
  simp only [xu_xr, xr_s]
  refine ob (r209 rfl (k := 3) rfl hw (by decide)) (ob (r209 rfl (k := 3) rfl hw (by decide)) ?_)
  simp only [xr_s, xr_xr, e5, e3]
  rw [cup_o (by omega), e3]
theorem r229 {a d : Nat} {v1 v2 : Int32} (h1 : v1 = Int32.ofNat a) (h2 : v2 = Int32.ofNat d) (ha : a < 6) (hd : d < 6) : D229 F v1 v2 m = some ((), xr m 80 (pqu (m.1 80) a d)) := by
  have i1 := ix6 (A := 46) (B := 46) (a := a) (d := d) rfl (by decide) (by omega) (by omega)
  have i2 := ix6 (A := 46) (B := 46) (a := d) (d := a) rfl (by decide) (by omega) (by omega)
  unfold D229 pqu
  rw [h1, h2, gxn i1, gxn i2, if_pos (gxb i1 (by omega)), if_pos (gxb i2 (by omega))]
  simp only [xu_xr, xr_s, xr_xr]
theorem plt_home (I : vI s) {t : Nat} (h : phm s t = true) : plt s t = false := by
  unfold plt prs
  rw [if_pos (Or.inl h)]
  rfl
theorem phm_pous : ∀ (n : Nat) {s : Nat → Int32} {t u : Nat}, phm (pous s t n) u = phm s u := fun n {s t u} => by
  unfold phm
  rw [pous_o n (fun i _ _ => by omega), pous_o n (fun i _ _ => by omega)]
/-- whether it is late then -/
theorem plt_dy (I : vI s) {t : Nat} (ht : (t : Int) < (s 2).toInt) (h : phm s t = false) : plt (pdy s) t = decide ((s 1).toInt < (s (10 + 6 * t + 5) + 1).toInt) := by
  have l1 := I_late I
  have dy := I_day I
  obtain ⟨-, -, -, i5⟩ := I.2.1 t ht
  have k : (s (10 + 6 * t + 5) + 1).toInt = (s (10 + 6 * t + 5)).toInt + 1 := xa1 (by show _ ≤ _ + (1 : Int); omega) (by show _ + (1 : Int) ≤ _; omega)
  have hm : phm (pdy s) t = false := by
    unfold phm
    rw [pdy_o I (fun i _ => by omega) (by omega), pdy_o I (fun i _ => by omega) (by omega)]
    exact h
  have k2 : (s (10 + 6 * t + 5) + 1 - s 1).toInt = (s (10 + 6 * t + 5) + 1).toInt - (s 1).toInt := xs1 (by have := y32 (s 1); omega) (by omega)
  unfold plt prs
  rw [pdy_5 I ht, pdy_o I (j := 1) (fun i _ => by omega) (by decide), h, if_neg (show ¬ (false = true) by decide)]
  by_cases l : (s (10 + 6 * t + 5) + 1 - s 1).toInt < 0
  · rw [if_pos (Or.inr l)]
    exact decide_eq_decide.mpr ⟨fun z => absurd z (by decide), fun z => by omega⟩
  · rw [if_neg (fun z => Or.elim z (fun q => by rw [hm] at q; cases q) l)]
    exact decide_eq_decide.mpr ⟨fun z => by omega, fun z => by omega⟩
/-- the part of a day that is told of the tools ahead -/
theorem r233_4 (I : vI s) : ∀ (f : Nat) {t : Nat} {v : Int32} {m : xS}, m.1 80 = pous s 0 t → (t : Int) ≤ (s 2).toInt → 6 - t < f → D233_4 F f v (Int32.ofNat t) m = some (plc (pdy s) t ((s 2).toInt.toNat - t) v, xr m 80 (pdy s)) := by
  have n6 := I_nt I
  intro f
  induction f with
  | zero => intro t v m _ _ l; omega
  | succ f ih =>
    intro t v m e ht l
    have et := nJ (n := t) (by omega)
    have e1 : m.1 80 1 = s 1 := by rw [e, pous_o t (fun i _ _ => by omega)]
    have e2 : m.1 80 2 = s 2 := by rw [e, pous_o t (fun i _ _ => by omega)]
    have e4 : m.1 80 4 = s 4 := by rw [e, pous_o t (fun i _ _ => by omega)]
    unfold D233_4
    rw [e2]
    refine oi (p := decide ((s 2).toInt ≤ (Int32.ofNat t).toInt)) zc (fun h => ?_) (fun h => ?_)
    · have h := of_decide_eq_true h
      have et2 : t = (s 2).toInt.toNat := by omega
      rw [show (s 2).toInt.toNat - t = 0 by omega, e4, xu_xr, e, et2]
      rfl
    · have h := of_decide_eq_false h
      have t2 : (t : Int) < (s 2).toInt := by omega
      have hp : pous s 0 (t + 1) = pou (pous s 0 t) t := by rw [pous_r t, Nat.zero_add]
      have em : phm (m.1 80) t = phm s t := by rw [e, phm_pous]
      rw [show (s 2).toInt.toNat - t = ((s 2).toInt.toNat - (t + 1)) + 1 by omega]
      show _ = some (plc (pdy s) (t + 1) ((s 2).toInt.toNat - (t + 1)) (if plt (pdy s) t = true then v + 1 else v), _)
      have next : ∀ {m' : xS} {v' : Int32}, m'.1 80 = pous s 0 (t + 1) → D233_66 F (D233_4 F f) v' (Int32.ofNat t) m' = some (plc (pdy s) (t + 1) ((s 2).toInt.toNat - (t + 1)) v', xr m' 80 (pdy s)) := fun {m' v'} q => by
        unfold D233_66
        rw [show Int32.ofNat t + Int32.ofInt 1 = Int32.ofNat (t + 1) from xadd (a := t) (b := 1) (by omega)]
        exact ih q (by omega) (by omega)
      refine ob (r212 rfl (by omega)) (oi (p := !phm s t) (by rw [em]; exact pB1) (fun a => ?_) (fun a => ?_))
      · have a : phm s t = false := by simpa using a
        have i5 : ((10 : Int32) + 6 * Int32.ofNat t + 5).toInt = ((10 + 6 * t + 5 : Nat) : Int) := ix6 (A := 10) (B := 10) (a := t) (d := 5) rfl (by decide) (by omega) (by omega)
        have eo : m.1 80 (10 + 6 * t + 5) = s (10 + 6 * t + 5) := by rw [e, pous_o t (fun i _ _ => by omega)]
        rw [plt_dy I t2 a, gxn i5, if_pos (gxb i5 (by omega)), if_pos (gxb i5 (by omega))]
        have hq : cup (m.1 80) (10 + 6 * t + 5) (m.1 80 (10 + 6 * t + 5) + 1) = pous s 0 (t + 1) := by
          rw [hp, ← e]
          unfold pou
          rw [if_neg (by rw [em, a]; decide)]
        dsimp only
        simp only [xu_xr, hq]
        have z5 : pous s 0 (t + 1) (10 + 6 * t + 5) = s (10 + 6 * t + 5) + 1 := by rw [← hq, cup_s, eo]
        have z1 : pous s 0 (t + 1) 1 = s 1 := pous_o _ (fun i _ _ => by omega)
        refine ob (r208 rfl (w := 5) rfl (by omega) (by decide)) ?_
        simp only [xr_s]
        rw [z5, z1]
        refine oi (p := decide ((s (10 + 6 * t + 5) + 1).toInt ≤ (s 1).toInt)) zcle (fun b => ?_) (fun b => ?_)
        · have b := of_decide_eq_true b
          unfold D233_64
          rw [next (xr_s _ _ _), xr_xr, decide_eq_false (by omega), if_neg (by decide)]
          exact congrArg (fun z => some (plc _ _ _ z, _)) (Int32.add_zero v)
        · have b := of_decide_eq_false b
          unfold D233_64
          rw [next (xr_s _ _ _), xr_xr, decide_eq_true (by omega), if_pos rfl]
      · have a : phm s t = true := by simpa using a
        have hm : phm (pdy s) t = true := by
          unfold phm
          rw [pdy_o I (fun i _ => by omega) (by omega), pdy_o I (fun i _ => by omega) (by omega)]
          exact a
        have z : plt (pdy s) t = false := by
          unfold plt prs
          rw [if_pos (Or.inl hm)]
          rfl
        rw [z, if_neg (by decide)]
        refine next ?_
        show m.1 80 = _
        rw [hp, ← e]
        unfold pou
        rw [if_pos (by rw [em]; exact a)]
theorem r233 (hF : 500 ≤ F) (I : vI (m.1 80)) : D233 F m = some (plc (pdy (m.1 80)) 0 (m.1 80 2).toInt.toNat 0, xr m 80 (pdy (m.1 80))) := by
  have n6 := I_nt I
  unfold D233
  have z := r233_4 (F := F) I F (t := 0) (v := 0) (m := m) rfl (by omega) (by omega)
  rw [Nat.sub_zero] at z
  exact z
end RA
end
section
/-! What can be undone: the class's ring of rows, the reference's row of rows. -/
theorem R_c {s s' c c' : Nat → Int32} (R : R32 s c) (hs : ∀ j, j < 148 → s' j = s j) (hc : ∀ j, j < 114 → c' j = c j) : R32 s' c' := by
  obtain ⟨h1, h2, h4, h5, h6, h7⟩ := R
  have e : ∀ j, j < 148 → sI s' j = sI s j := fun j hj => congrArg Int32.toInt (hs j hj)
  refine ⟨fun j hj => ?_, fun t w ht hw => ?_, fun w k hw hk => ?_, fun w hw l => ?_, fun a d ha hd => ?_, fun a d ha hd => ?_⟩
  · rw [hc j (by omega), e j (by omega)]
    exact h1 j hj
  · rw [hc _ (by omega), e _ (by omega)]
    exact h2 t w ht hw
  · rw [hc _ (by omega), e _ (by omega)]
    exact h4 w k hw hk
  · rw [e 3 (by omega)] at l
    rw [hc _ (by omega), e _ (by omega)]
    exact h5 w hw l
  · rw [hc _ (by omega), e _ (by omega)]
    exact h6 a d ha hd
  · rw [hc _ (by omega), e _ (by omega)]
    exact h7 a d ha hd
theorem I_c {s s' : Nat → Int32} (I : vI s) (hs : ∀ j, j < 148 → s' j = s j) : vI s' := by
  have lt := I_nt I
  have lw := I_nw I
  refine ⟨?_, fun t ht => ?_, fun u hu => ?_, fun b hb => ?_, fun b f hb hf => ?_⟩
  · unfold vIa
    rw [hs 0 (by omega), hs 1 (by omega), hs 2 (by omega), hs 3 (by omega), hs 4 (by omega)]
    exact I.1
  · rw [hs 2 (by omega)] at ht
    rw [hs 0 (by omega), hs 4 (by omega), hs _ (by omega), hs _ (by omega), hs _ (by omega), hs _ (by omega)]
    exact I.2.1 t ht
  · rw [hs 3 (by omega)] at hu
    rw [hs 0 (by omega), hs _ (by omega), hs _ (by omega)]
    exact I.2.2.1 u hu
  · rw [hs _ (by omega), hs _ (by omega)]
    exact I.2.2.2.1 b hb
  · rw [hs _ (by omega)]
    exact I.2.2.2.2 b f hb hf
theorem I9_c {s s' : Nat → Int32} (I : vI9 s) (hs : ∀ j, j < 148 → s' j = s j) : vI9 s' := ⟨I_c I.1 hs, by rw [hs 4 (by omega)]; exact I.2⟩
/-- what the reference keeps at place j -/
def hrow (s w : Nat → Int32) (j : Nat) : Nat → Int32 := fun k => if k < 124 then w (124 * j + k) else s k
/-- n: the class's next row, h: how many; s: said, w: wasSaid, r: the class's rows -/
def rHx (n h : Nat) (s w : Nat → Int32) (r : Nat → Nat → Int32) : Prop := ∀ j, j < h → R32 (hrow s w j) (r (16 + (n + 20 - h + j) % 20)) ∧ vI9 (hrow s w j)
/-- the class's row is kept -/
def kpc (m : xS) (n h : Nat) : xS := xu (xu (xcp m (16 + n) 10 114) 14 1 (Int32.ofNat ((n + 1) % 20))) 14 2 (Int32.ofNat (min 20 (h + 1)))
section PHI
variable {m m' : xS} {F n h : Nat} {s s' w w' : Nat → Int32} {r r' : Nat → Nat → Int32}
theorem c16_9 (hn : m.1 14 1 = Int32.ofNat n) (hh : m.1 14 2 = Int32.ofNat h) (n20 : n < 20) (h20 : h ≤ 20) : D16_14_9 F m = some ((), kpc m n h) := by
  have key : (List.range 20).all (fun n => (Int32.ofNat n + 1 - (Int32.ofNat n + 1) / 20 * 20) == Int32.ofNat ((n + 1) % 20)) = true := by decide +kernel
  have key2 : (List.range 21).all (fun h => (if Int32.ofNat h + 1 < 20 then Int32.ofNat h + 1 else 20) == Int32.ofNat (min 20 (h + 1))) = true := by decide +kernel
  have k1 := eq_of_beq (List.all_eq_true.mp key n (List.mem_range.mpr n20))
  have k2 := eq_of_beq (List.all_eq_true.mp key2 h (List.mem_range.mpr (by omega)))
  have en := nJ (n := n) (by omega)
  unfold D16_14_9 D68_9_S16_20
  rw [hn, gxn en, if_pos (gxb en n20)]
  refine ob rfl ?_
  dsimp only
  have e1 : (xcp m (16 + n) 10 114).1 14 1 = Int32.ofNat n := by rw [xcp_o (by omega)]; exact hn
  have e2 : (xcp m (16 + n) 10 114).1 14 2 = Int32.ofNat h := by rw [xcp_o (by omega)]; exact hh
  rw [e1, e2, k1, k2]
  rfl
theorem kpc_r {a : Nat} (h1 : a ≠ 14) (h2 : a ≠ 16 + n) : (kpc m n h).1 a = m.1 a := by
  funext b
  unfold kpc
  rw [xu_o (fun z => h1 z.1), xu_o (fun z => h1 z.1), xcp_o h2]
theorem kpc_k {j : Nat} (n20 : n < 20) (hj : j < 114) : (kpc m n h).1 (16 + n) j = m.1 10 j := by
  unfold kpc
  rw [xu_o (by omega), xu_o (by omega), xcp_s hj]
theorem kpc_1 : (kpc m n h).1 14 1 = Int32.ofNat ((n + 1) % 20) := by
  unfold kpc
  rw [xu_o (by omega), xu_s]
theorem kpc_2 : (kpc m n h).1 14 2 = Int32.ofNat (min 20 (h + 1)) := xu_s _ _ _ _
/-- what can be undone once a row more is kept on both sides -/
theorem rH_k (H : rHx n h s w r) (n20 : n < 20) (h20 : h ≤ 20) (R : R32 s (r' (16 + n))) (I : vI9 s) (hr : ∀ a, a ≠ 16 + n → r' a = r a) (hs : ∀ k, 124 ≤ k → k < 148 → s' k = s k) (hw : if h < 20 then (∀ j, j < 124 → w' (124 * h + j) = s j) ∧ (∀ j, j < 124 * h → w' j = w j) else (∀ j, j < 124 → w' (124 * 19 + j) = s j) ∧ (∀ j, j < 2356 → w' j = w (j + 124))) : rHx ((n + 1) % 20) (min 20 (h + 1)) s' w' r' := by
  intro j hj
  by_cases l : h < 20
  · rw [if_pos l] at hw
    rw [show min 20 (h + 1) = h + 1 by omega] at hj ⊢
    by_cases z : j = h
    · subst z
      have e : 16 + ((n + 1) % 20 + 20 - (j + 1) + j) % 20 = 16 + n := by omega
      rw [e]
      have q : ∀ k, k < 148 → hrow s' w' j k = s k := fun k hk => by
        unfold hrow
        split
        · next y => exact hw.1 k y
        · exact hs k (by omega) hk
      exact ⟨R_c R q (fun _ _ => rfl), I9_c I q⟩
    · have e : 16 + ((n + 1) % 20 + 20 - (h + 1) + j) % 20 = 16 + (n + 20 - h + j) % 20 := by omega
      rw [e, hr _ (by omega)]
      have q : ∀ k, k < 148 → hrow s' w' j k = hrow s w j k := fun k hk => by
        unfold hrow
        split
        · exact hw.2 _ (by omega)
        · exact hs k (by omega) hk
      obtain ⟨a, b⟩ := H j (by omega)
      exact ⟨R_c a q (fun _ _ => rfl), I9_c b q⟩
  · rw [if_neg l] at hw
    have e20 : h = 20 := by omega
    subst e20
    rw [show min 20 (20 + 1) = 20 by omega] at hj ⊢
    by_cases z : j = 19
    · subst z
      have e : 16 + ((n + 1) % 20 + 20 - 20 + 19) % 20 = 16 + n := by omega
      rw [e]
      have q : ∀ k, k < 148 → hrow s' w' 19 k = s k := fun k hk => by
        unfold hrow
        split
        · next y => exact hw.1 k y
        · exact hs k (by omega) hk
      exact ⟨R_c R q (fun _ _ => rfl), I9_c I q⟩
    · have e : 16 + ((n + 1) % 20 + 20 - 20 + j) % 20 = 16 + (n + 20 - 20 + (j + 1)) % 20 := by omega
      rw [e, hr _ (by omega)]
      have q : ∀ k, k < 148 → hrow s' w' j k = hrow s w (j + 1) k := fun k hk => by
        unfold hrow
        split
        · rw [hw.2 _ (by omega), show 124 * j + k + 124 = 124 * (j + 1) + k by omega]
        · exact hs k (by omega) hk
      obtain ⟨a, b⟩ := H (j + 1) (by omega)
      exact ⟨R_c a q (fun _ _ => rfl), I9_c b q⟩
/-- the reference's count of what it keeps -/
theorem n220_52 : ∀ (f : Nat) {v1 : Int32} {m : xS} {y : Unit × xS}, D220_52 F f v1 m = some y → y.2.1 70 25 = m.1 70 25 + 1
  | 0, _, _, _, h => by cases h
  | f + 1, v1, m, y, h => by
    unfold D220_52 at h
    split at h
    · cases h
      exact xu_s _ _ _ _
    · split at h
      · split at h
        · exact (n220_52 f h).trans (by rw [xu_o (by omega)])
        · cases h
      · cases h
theorem n220_12 : ∀ (f : Nat) {v1 : Int32} {m : xS} {y : Unit × xS}, D220_12 F f v1 m = some y → y.2.1 70 25 = m.1 70 25 - 1 + 1
  | 0, _, _, _, h => by cases h
  | f + 1, v1, m, y, h => by
    unfold D220_12 at h
    split at h
    · unfold D220_50 at h
      exact (n220_52 F h).trans (by rw [xu_s])
    · split at h
      · split at h
        · exact (n220_12 f h).trans (by rw [xu_o (by omega)])
        · cases h
      · cases h
/-- keepsAct, exactly -/
theorem r220 (hF : 3000 ≤ F) (hT : xT m) (hh : m.1 70 25 = Int32.ofNat h) (h20 : h ≤ 20) : xP (D220 F m) (fun _ m' => xT m' ∧ xfr xMA m m' ∧ m'.1 70 25 = Int32.ofNat (min 20 (h + 1)) ∧ (if h < 20 then (∀ j, j < 124 → m'.1 81 (124 * h + j) = m.1 80 j) ∧ (∀ j, j < 124 * h → m'.1 81 j = m.1 81 j) else (∀ j, j < 124 → m'.1 81 (124 * 19 + j) = m.1 80 j) ∧ (∀ j, j < 2356 → m'.1 81 j = m.1 81 (j + 124)))) := by
  have eh := nJ (n := h) (by omega)
  have hu : (m.1 70 25).toInt = (h : Int) := by rw [hh]; exact eh
  unfold D220
  refine xP_i (fun c => ?_) (fun c => ?_)
  · have c : (m.1 70 25).toInt ≠ 20 := zt c
    have l : h < 20 := by omega
    obtain ⟨y, hy, q1, q2, q3, q4⟩ := P220_52 (F := F) (u := h) l F (v1 := 0) (k := 0) hT rfl (by omega) (by omega) hu (fun j hj => absurd hj (Nat.not_lt_zero _))
    refine ⟨y, hy, q1, q2, ?_, ?_⟩
    · rw [n220_52 F hy, hh, show min 20 (h + 1) = h + 1 by omega]
      exact xadd (a := h) (b := 1) (by omega)
    · rw [if_pos l]
      exact ⟨q3, fun j hj => q4 j (by omega)⟩
  · have c : m.1 70 25 = 20 := zne c
    have c2 : (m.1 70 25).toInt = 20 := by rw [c]; rfl
    have l : ¬ h < 20 := by omega
    obtain ⟨y, hy, q1, q2, q3, q4⟩ := P220_12 (F := F) (by omega) (g := m.1 81) F (v1 := 124) (k := 124) hT rfl (by omega) (by omega) (by omega) c2 (fun j hj => absurd hj (by omega)) (fun j _ _ => rfl)
    refine ⟨y, hy, q1, q2, ?_, ?_⟩
    · rw [n220_12 F hy, c, show min 20 (h + 1) = 20 by omega]
      decide
    · rw [if_neg l]
      exact ⟨q3, q4⟩
/-- takeBack -/
theorem c17_9 (hn : m.1 14 1 = Int32.ofNat n) (hh : m.1 14 2 = Int32.ofNat h) (n20 : n < 20) (h20 : h ≤ 20) (h0 : 0 < h) : D17_14_9 F m = some ((), xcp (xu (xu m 14 1 (Int32.ofNat ((n + 19) % 20))) 14 2 (Int32.ofNat (h - 1))) 10 (16 + (n + 19) % 20) 114) := by
  have key : (List.range 20).all (fun n => (Int32.ofNat n + 20 - 1 - (Int32.ofNat n + 20 - 1) / 20 * 20) == Int32.ofNat ((n + 19) % 20)) = true := by decide +kernel
  have key2 : (List.range 21).all (fun h => Int32.ofNat h - 1 == Int32.ofNat (h - 1) || h == 0) = true := by decide +kernel
  have k1 := eq_of_beq (List.all_eq_true.mp key n (List.mem_range.mpr n20))
  have k2 : Int32.ofNat h - 1 = Int32.ofNat (h - 1) := by
    have := List.all_eq_true.mp key2 h (List.mem_range.mpr (by omega))
    rw [Bool.or_eq_true] at this
    rcases this with z | z
    · exact eq_of_beq z
    · have := eq_of_beq z
      omega
  have en := nJ (n := (n + 19) % 20) (by omega)
  have eh := nJ (n := h) (by omega)
  unfold D17_14_9 D69_9_S16_20
  rw [hn, hh, k1, k2, gxn en, if_pos (gxb en (by omega))]
  refine oi (p := false) (by rw [zcle]; exact decide_eq_false (by show ¬ _ ≤ (0 : Int); omega)) (fun z => by cases z) (fun _ => ob rfl rfl)
/-- undo of the reference: its loop -/
theorem r221_21 {u : Nat} (hu : u < 20) : ∀ (f : Nat) {v1 : Int32} {m : xS} {k : Nat}, v1.toInt = (k : Int) → k ≤ 124 → 124 < f + k → (m.1 70 25).toInt = (u : Int) → xP (D221_21 F f v1 m) (fun v m' => v = m.1 70 25 ∧ (∀ a, a ≠ 80 → m'.1 a = m.1 a) ∧ (∀ j, k ≤ j → j < 124 → m'.1 80 j = m.1 81 (124 * u + j)) ∧ ∀ j, (j < k ∨ 124 ≤ j) → m'.1 80 j = m.1 80 j)
  | 0, v1, m, k, hk, h1, h2, h3 => by omega
  | f + 1, v1, m, k, hk, h1, h2, h3 => by
    unfold D221_21
    refine xP_i (fun c => ?_) (fun c => ?_)
    · have c : (124 : Int) ≤ v1.toInt := zt c
      exact xP_r ⟨rfl, fun a _ => rfl, fun j hj hj2 => by omega, fun j _ => rfl⟩
    · have c : ¬ (124 : Int) ≤ v1.toInt := zf c
      have a1 : ((124 : Int32) * m.1 70 25).toInt = 124 * (m.1 70 25).toInt := xm1 (by show _ ≤ (124 : Int) * _; omega) (by show (124 : Int) * _ ≤ _; omega)
      have a2 : ((124 : Int32) * m.1 70 25 + v1).toInt = 124 * (u : Int) + (k : Int) := by
        rw [xa1 (by rw [a1]; omega) (by rw [a1]; omega), a1]
        omega
      have a3 : ((124 : Int32) * m.1 70 25 + v1).toNatClampNeg = 124 * u + k := by
        show Int.toNat _ = _
        rw [a2]
        omega
      have a4 : v1.toNatClampNeg = k := by
        show Int.toNat _ = _
        rw [hk]
        omega
      refine xP_g (xib_t (by omega) (by omega)) (xP_g (xib_t (by omega) (by omega)) ?_)
      rw [a3, a4]
      have e1 : (v1 + Int32.ofInt 1).toInt = v1.toInt + 1 := xa1 (by show _ ≤ _ + (1 : Int); omega) (by show _ + (1 : Int) ≤ _; omega)
      refine xP_m (r221_21 hu f (k := k + 1) (by omega) (by omega) (by omega) ((congrArg Int32.toInt (xu_o (by omega))).trans h3)) (fun v m' q => ?_)
      obtain ⟨q1, q2, q3, q4⟩ := q
      refine ⟨q1.trans (xu_o (by omega)), fun a ha => (q2 a ha).trans (funext fun b => xu_o (fun z => ha z.1)), fun j hj hj2 => ?_, fun j hj => (q4 j (by omega)).trans (xu_o (by omega))⟩
      by_cases z : j = k
      · subst z
        rw [q4 j (by omega), xu_s]
      · rw [q3 j (by omega) hj2, xu_o (by omega)]
theorem r221 (hF : 500 ≤ F) (hh : m.1 70 25 = Int32.ofNat h) (h20 : h ≤ 20) (h0 : 0 < h) : xP (D221 F m) (fun v m' => v = Int32.ofNat (h - 1) ∧ (∀ a, a ≠ 80 → m'.1 a = (xu m 70 25 (Int32.ofNat (h - 1))).1 a) ∧ (∀ j, j < 124 → m'.1 80 j = m.1 81 (124 * (h - 1) + j)) ∧ ∀ j, 124 ≤ j → m'.1 80 j = m.1 80 j) := by
  have eh := nJ (n := h) (by omega)
  have e1 : (Int32.ofNat h - 1) = Int32.ofNat (h - 1) := by
    apply Int32.toInt_inj.mp
    rw [nJ (n := h - 1) (by omega)]
    exact (xs1 (by show _ ≤ _ - (1 : Int); omega) (by show _ - (1 : Int) ≤ _; omega)).trans (by rw [eh]; show _ - (1 : Int) = _; omega)
  unfold D221
  rw [hh, e1]
  refine xP_i (fun c => ?_) (fun c => ?_)
  · refine xP_m (r221_21 (F := F) (u := h - 1) (by omega) F (v1 := 0) (k := 0) rfl (by omega) (by omega) (by rw [xu_s]; exact nJ (by omega))) (fun v m' q => ?_)
    obtain ⟨q1, q2, q3, q4⟩ := q
    refine ⟨q1.trans (xu_s _ _ _ _), q2, fun j hj => (q3 j (by omega) hj).trans (xu_o (by omega)), fun j hj => (q4 j (by omega)).trans (xu_o (by omega))⟩
  · have c : (Int32.ofNat h).toInt = 0 := Decidable.not_not.mp (zf c)
    omega
/-- what can be undone still, when the last is -/
theorem rH_u (H : rHx n h s w r) (n20 : n < 20) (h20 : h ≤ 20) (h0 : 0 < h) (hs : ∀ k, 124 ≤ k → k < 148 → s' k = s k) : rHx ((n + 19) % 20) (h - 1) s' w r := by
  intro j hj
  have e : 16 + ((n + 19) % 20 + 20 - (h - 1) + j) % 20 = 16 + (n + 20 - h + j) % 20 := by omega
  rw [e]
  have q : ∀ k, k < 148 → hrow s' w j k = hrow s w j k := fun k hk => by
    unfold hrow
    split
    · rfl
    · exact hs k (by omega) hk
  obtain ⟨a, b⟩ := H j (by omega)
  exact ⟨R_c a q (fun _ _ => rfl), I9_c b q⟩
end PHI
end
section
/-! What a village's text says is a village. -/
def vJ (s : Nat → Int) : Prop := ((2 ≤ s 0 ∧ s 0 ≤ 6) ∧ 1 ≤ s 1 ∧ (0 ≤ s 2 ∧ s 2 ≤ 6) ∧ (0 ≤ s 3 ∧ s 3 ≤ 6) ∧ s 4 = 0) ∧ (∀ t : Nat, (t : Int) < s 2 → (0 ≤ s (10 + 6 * t) ∧ s (10 + 6 * t) < s 0) ∧ s (10 + 6 * t + 3) = s (10 + 6 * t) ∧ s (10 + 6 * t + 4) = 0 ∧ s (10 + 6 * t + 5) = 0) ∧ (∀ w : Nat, (w : Int) < s 3 → 0 ≤ s (124 + 4 * w) ∧ s (124 + 4 * w) < s 0) ∧ (∀ a : Nat, a < 6 → s (46 + 6 * a + a) = 0 ∧ s (82 + 6 * a + a) = 0) ∧ (∀ a d : Nat, a < 6 → d < 6 → 0 ≤ s (82 + 6 * a + d) ∧ s (82 + 6 * a + d) ≤ 99)
section VJN
variable {b : Nat → Int} {n p k : Nat} {lo hi : Int} {s s' : Nat → Int}
theorem vn_i {α : Type} {K : Int → Nat → Int ⊕ α} {q : α} (h : vn b n p lo hi K = .inr q) : ∃ v e, lo ≤ v ∧ v ≤ hi ∧ K v e = .inr q := by
  unfold vn at h
  split at h
  · cases h
  · next r hr =>
    obtain ⟨v, e⟩ := r
    have := vnu_b hr
    exact ⟨v, e, this.1, this.2.1, h⟩
theorem vtwo_i {α : Type} {h : Int} {K : Int → Int → Nat → Int ⊕ α} {q : α} (e : vtwo b n p h K = .inr q) : ∃ a c e, (0 ≤ a ∧ a ≤ h - 1) ∧ (0 ≤ c ∧ c ≤ h - 1) ∧ a ≠ c ∧ K a c e = .inr q := by
  unfold vtwo at e
  obtain ⟨a, e1, a1, a2, e⟩ := vn_i e
  obtain ⟨c, e2, c1, c2, e⟩ := vn_i e
  split at e
  · cases e
  · next ne => exact ⟨a, c, e2, ⟨a1, a2⟩, ⟨c1, c2⟩, ne, e⟩
theorem vJ_0 {q : vSt} (h : vbod b n p (fun _ => 0) 0 = .inr q) : vJ q.2 := by
  unfold vbod at h
  rw [if_pos rfl] at h
  obtain ⟨a, e1, a1, a2, h⟩ := vn_i h
  obtain ⟨c, e2, c1, c2, h⟩ := vn_i h
  cases h
  have o : ∀ j, 2 ≤ j → vup (vup (fun _ => 0) 1 c) 0 a j = 0 := fun j hj => (vup_o (by omega)).trans (vup_o (by omega))
  have e0 : vup (vup (fun _ => 0) 1 c) 0 a 0 = a := vup_s _ _ _
  have e1 : vup (vup (fun _ => 0) 1 c) 0 a 1 = c := (vup_o (by decide)).trans (vup_s _ _ _)
  dsimp only
  refine ⟨?_, fun t ht => ?_, fun w hw => ?_, fun a ha => ?_, fun a d ha hd => ?_⟩
  · rw [e0, e1, o 2 (by omega), o 3 (by omega), o 4 (by omega)]
    omega
  · rw [o 2 (by omega)] at ht
    omega
  · rw [o 3 (by omega)] at hw
    omega
  · rw [o _ (by omega), o _ (by omega)]
    exact ⟨rfl, rfl⟩
  · rw [o _ (by omega)]
    omega
theorem vJ_1 (J : vJ s) (h2 : s 2 < 6) {a c d : Int} (ha : 0 ≤ a ∧ a ≤ s 0 - 1) : vJ (vTool s (s 2).toNat a c d) := by
  obtain ⟨J0, J1, J2, J3, J4⟩ := J
  obtain ⟨t, et⟩ : ∃ t : Nat, t = (s 2).toNat := ⟨_, rfl⟩
  rw [← et]
  have o : ∀ j, ¬ (10 + 6 * t ≤ j ∧ j < 16 + 6 * t) → j ≠ 2 → vTool s t a c d j = s j := fun j z z2 => by
    unfold vTool
    rw [vup_o z2, vup_o (by omega), vup_o (by omega), vup_o (by omega), vup_o (by omega), vup_o (by omega), vup_o (by omega)]
  have e2 : vTool s t a c d 2 = (t : Int) + 1 := vup_s _ _ _
  have q5 : vTool s t a c d (10 + 6 * t + 5) = 0 := (vup_o (by omega)).trans (vup_s _ _ _)
  have q4 : vTool s t a c d (10 + 6 * t + 4) = 0 := (vup_o (by omega)).trans ((vup_o (by omega)).trans (vup_s _ _ _))
  have q3 : vTool s t a c d (10 + 6 * t + 3) = a := (vup_o (by omega)).trans ((vup_o (by omega)).trans ((vup_o (by omega)).trans (vup_s _ _ _)))
  have q0 : vTool s t a c d (10 + 6 * t) = a := by
    unfold vTool
    rw [vup_o (by omega), vup_o (by omega), vup_o (by omega), vup_o (by omega), vup_o (by omega), vup_o (by omega), vup_s]
  refine ⟨?_, fun u hu => ?_, fun w hw => ?_, fun a ha => ?_, fun a d ha hd => ?_⟩
  · rw [e2, o 0 (by omega) (by omega), o 1 (by omega) (by omega), o 3 (by omega) (by omega), o 4 (by omega) (by omega)]
    omega
  · rw [e2] at hu
    rw [o 0 (by omega) (by omega)]
    by_cases z : u = t
    · subst z
      rw [q0, q3, q4, q5]
      exact ⟨by omega, rfl, rfl, rfl⟩
    · rw [o _ (by omega) (by omega), o _ (by omega) (by omega), o _ (by omega) (by omega), o _ (by omega) (by omega)]
      exact J1 u (by omega)
  · rw [o 3 (by omega) (by omega)] at hw
    rw [o _ (by omega) (by omega), o 0 (by omega) (by omega)]
    exact J2 w hw
  · rw [o _ (by omega) (by omega), o _ (by omega) (by omega)]
    exact J3 a ha
  · rw [o _ (by omega) (by omega)]
    exact J4 a d ha hd
theorem vJ_2 (J : vJ s) {a c : Nat} (ha : a < 6) (hc : c < 6) (ne : a ≠ c) : vJ (vup s (46 + 6 * a + c) 1) := by
  obtain ⟨J0, J1, J2, J3, J4⟩ := J
  have o : ∀ j, j ≠ 46 + 6 * a + c → vup s (46 + 6 * a + c) 1 j = s j := fun j z => vup_o z
  refine ⟨?_, fun u hu => ?_, fun w hw => ?_, fun a ha => ?_, fun a d ha hd => ?_⟩
  · rw [o 0 (by omega), o 1 (by omega), o 2 (by omega), o 3 (by omega), o 4 (by omega)]
    exact J0
  · rw [o 2 (by omega)] at hu
    rw [o 0 (by omega), o _ (by omega), o _ (by omega), o _ (by omega), o _ (by omega)]
    exact J1 u hu
  · rw [o 3 (by omega)] at hw
    rw [o _ (by omega), o 0 (by omega)]
    exact J2 w hw
  · rw [o _ (by omega), o _ (by omega)]
    exact J3 a ha
  · rw [o _ (by omega)]
    exact J4 a d ha hd
theorem vJ_3 (J : vJ s) (h3 : s 3 < 6) {a c d e : Int} (ha : 0 ≤ a ∧ a ≤ s 0 - 1) : vJ (vWork s (s 3).toNat a c d e) := by
  obtain ⟨J0, J1, J2, J3, J4⟩ := J
  obtain ⟨t, et⟩ : ∃ t : Nat, t = (s 3).toNat := ⟨_, rfl⟩
  rw [← et]
  have o : ∀ j, ¬ (124 + 4 * t ≤ j ∧ j < 128 + 4 * t) → j ≠ 3 → vWork s t a c d e j = s j := fun j z z2 => by
    unfold vWork
    rw [vup_o z2, vup_o (by omega), vup_o (by omega), vup_o (by omega), vup_o (by omega)]
  have e3 : vWork s t a c d e 3 = (t : Int) + 1 := vup_s _ _ _
  have q0 : vWork s t a c d e (124 + 4 * t) = a := by
    unfold vWork
    rw [vup_o (by omega), vup_o (by omega), vup_o (by omega), vup_o (by omega), vup_s]
  refine ⟨?_, fun u hu => ?_, fun w hw => ?_, fun a ha => ?_, fun a d ha hd => ?_⟩
  · rw [e3, o 0 (by omega) (by omega), o 1 (by omega) (by omega), o 2 (by omega) (by omega), o 4 (by omega) (by omega)]
    omega
  · rw [o 2 (by omega) (by omega)] at hu
    rw [o 0 (by omega) (by omega), o _ (by omega) (by omega), o _ (by omega) (by omega), o _ (by omega) (by omega), o _ (by omega) (by omega)]
    exact J1 u hu
  · rw [e3] at hw
    rw [o 0 (by omega) (by omega)]
    by_cases z : w = t
    · subst z
      rw [q0]
      omega
    · rw [o _ (by omega) (by omega)]
      exact J2 w (by omega)
  · rw [o _ (by omega) (by omega), o _ (by omega) (by omega)]
    exact J3 a ha
  · rw [o _ (by omega) (by omega)]
    exact J4 a d ha hd
theorem vJ_4 (J : vJ s) {a c : Nat} {d : Int} (ha : a < 6) (hc : c < 6) (ne : a ≠ c) (hd : 0 ≤ d ∧ d ≤ 9) : vJ (vup s (82 + 6 * a + c) d) := by
  obtain ⟨J0, J1, J2, J3, J4⟩ := J
  have o : ∀ j, j ≠ 82 + 6 * a + c → vup s (82 + 6 * a + c) d j = s j := fun j z => vup_o z
  refine ⟨?_, fun u hu => ?_, fun w hw => ?_, fun a ha => ?_, fun f g hf hg => ?_⟩
  · rw [o 0 (by omega), o 1 (by omega), o 2 (by omega), o 3 (by omega), o 4 (by omega)]
    exact J0
  · rw [o 2 (by omega)] at hu
    rw [o 0 (by omega), o _ (by omega), o _ (by omega), o _ (by omega), o _ (by omega)]
    exact J1 u hu
  · rw [o 3 (by omega)] at hw
    rw [o _ (by omega), o 0 (by omega)]
    exact J2 w hw
  · rw [o _ (by omega), o _ (by omega)]
    exact J3 a ha
  · by_cases z : 82 + 6 * f + g = 82 + 6 * a + c
    · rw [z, vup_s]
      omega
    · rw [o _ z]
      exact J4 f g hf hg
theorem vJ_b (J : vJ s) {u : Nat} (k0 : k ≠ 0) (hm : vmay s k u = true) {q : vSt} (h : vbod b n p s u = .inr q) : vJ q.2 := by
  have l0 := J.1.1
  rcases vmay_iff.mp hm with z | ⟨-, u0, -, u1, u3⟩
  · exact absurd z.1 k0
  unfold vbod at h
  rw [if_neg u0] at h
  by_cases z1 : u = 1
  · rw [if_pos z1] at h
    obtain ⟨a, e1, a1, a2, h⟩ := vn_i h
    obtain ⟨c, e2, c1, c2, h⟩ := vn_i h
    obtain ⟨d, e3, d1, d2, h⟩ := vn_i h
    cases h
    exact vJ_1 J (u1 z1) ⟨a1, a2⟩
  rw [if_neg z1] at h
  by_cases z2 : u = 2
  · rw [if_pos z2] at h
    obtain ⟨a, c, e, ha, hc, ne, h⟩ := vtwo_i h
    cases h
    exact vJ_2 J (by omega) (by omega) (by omega)
  rw [if_neg z2] at h
  by_cases z3 : u = 3
  · rw [if_pos z3] at h
    obtain ⟨a, e1, a1, a2, h⟩ := vn_i h
    obtain ⟨c, e2, c1, c2, h⟩ := vn_i h
    obtain ⟨d, e3, d1, d2, h⟩ := vn_i h
    obtain ⟨f, e4, f1, f2, h⟩ := vn_i h
    cases h
    exact vJ_3 J (u3 z3) ⟨a1, a2⟩
  rw [if_neg z3] at h
  obtain ⟨a, c, e, ha, hc, ne, h⟩ := vtwo_i h
  obtain ⟨d, e1, d1, d2, h⟩ := vn_i h
  cases h
  exact vJ_4 J (by omega) (by omega) (by omega) ⟨d1, d2⟩
theorem vJ_c (J : (k = 0 ∧ s = fun _ => 0) ∨ (k ≠ 0 ∧ vJ s)) {q : vSt} (h : vcl b n k p s = .inr q) : vJ q.2 := by
  unfold vcl at h
  split at h
  · cases h
  · next u hu =>
    split at h
    · next hm =>
      rcases J with ⟨k0, rfl⟩ | ⟨k0, J⟩
      · rcases vmay_iff.mp hm with z | z
        · obtain ⟨-, rfl⟩ := z
          exact vJ_0 h
        · exact absurd k0 z.1
      · exact vJ_b J k0 hm h
    · cases h
theorem vJ_r : ∀ (f : Nat) {k p : Nat} {s s' : Nat → Int}, ((k = 0 ∧ s = fun _ => 0) ∨ (k ≠ 0 ∧ vJ s)) → vrun b n f k p s = .inr s' → vJ s'
  | 0, _, _, _, _, _, h => by cases h
  | f + 1, k, p, s, s', J, h => by
    unfold vrun at h
    split at h
    · cases h
    · next q hq =>
      have J2 := vJ_c J hq
      split at h
      · exact vJ_r f (Or.inr ⟨by omega, J2⟩) h
      · split at h
        · cases h
          exact J2
        · cases h
theorem I_vj {s' : Nat → Int32} (J : vJ s) (h : ∀ j, j < 148 → (s' j).toInt = if 118 ≤ j ∧ j < 124 then -1 else s j) : vI s' := by
  have o : ∀ j, j < 148 → ¬ (118 ≤ j ∧ j < 124) → (s' j).toInt = s j := fun j h1 h2 => (h j h1).trans (if_neg h2)
  obtain ⟨J0, J1, J2, J3, J4⟩ := J
  have o0 := o 0 (by omega) (by omega)
  have o1 := o 1 (by omega) (by omega)
  have o2 := o 2 (by omega) (by omega)
  have o3 := o 3 (by omega) (by omega)
  have o4 := o 4 (by omega) (by omega)
  have z0 : ∀ j, (s' j).toInt = 0 → s' j = 0 := fun j hj => Int32.toInt_inj.mp hj
  refine ⟨?_, fun t ht => ?_, fun u hu => ?_, fun a ha => ?_, fun f g hf hg => ?_⟩
  · unfold vIa
    rw [o0, o1, o2, o3, o4]
    omega
  · rw [o2] at ht
    obtain ⟨j1, j2, j3, j4⟩ := J1 t ht
    have t0 := o (10 + 6 * t) (by omega) (by omega)
    have t3 := o (10 + 6 * t + 3) (by omega) (by omega)
    have t4 := o (10 + 6 * t + 4) (by omega) (by omega)
    have t5 := o (10 + 6 * t + 5) (by omega) (by omega)
    rw [o0, o4, t0, t3, t5]
    exact ⟨j1, by omega, fun _ => ⟨z0 _ (by omega), z0 _ (by omega)⟩, by omega⟩
  · rw [o3] at hu
    have w0 := o (124 + 4 * u) (by omega) (by omega)
    have w8 := h (118 + u) (by omega)
    rw [if_pos (by omega)] at w8
    rw [o0, w0, w8]
    exact ⟨J2 u hu, by omega⟩
  · exact ⟨z0 _ (by rw [o _ (by omega) (by omega)]; exact (J3 a ha).1), z0 _ (by rw [o _ (by omega) (by omega)]; exact (J3 a ha).2)⟩
  · rw [o _ (by omega) (by omega)]
    exact J4 f g hf hg
end VJN
end
section
/-! The relation of both memories, and what pairs of calls make of it. -/
/-- rows and numbers stay, as a heap is read anew -/
def xrw (m m' : xS) : Prop := (∀ i k n, xta i k n = true → m'.1 i = m.1 i) ∧ ∀ i a b, xti i a b = true → m'.1 i b = m.1 i b
/-- the same, but for one number of the reference's -/
def xrv (m m' : xS) : Prop := (∀ i k n, xta i k n = true → m'.1 i = m.1 i) ∧ ∀ i a b, xti i a b = true → ¬ (i = 70 ∧ b = 26) → m'.1 i b = m.1 i b
/-- what can be undone -/
def rMh (m : xS) : Prop := ∃ n h : Nat, (n < 20 ∧ h ≤ 20) ∧ (m.1 14 1 = Int32.ofNat n ∧ m.1 14 2 = Int32.ofNat h ∧ m.1 70 25 = Int32.ofNat h) ∧ rHx n h (m.1 80) (m.1 81) m.1
/-- images -/
def irow (w : Nat → Int32) (k : Nat) : Nat → Int32 := fun j => w (148 * k + j)
def rMi (m : xS) : Prop := ∀ k, k < 4 → m.1 87 k = m.1 42 k ∧ (m.1 42 k ≠ 0 → R32 (irow (m.1 85) k) (m.1 (37 + k)) ∧ vI9 (irow (m.1 85) k) ∧ m.1 86 k = m.1 41 k)
def rMx (m : xS) : Prop := (R32 (m.1 80) (m.1 10) ∧ vI9 (m.1 80)) ∧ rMh m ∧ rMi m ∧ m.1 70 23 = m.1 43 0
section PRM
variable {m m' m2 : xS} {F : Nat}
theorem xrw_of {B : zHp} (H : yH0 B) (m : xS) : xrw m (xof (xW B m)) := ⟨fun _ _ _ ht => xof_t H ht, fun _ _ _ ht => xof_f H ht⟩
theorem xrw_v (w : xrw m m') : xrv m m' := ⟨w.1, fun i a b h _ => w.2 i a b h⟩
theorem xrv_16 (w : xrv m m') {a : Nat} (h : 16 ≤ a ∧ a < 36) : m'.1 a = m.1 a := w.1 a 0 114 (xtS16_20 h)
theorem xrv_37 (w : xrv m m') {a : Nat} (h : 37 ≤ a ∧ a < 41) : m'.1 a = m.1 a := w.1 a 0 114 (xtS37_4 h)
theorem xrw_16 (w : xrw m m') {a : Nat} (h : 16 ≤ a ∧ a < 36) : m'.1 a = m.1 a := w.1 a 0 114 (xtS16_20 h)
theorem xrw_37 (w : xrw m m') {a : Nat} (h : 37 ≤ a ∧ a < 41) : m'.1 a = m.1 a := w.1 a 0 114 (xtS37_4 h)
theorem rHx_c {n h : Nat} {s w : Nat → Int32} {r r' : Nat → Nat → Int32} (H : rHx n h s w r) (e : ∀ a, 16 ≤ a → a < 36 → r' a = r a) : rHx n h s w r' := fun j hj => by
  rw [e _ (by omega) (by omega)]
  exact H j hj
theorem rMx_c (h80 : m'.1 80 = m.1 80) (h10 : m'.1 10 = m.1 10) (h14 : m'.1 14 1 = m.1 14 1 ∧ m'.1 14 2 = m.1 14 2) (h25 : m'.1 70 25 = m.1 70 25) (h81 : m'.1 81 = m.1 81) (hr : ∀ a, 16 ≤ a → a < 36 → m'.1 a = m.1 a) (hi : ∀ a, 37 ≤ a → a < 41 → m'.1 a = m.1 a) (h41 : m'.1 41 = m.1 41) (h42 : m'.1 42 = m.1 42) (h85 : m'.1 85 = m.1 85) (h86 : m'.1 86 = m.1 86) (h87 : m'.1 87 = m.1 87) (h23 : m'.1 70 23 = m.1 70 23) (h43 : m'.1 43 0 = m.1 43 0) (M : rMx m) : rMx m' := by
  obtain ⟨M1, ⟨n, h, M2, M3, M4⟩, M5, M6⟩ := M
  refine ⟨by rw [h80, h10]; exact M1, ⟨n, h, M2, by rw [h14.1, h14.2, h25]; exact M3, by rw [h80, h81]; exact rHx_c M4 hr⟩, fun k hk => ?_, by rw [h23, h43]; exact M6⟩
  rw [h42, h87, h41, h85, h86, hi _ (by omega) (by omega)]
  exact M5 k hk
theorem rMx_w (w : xrw m m') (M : rMx m) : rMx m' := rMx_c (w.1 80 0 148 (by decide)) (w.1 10 0 114 (by decide)) ⟨w.2 14 2 1 (by decide), w.2 14 2 2 (by decide)⟩ (w.2 70 11 25 (by decide)) (w.1 81 0 2480 (by decide)) (fun a h1 h2 => xrw_16 w ⟨h1, h2⟩) (fun a h1 h2 => xrw_37 w ⟨h1, h2⟩) (w.1 41 0 4 (by decide)) (w.1 42 2 4 (by decide)) (w.1 85 0 592 (by decide)) (w.1 86 0 4 (by decide)) (w.1 87 2 4 (by decide)) (w.2 70 11 23 (by decide)) (w.2 43 1 0 (by decide)) M
/-- an act, on both sides -/
theorem rMx_act {n h : Nat} {m1 : xS} {c' s' : Nat → Int32} (M : rMx m) (n20 : n < 20) (h20 : h ≤ 20) (e1 : m.1 14 1 = Int32.ofNat n) (e2 : m.1 14 2 = Int32.ofNat h) (R' : R32 s' c') (I' : vI9 s') (hs : ∀ k, 124 ≤ k → k < 148 → s' k = m.1 80 k) (w1 : xrv (xr (kpc m n h) 10 c') m1) (f : xfr xMA m1 m2) (q1 : m2.1 70 25 = Int32.ofNat (min 20 (h + 1))) (q2 : if h < 20 then (∀ j, j < 124 → m2.1 81 (124 * h + j) = m1.1 80 j) ∧ (∀ j, j < 124 * h → m2.1 81 j = m1.1 81 j) else (∀ j, j < 124 → m2.1 81 (124 * 19 + j) = m1.1 80 j) ∧ (∀ j, j < 2356 → m2.1 81 j = m1.1 81 (j + 124))) : rMx (xr m2 80 s') := by
  obtain ⟨M1, ⟨n0, h0, M2, M3, M4⟩, M5, M6⟩ := M
  have en : n0 = n := by
    have z := congrArg Int32.toInt (M3.1.symm.trans e1)
    rw [nJ (by omega), nJ (by omega)] at z
    omega
  have eh : h0 = h := by
    have z := congrArg Int32.toInt (M3.2.1.symm.trans e2)
    rw [nJ (by omega), nJ (by omega)] at z
    omega
  subst en
  subst eh
  -- rows behind both calls
  have o : ∀ a, a ≠ 70 → a ≠ 81 → a ≠ 80 → (xr m2 80 s').1 a = m1.1 a := fun a z1 z2 z3 => (xr_o z3).trans (funext fun j => f.2 a j (by
    unfold yinM xMA
    simp only [List.any_cons, List.any_nil, Bool.or_false, Bool.or_eq_false_iff]
    constructor
    · simp only [Bool.and_eq_false_iff, decide_eq_false_iff_not]
      omega
    · simp only [Bool.and_eq_false_iff, decide_eq_false_iff_not]
      omega))
  have o70 : ∀ j : Nat, j ≠ 25 → (xr m2 80 s').1 70 j = m1.1 70 j := fun j hj => (congrFun (xr_o (by decide)) j).trans (f.2 70 j (by
    unfold yinM xMA
    simp only [List.any_cons, List.any_nil, Bool.or_false, Bool.or_eq_false_iff]
    constructor
    · simp only [Bool.and_eq_false_iff, Bool.or_eq_false_iff, decide_eq_false_iff_not, beq_eq_false_iff_ne]
      omega
    · simp only [Bool.and_eq_false_iff, decide_eq_false_iff_not]
      omega))
  have k : ∀ a, a ≠ 10 → a ≠ 14 → a ≠ 16 + n0 → (xr (kpc m n0 h0) 10 c').1 a = m.1 a := fun a z1 z2 z3 => (xr_o z1).trans (kpc_r z2 z3)
  have e80 : m1.1 80 = m.1 80 := (w1.1 80 0 148 (by decide)).trans (k 80 (by decide) (by decide) (by omega))
  have e81 : m1.1 81 = m.1 81 := (w1.1 81 0 2480 (by decide)).trans (k 81 (by decide) (by decide) (by omega))
  refine ⟨?_, ⟨(n0 + 1) % 20, min 20 (h0 + 1), by omega, ⟨?_, ?_, ?_⟩, ?_⟩, fun a ha => ?_, ?_⟩
  · rw [xr_s, o 10 (by decide) (by decide) (by decide), w1.1 10 0 114 (by decide), xr_s]
    exact ⟨R', I'⟩
  · rw [o 14 (by decide) (by decide) (by decide), w1.2 14 2 1 (by decide) (by decide), xr_o (by decide)]
    exact kpc_1
  · rw [o 14 (by decide) (by decide) (by decide), w1.2 14 2 2 (by decide) (by decide), xr_o (by decide)]
    exact kpc_2
  · exact (congrFun (xr_o (by decide)) 25).trans q1
  · rw [xr_s, xr_o (show (81 : Nat) ≠ 80 by decide)]
    have l : 16 + n0 ≠ 10 := by omega
    refine rHx_c (r := fun a => if 16 ≤ a ∧ a < 36 then (xr m2 80 s').1 a else m.1 a) (rH_k (s := m.1 80) (w := m.1 81) (r := m.1) M4 M2.1 M2.2 ?_ M1.2 (fun a ha => ?_) hs ?_) (fun a a1 a2 => (if_pos ⟨a1, a2⟩).symm)
    · rw [if_pos (by omega), o (16 + n0) (by omega) (by omega) (by omega), xrv_16 w1 ⟨by omega, by omega⟩, xr_o l]
      exact R_c M1.1 (fun _ _ => rfl) (fun j hj => kpc_k M2.1 hj)
    · split
      · next z => rw [o a (by omega) (by omega) (by omega), xrv_16 w1 z, k a (by omega) (by omega) ha]
      · rfl
    · rw [e80, e81] at q2
      exact q2
  · rw [o 87 (by decide) (by decide) (by decide), o 42 (by decide) (by decide) (by decide), o 85 (by decide) (by decide) (by decide), o 86 (by decide) (by decide) (by decide), o 41 (by decide) (by decide) (by decide), o (37 + a) (by omega) (by omega) (by omega), w1.1 87 2 4 (by decide), w1.1 42 2 4 (by decide), w1.1 85 0 592 (by decide), w1.1 86 0 4 (by decide), w1.1 41 0 4 (by decide), xrv_37 w1 ⟨by omega, by omega⟩, k 87 (by decide) (by decide) (by omega), k 42 (by decide) (by decide) (by omega), k 85 (by decide) (by decide) (by omega), k 86 (by decide) (by decide) (by omega), k 41 (by decide) (by decide) (by omega), k (37 + a) (by omega) (by omega) (by omega)]
    exact M5 a ha
  · rw [o70 23 (by decide), o 43 (by decide) (by decide) (by decide), w1.2 70 11 23 (by decide) (by decide), w1.2 43 1 0 (by decide) (by decide), k 70 (by decide) (by decide) (by omega), k 43 (by decide) (by decide) (by omega)]
    exact M6
end PRM
abbrev MI (hp : zHp) : Prop := rI hp ∧ rMx (xof hp)
/-- a call of the class leaves a heap -/
def lH (Iv : zHp → Prop) (kc : Nat) (as : List Value) : Prop := ∀ hp, Iv hp → ∃ (x : Int32) (z : zHp), zCan 20 kc (.ref 0 :: as) hp (some (.int x), z) ∧ yH0 z
theorem eH {n1 : Nat} {sp1 : ySp} (T1 : yTs (yEA yAr) n1 sp1) {na : Nat} {bl : List Nat} (c1 : (eOk 0 na bl sp1.2.2.1 && (decide (n1 ≤ 20) && (decide (na + 1 ≤ sp1.2.1) && sp1.2.2.2.1.all eQok))) = true) (ys : List Int32) (hl : ys.length = na) (hb : ∀ s ∈ bl, ∀ y, ys[s]? = some y → 0 ≤ y.toInt ∧ y.toInt ≤ 1) : lH rI sp1.1 (ys.map .int) := fun hp hI => by
  obtain ⟨x1, z1, a1, a2, -⟩ := eSp T1 c1 hI.1 hl hb
  exact ⟨x1, z1, a1, a2.1⟩
/-- a pair by runs over the memory -/
theorem eM {cm : Bool} {kc kr : Nat} {as : List Value} (P : lP rI kc kr as false) (Hc : lH rI kc as) {Dc Dr : xS → Option (Int32 × xS)} (Zc : ∀ {hp : zHp}, yH0 hp → ∀ {y : Int32 × xS}, Dc (xof hp) = some y → zCan 20 kc (.ref 0 :: as) (xW hp (xof hp)) (some (.int y.1), xW hp y.2)) (Zr : ∀ {hp : zHp}, yH0 hp → ∀ {y : Int32 × xS}, Dr (xof hp) = some y → zCan 20 kr (.ref 70 :: as) (xW hp (xof hp)) (some (.int y.1), xW hp y.2)) (K : ∀ hp : zHp, MI hp → xP (Dc (xof hp)) (fun v1 m1 => ∀ m1', xrw m1 m1' → xT m1' → xP (Dr m1') (fun v2 m2 => (cm = true → v1 = v2) ∧ rMx m2))) : lP MI kc kr as cm := fun hp hI => by
  obtain ⟨x1, x2, z1, z2, a1, a2, a3, a4, a5, a6, a7, -⟩ := P hp hI.1
  obtain ⟨y, hy, hQ⟩ := K hp hI
  have u := Zc hI.1.1.1 hy
  rw [xW_of] at u
  have u := zCan_u a3 u
  cases u
  obtain ⟨x3, z3, b1, b2⟩ := Hc hp hI.1
  have u := zCan_u a3 b1
  cases u
  obtain ⟨y2, hy2, hc, hM⟩ := hQ (xof (xW hp y.2)) (xrw_of hI.1.1.1 _) (xT_of b2)
  have u := Zr b2 hy2
  rw [xW_of] at u
  have u := zCan_u a5 u
  cases u
  exact ⟨_, _, _, _, a1, a2, a3, a4, a5, a6, ⟨a7, rMx_w (xrw_of b2 _) hM⟩, hc⟩
/-- where the relation looks -/
abbrev rMM : yM := [(10, 10, 1000), (14, 14, 1000), (16, 35, 1000), (37, 42, 1000), (43, 43, 1000), (70, 70, 23), (70, 70, 25), (80, 81, 1000), (85, 87, 1000)]
theorem yin_r {a b i : Nat} {j : Int} {M : yM} (h : (a, b, 1000) ∈ M) (h1 : a ≤ i) (h2 : i ≤ b) : yinM M i j = true := List.any_eq_true.mpr ⟨(a, b, 1000), h, by simp [h1, h2]⟩
theorem rMx_F {M : yM} {hp z : zHp} (f : yF M hp z) (h : ydj M rMM = true) (k : rMx (xof hp)) : rMx (xof z) := by
  have q : ∀ i j : Nat, yinM rMM i (j : Int) = true → (xof z).1 i j = (xof hp).1 i j := fun i j hj => eF f (ydj_ok h i j hj)
  exact rMx_c (funext fun j => q 80 j (yin_r (a := 80) (b := 81) (by decide) (by decide) (by decide))) (funext fun j => q 10 j (yin_r (a := 10) (b := 10) (by decide) (by decide) (by decide))) ⟨q 14 1 rfl, q 14 2 rfl⟩ (q 70 25 rfl) (funext fun j => q 81 j (yin_r (a := 80) (b := 81) (by decide) (by decide) (by decide))) (fun a h1 h2 => funext fun j => q a j (yin_r (a := 16) (b := 35) (by decide) h1 (by omega))) (fun a h1 h2 => funext fun j => q a j (yin_r (a := 37) (b := 42) (by decide) h1 (by omega))) (funext fun j => q 41 j (yin_r (a := 37) (b := 42) (by decide) (by decide) (by decide))) (funext fun j => q 42 j (yin_r (a := 37) (b := 42) (by decide) (by decide) (by decide))) (funext fun j => q 85 j (yin_r (a := 85) (b := 87) (by decide) (by decide) (by decide))) (funext fun j => q 86 j (yin_r (a := 85) (b := 87) (by decide) (by decide) (by decide))) (funext fun j => q 87 j (yin_r (a := 85) (b := 87) (by decide) (by decide) (by decide))) (q 70 23 rfl) (q 43 0 rfl) k
/-- a pair that leaves the relation's places alone -/
theorem eN {n1 n2 : Nat} {sp1 sp2 : ySp} (T1 : yTs (yEA yAr) n1 sp1) (T2 : yTs (yEA yAr) n2 sp2) {na : Nat} {bl : List Nat} (c1 : (eOk 0 na bl sp1.2.2.1 && (decide (n1 ≤ 20) && (decide (na + 1 ≤ sp1.2.1) && sp1.2.2.2.1.all eQok))) = true) (c2 : (eOk 70 na bl sp2.2.2.1 && (decide (n2 ≤ 20) && (decide (na + 1 ≤ sp2.2.1) && sp2.2.2.2.1.all eQok))) = true) (hM : (ydj sp1.2.2.2.2 r0M && ydj sp2.2.2.2.2 r0M) = true) (hN : (ydj sp1.2.2.2.2 rMM && ydj sp2.2.2.2.2 rMM) = true) (ys : List Int32) (hl : ys.length = na) (hb : ∀ s ∈ bl, ∀ y, ys[s]? = some y → 0 ≤ y.toInt ∧ y.toInt ≤ 1) : lP MI sp1.1 sp2.1 (ys.map .int) false := fun hp hI => by
  rw [Bool.and_eq_true] at hM hN
  obtain ⟨x1, z1, a1, a2, a3, -⟩ := eSp T1 c1 hI.1.1 hl hb
  obtain ⟨x2, z2, b1, b2, b3, -⟩ := eSp T2 c2 a2 hl hb
  exact ⟨x1, x2, z1, z2, eK0 hI.1.1.1, eK70 a2.1, a1, a3.1, b1, b3.1, ⟨⟨b2, r0_F b3 hM.2 (r0_F a3 hM.1 hI.1.2)⟩, rMx_F b3 hN.2 (rMx_F a3 hN.1 hI.2)⟩, fun h => by cases h⟩
end
section
/-! The acts, as pairs of calls. -/
def rkp (m m2 : xS) (h : Nat) : Prop := xfr xMA m m2 ∧ m2.1 70 25 = Int32.ofNat (min 20 (h + 1)) ∧ (if h < 20 then (∀ j, j < 124 → m2.1 81 (124 * h + j) = m.1 80 j) ∧ (∀ j, j < 124 * h → m2.1 81 j = m.1 81 j) else (∀ j, j < 124 → m2.1 81 (124 * 19 + j) = m.1 80 j) ∧ (∀ j, j < 2356 → m2.1 81 j = m.1 81 (j + 124)))
section KACT
variable {m : xS} {F : Nat} {s : Nat → Int32}
theorem oT {α : Type} {c : Bool} {a b r : Option α} (h : c = true) (k : a = r) : (if c = true then a else b) = r := by
  rw [if_pos h]
  exact k
theorem oF {α : Type} {c : Bool} {a b r : Option α} (h : c = false) (k : b = r) : (if c = true then a else b) = r := by
  rw [h]
  exact k
theorem zeF {b : Bool} (h : b = true) : zcmp .eq (pB b) 0 = false := by rw [h]; decide
theorem zeT {b : Bool} (h : b = false) : zcmp .eq (pB b) 0 = true := by rw [h]; decide
theorem znT {b : Bool} (h : b = true) : zcmp .ne (pB b) 0 = true := by rw [h]; decide
theorem znF {b : Bool} (h : b = false) : zcmp .ne (pB b) 0 = false := by rw [h]; decide
theorem bF {b : Bool} (h : ¬ b = true) : b = false := by cases b; rfl; exact absurd rfl h
theorem tnI {t : Nat} {v : Int32} (h : v = Int32.ofNat t) (l : t < 2000) : v.toInt.toNat = t := by rw [h, nJ l]; exact Int.toNat_natCast t
/-- acts: class and reference decide alike, keep, and do alike -/
theorem kA {Dc Dr : xS → Option (Int32 × xS)} {p : (Nat → Int32) → Bool} {val : (Nat → Int32) → Int32} {act : (Nat → Int32) → Nat → Int32} {f : Int32} (C : ∀ (m : xS) (n h : Nat), xT m → R32 (m.1 80) (m.1 10) → vI (m.1 80) → n < 20 → h ≤ 20 → m.1 14 1 = Int32.ofNat n → m.1 14 2 = Int32.ofNat h → if p (m.1 80) = true then ∃ c', Dc m = some (val (m.1 80), xr (kpc m n h) 10 c') ∧ R32 (act (m.1 80)) c' ∧ vI (act (m.1 80)) ∧ (∀ k, 124 ≤ k → k < 148 → act (m.1 80) k = m.1 80 k) else Dc m = some (f, m)) (h9 : ∀ s, vI9 s → p s = true → (act s 4).toInt ≤ 999) (Rr : ∀ (m : xS) (h : Nat), xT m → vI9 (m.1 80) → h ≤ 20 → m.1 70 25 = Int32.ofNat h → if p (m.1 80) = true then xP (Dr m) (fun v m2 => v = val (m.1 80) ∧ ∃ m2a, rkp m m2a h ∧ m2 = xr m2a 80 (act (m.1 80))) else Dr m = some (f, m)) (m : xS) (hT : xT m) (M : rMx m) : xP (Dc m) (fun v1 m1 => ∀ m1', xrw m1 m1' → xT m1' → xP (Dr m1') (fun v2 m2 => (true = true → v1 = v2) ∧ rMx m2)) := by
  have M0 := M
  obtain ⟨⟨R, I⟩, ⟨n, h, ⟨n20, h20⟩, ⟨e1, e2, e3⟩, -⟩, -⟩ := M0
  have c := C m n h hT R I.1 n20 h20 e1 e2
  by_cases P : p (m.1 80) = true
  · rw [if_pos P] at c
    obtain ⟨c', k1, k2, k3, k4⟩ := c
    refine ⟨_, k1, fun m1' w t1 => ?_⟩
    have e80 : m1'.1 80 = m.1 80 := (w.1 80 0 148 (by decide)).trans ((xr_o (by decide)).trans (kpc_r (by decide) (by omega)))
    have e25 : m1'.1 70 25 = m.1 70 25 := (w.2 70 11 25 (by decide)).trans (congrFun ((xr_o (by decide)).trans (kpc_r (by decide) (by omega))) 25)
    have r := Rr m1' h t1 (by rw [e80]; exact I) h20 (e25.trans e3)
    rw [e80, if_pos P] at r
    obtain ⟨y, hy, q1, m2a, q2, q3⟩ := r
    refine ⟨y, hy, fun _ => q1.symm, ?_⟩
    rw [q3]
    exact rMx_act M n20 h20 e1 e2 k2 ⟨k3, h9 _ I P⟩ k4 (xrw_v w) q2.1 q2.2.1 q2.2.2
  · rw [if_neg P] at c
    refine ⟨_, c, fun m1' w t1 => ?_⟩
    have e80 : m1'.1 80 = m.1 80 := w.1 80 0 148 (by decide)
    have e25 : m1'.1 70 25 = m.1 70 25 := w.2 70 11 25 (by decide)
    have r := Rr m1' h t1 (by rw [e80]; exact I) h20 (e25.trans e3)
    rw [e80, if_neg P] at r
    exact ⟨_, r, fun _ => rfl, rMx_w w M⟩
theorem k10 {n h : Nat} (R : R32 s (m.1 10)) : R32 s ((kpc m n h).1 10) := by
  rw [kpc_r (by decide) (by omega)]
  exact R
theorem y80 {m2 : xS} (f : xfr xMA m m2) : m2.1 80 = m.1 80 := funext fun j => f.2 80 j (by unfold yinM; rfl)
-- lend
def pLd (s : Nat → Int32) (a1 a2 : Int32) : Bool := pin s 2 a1 && (pin s 0 a2 && pcl s a1.toInt.toNat a2.toInt.toNat)
theorem c131 {n hh : Nat} {a1 a2 : Int32} (hT : xT m) (R : R32 s (m.1 10)) (I : vI s) (n20 : n < 20) (h20 : hh ≤ 20) (e1 : m.1 14 1 = Int32.ofNat n) (e2 : m.1 14 2 = Int32.ofNat hh) : if pLd s a1 a2 = true then ∃ c', D131_0 F a1 a2 m = some (psh (pld s a1.toInt.toNat a2.toInt.toNat) a1.toInt.toNat 0, xr (kpc m n hh) 10 c') ∧ R32 (pld s a1.toInt.toNat a2.toInt.toNat) c' ∧ vI (pld s a1.toInt.toNat a2.toInt.toNat) ∧ (∀ k, 124 ≤ k → k < 148 → pld s a1.toInt.toNat a2.toInt.toNat k = s k) else D131_0 F a1 a2 m = some (-1, m) := by
  have nt := I_nt I
  have n6 := I_n6 I
  unfold pLd D131_0
  by_cases P1 : pin s 2 a1 = true
  · obtain ⟨t, ht, t2⟩ := pin_n P1
    by_cases P2 : pin s 0 a2 = true
    · obtain ⟨h, hh2, h2⟩ := pin_n P2
      rw [tnI ht (by omega), tnI hh2 (by omega), P1, P2, Bool.true_and, Bool.true_and]
      by_cases P3 : pcl s t h = true
      · rw [if_pos P3]
        have I' := I_ld I t2 h2 P3
        obtain ⟨c', k1, k2⟩ := a102_9 (m := kpc m n hh) (F := F) (k10 R) I ht hh2 t2 (by omega)
        have l2 : pld s t h 2 = s 2 := (pld_o (by omega) (by omega)).trans (pth_o (by omega))
        refine ⟨c', ?_, k2, I', fun k l1 l3 => (pld_o (by omega) (by omega)).trans (pth_o (by have := I.2.1 t t2; omega))⟩
        exact ob (c83_9 R) (oF (zeF P1) (ob (c85_9 R) (oF (zeF P2) (ob (c101_9 hT R I ht hh2 t2 (by omega)) (oT (znT P3) (ob (c16_9 e1 e2 n20 h20) (ob k1 (ob (c99_9 (s := pld s t h) (by rw [xr_s]; exact k2) I' ht (by rw [l2]; exact t2)) rfl))))))))
      · rw [if_neg P3]
        exact ob (c83_9 R) (oF (zeF P1) (ob (c85_9 R) (oF (zeF P2) (ob (c101_9 hT R I ht hh2 t2 (by omega)) (oF (znF (bF P3)) rfl)))))
    · rw [P1, bF P2, Bool.true_and, Bool.false_and, if_neg (by decide)]
      exact ob (c83_9 R) (oF (zeF P1) (ob (c85_9 R) (oT (zeT (bF P2)) rfl)))
  · rw [bF P1, Bool.false_and, if_neg (by decide)]
    exact ob (c83_9 R) (oT (zeT (bF P1)) rfl)
theorem r226 {hh : Nat} {a1 a2 : Int32} (hF : 3000 ≤ F) (hT : xT m) (I : vI (m.1 80)) (h20 : hh ≤ 20) (e3 : m.1 70 25 = Int32.ofNat hh) : if pLd (m.1 80) a1 a2 = true then xP (D226 F a1 a2 m) (fun v m2 => v = psh (pld (m.1 80) a1.toInt.toNat a2.toInt.toNat) a1.toInt.toNat 0 ∧ ∃ m2a, rkp m m2a hh ∧ m2 = xr m2a 80 (pld (m.1 80) a1.toInt.toNat a2.toInt.toNat)) else D226 F a1 a2 m = some (-1, m) := by
  have nt := I_nt I
  have n6 := I_n6 I
  unfold pLd D226
  by_cases P1 : pin (m.1 80) 2 a1 = true
  · obtain ⟨t, ht, t2⟩ := pin_n P1
    by_cases P2 : pin (m.1 80) 0 a2 = true
    · obtain ⟨h, hh2, h2⟩ := pin_n P2
      rw [tnI ht (by omega), tnI hh2 (by omega), P1, P2, Bool.true_and, Bool.true_and]
      by_cases P3 : pcl (m.1 80) t h = true
      · rw [if_pos P3]
        obtain ⟨⟨u, y⟩, hy, q1, q2⟩ := r220 hF hT e3 h20
        have e := y80 q2.1
        have k := r223 (F := F) (m := y) (by rw [e]; exact I) ht hh2 (by rw [e]; exact t2) (by omega)
        rw [e] at k
        refine ⟨(_, _), ob r206 (oF (zeF P1) (ob r205 (oF (zeF P2) (ob (r222 I ht hh2 t2 (by omega)) (oT (znT P3) (ob hy (ob k (ob (r214 ht (by omega)) rfl)))))))), ?_, y, q2, rfl⟩
        dsimp only
        rw [xr_s]
      · rw [if_neg P3]
        exact ob r206 (oF (zeF P1) (ob r205 (oF (zeF P2) (ob (r222 I ht hh2 t2 (by omega)) (oF (znF (bF P3)) rfl)))))
    · rw [P1, bF P2, Bool.true_and, Bool.false_and, if_neg (by decide)]
      exact ob r206 (oF (zeF P1) (ob r205 (oT (zeT (bF P2)) rfl)))
  · rw [bF P1, Bool.false_and, if_neg (by decide)]
    exact ob r206 (oT (zeT (bF P1)) rfl)
-- giveBack
def pGb (s : Nat → Int32) (a1 : Int32) : Bool := pin s 2 a1 && !phm s a1.toInt.toNat
def pgo (s : Nat → Int32) (t : Nat) : Nat → Int32 := pgv s t (s (10 + 6 * t))
theorem I_go (I : vI s) {t : Nat} (ht : (t : Int) < (s 2).toInt) : vI (pgo s t) := I_gv I ht (I.2.1 t ht).1.1 (I.2.1 t ht).1.2
theorem c132 {n hh : Nat} {a1 : Int32} (R : R32 s (m.1 10)) (I : vI s) (n20 : n < 20) (h20 : hh ≤ 20) (e1 : m.1 14 1 = Int32.ofNat n) (e2 : m.1 14 2 = Int32.ofNat hh) : if pGb s a1 = true then ∃ c', D132_0 F a1 m = some (s (10 + 6 * a1.toInt.toNat), xr (kpc m n hh) 10 c') ∧ R32 (pgo s a1.toInt.toNat) c' ∧ vI (pgo s a1.toInt.toNat) ∧ (∀ k, 124 ≤ k → k < 148 → pgo s a1.toInt.toNat k = s k) else D132_0 F a1 m = some (-1, m) := by
  have nt := I_nt I
  unfold pGb D132_0
  by_cases P1 : pin s 2 a1 = true
  · obtain ⟨t, ht, t2⟩ := pin_n P1
    rw [tnI ht (by omega), P1, Bool.true_and]
    by_cases P3 : phm s t = true
    · rw [P3, if_neg (by decide)]
      exact ob (c83_9 R) (oF (zeF P1) (ob (c97_9 R ht (by omega)) (oF (zeF P3) rfl)))
    · rw [bF P3, if_pos (show (!false) = true from rfl)]
      obtain ⟨c', k1, k2⟩ := a103_9 (m := kpc m n hh) (F := F) (k10 R) ht (by omega)
      refine ⟨c', ?_, k2, I_go I t2, fun k l1 l3 => pgv_o (by omega)⟩
      refine ob (c83_9 R) (oF (zeF P1) (ob (c97_9 R ht (by omega)) (oT (zeT (bF P3)) (ob (c16_9 e1 e2 n20 h20) (ob k1 (ob (c87_9 (s := pgo s t) (by rw [xr_s]; exact k2) ht (w := 0) rfl (by omega) (by decide)) ?_))))))
      exact congrArg (fun z => some (z, _)) pgv_0
  · rw [bF P1, Bool.false_and, if_neg (by decide)]
    exact ob (c83_9 R) (oT (zeT (bF P1)) rfl)
theorem r227 {hh : Nat} {a1 : Int32} (hF : 3000 ≤ F) (hT : xT m) (I : vI (m.1 80)) (h20 : hh ≤ 20) (e3 : m.1 70 25 = Int32.ofNat hh) : if pGb (m.1 80) a1 = true then xP (D227 F a1 m) (fun v m2 => v = m.1 80 (10 + 6 * a1.toInt.toNat) ∧ ∃ m2a, rkp m m2a hh ∧ m2 = xr m2a 80 (pgo (m.1 80) a1.toInt.toNat)) else D227 F a1 m = some (-1, m) := by
  have nt := I_nt I
  unfold pGb D227
  by_cases P1 : pin (m.1 80) 2 a1 = true
  · obtain ⟨t, ht, t2⟩ := pin_n P1
    rw [tnI ht (by omega), P1, Bool.true_and]
    by_cases P3 : phm (m.1 80) t = true
    · rw [P3, if_neg (by decide)]
      exact ob r206 (oF (zeF P1) (ob (r212 ht (by omega)) (oF (zeF P3) rfl)))
    · rw [bF P3, if_pos (show (!false) = true from rfl)]
      obtain ⟨⟨u, y⟩, hy, q1, q2⟩ := r220 hF hT e3 h20
      have e := y80 q2.1
      have k := r224 (F := F) (m := y) ht (by omega)
      rw [e] at k
      refine ⟨(_, _), ob r206 (oF (zeF P1) (ob (r212 ht (by omega)) (oT (zeT (bF P3)) (ob hy (ob k (ob (r208 ht (w := 0) rfl (by omega) (by decide)) rfl)))))), ?_, y, q2, rfl⟩
      dsimp only
      rw [xr_s]
      exact pgv_0
  · rw [bF P1, Bool.false_and, if_neg (by decide)]
    exact ob r206 (oT (zeT (bF P1)) rfl)
-- does
def pDo (s : Nat → Int32) (a1 : Int32) : Bool := pin s 3 a1 && pcd s a1.toInt.toNat
theorem c133 {n hh : Nat} {a1 : Int32} (hF : 500 ≤ F) (R : R32 s (m.1 10)) (I : vI s) (n20 : n < 20) (h20 : hh ≤ 20) (e1 : m.1 14 1 = Int32.ofNat n) (e2 : m.1 14 2 = Int32.ofNat hh) : if pDo s a1 = true then ∃ c', D133_0 F a1 m = some (s (124 + 4 * a1.toInt.toNat + 3), xr (kpc m n hh) 10 c') ∧ R32 (pwk s a1.toInt.toNat) c' ∧ vI (pwk s a1.toInt.toNat) ∧ (∀ k, 124 ≤ k → k < 148 → pwk s a1.toInt.toNat k = s k) else D133_0 F a1 m = some (-1, m) := by
  have nw := I_nw I
  unfold pDo D133_0
  by_cases P1 : pin s 3 a1 = true
  · obtain ⟨t, ht, t2⟩ := pin_n P1
    rw [tnI ht (by omega), P1, Bool.true_and]
    by_cases P3 : pcd s t = true
    · rw [if_pos P3]
      obtain ⟨c', k1, k2⟩ := a108_9 (m := kpc m n hh) (F := F) (k10 R) ht (by omega)
      refine ⟨c', ?_, k2, I_wk I t2, fun k l1 l3 => (cup_o (by omega)).trans (cup_o (by omega))⟩
      exact ob (c84_9 R) (oF (zeF P1) (ob (c107_9 hF R I ht t2) (oT (znT P3) (ob (c16_9 e1 e2 n20 h20) (ob k1 rfl)))))
    · rw [if_neg P3]
      exact ob (c84_9 R) (oF (zeF P1) (ob (c107_9 hF R I ht t2) (oF (znF (bF P3)) rfl)))
  · rw [bF P1, Bool.false_and, if_neg (by decide)]
    exact ob (c84_9 R) (oT (zeT (bF P1)) rfl)
theorem r228 {hh : Nat} {a1 : Int32} (hF : 3000 ≤ F) (hT : xT m) (I : vI (m.1 80)) (h20 : hh ≤ 20) (e3 : m.1 70 25 = Int32.ofNat hh) : if pDo (m.1 80) a1 = true then xP (D228 F a1 m) (fun v m2 => v = m.1 80 (124 + 4 * a1.toInt.toNat + 3) ∧ ∃ m2a, rkp m m2a hh ∧ m2 = xr m2a 80 (pwk (m.1 80) a1.toInt.toNat)) else D228 F a1 m = some (-1, m) := by
  have nt := I_nt I
  have nw := I_nw I
  unfold pDo D228
  by_cases P1 : pin (m.1 80) 3 a1 = true
  · obtain ⟨t, ht, t2⟩ := pin_n P1
    rw [tnI ht (by omega), P1, Bool.true_and]
    by_cases P3 : pcd (m.1 80) t = true
    · rw [if_pos P3]
      obtain ⟨⟨u, y⟩, hy, q1, q2⟩ := r220 hF hT e3 h20
      have e := y80 q2.1
      have k := r225 (F := F) (m := y) ht (by omega)
      rw [e] at k
      exact ⟨(_, _), ob r207 (oF (zeF P1) (ob (r216 (by omega) nt ht (by omega)) (oT (znT P3) (ob hy (ob k rfl))))), rfl, y, q2, rfl⟩
    · rw [if_neg P3]
      exact ob r207 (oF (zeF P1) (ob (r216 (by omega) nt ht (by omega)) (oF (znF (bF P3)) rfl)))
  · rw [bF P1, Bool.false_and, if_neg (by decide)]
    exact ob r207 (oT (zeT (bF P1)) rfl)
-- quarrel
theorem c86_9 (R : R32 s (m.1 10)) {v1 v2 : Int32} : D86_9 F v1 v2 m = some (pB (pin s 0 v1 && (pin s 0 v2 && !(v1 == v2))), m) := by
  unfold D86_9
  refine ob (c85_9 R) (oi (p := !pin s 0 v1) pB1 (fun a => ?_) (fun a => ?_))
  · rw [show pin s 0 v1 = false by simpa using a]
    rfl
  rw [show pin s 0 v1 = true by simpa using a]
  refine ob (c85_9 R) (oi (p := !pin s 0 v2) pB1 (fun b => ?_) (fun b => ?_))
  · rw [show pin s 0 v2 = false by simpa using b]
    rfl
  rw [show pin s 0 v2 = true by simpa using b]
  refine oi (p := v1 == v2) zce (fun c => ?_) (fun c => ?_)
  · rw [c]
    rfl
  · rw [c]
    rfl
theorem c93_9 (hT : xT m) (R : R32 s (m.1 10)) {a d : Nat} {v1 v2 : Int32} (h1 : v1 = Int32.ofNat a) (h2 : v2 = Int32.ofNat d) (ha : a < 6) (hd : d < 6) : D93_9 F v1 v2 m = some (pB (ptr s a d || ptr s d a), m) := by
  unfold D93_9
  refine ob (c92_9 hT R h1 h2 ha hd) (oi (p := ptr s a d) pB2 (fun b => ?_) (fun b => ?_))
  · rw [b]
    rfl
  rw [b, Bool.false_or]
  refine ob (c92_9 hT R h2 h1 hd ha) (oi (p := !ptr s d a) pB1 (fun c => ?_) (fun c => ?_))
  · rw [show ptr s d a = false by simpa using c]
    rfl
  · rw [show ptr s d a = true by simpa using c]
    rfl
def pQu (s : Nat → Int32) (a1 a2 : Int32) : Bool := (pin s 0 a1 && (pin s 0 a2 && !(a1 == a2))) && (ptr s a1.toInt.toNat a2.toInt.toNat || ptr s a2.toInt.toNat a1.toInt.toNat)
theorem pqu_o {a d k : Nat} (h : ¬ (46 ≤ k ∧ k < 82)) (ha : a < 6) (hd : d < 6) : pqu s a d k = s k := (cup_o (by omega)).trans (cup_o (by omega))
theorem c134 {n hh : Nat} {a1 a2 : Int32} (hT : xT m) (R : R32 s (m.1 10)) (I : vI s) (n20 : n < 20) (h20 : hh ≤ 20) (e1 : m.1 14 1 = Int32.ofNat n) (e2 : m.1 14 2 = Int32.ofNat hh) (hk : xT (kpc m n hh)) : if pQu s a1 a2 = true then ∃ c', D134_0 F a1 a2 m = some (1, xr (kpc m n hh) 10 c') ∧ R32 (pqu s a1.toInt.toNat a2.toInt.toNat) c' ∧ vI (pqu s a1.toInt.toNat a2.toInt.toNat) ∧ (∀ k, 124 ≤ k → k < 148 → pqu s a1.toInt.toNat a2.toInt.toNat k = s k) else D134_0 F a1 a2 m = some (0, m) := by
  have n6 := I_n6 I
  unfold pQu D134_0
  by_cases P : (pin s 0 a1 && (pin s 0 a2 && !(a1 == a2))) = true
  · have P0 := P
    simp only [Bool.and_eq_true, Bool.not_eq_true', beq_eq_false_iff_ne] at P0
    obtain ⟨P1, P2, P4⟩ := P0
    obtain ⟨t, ht, t2⟩ := pin_n P1
    obtain ⟨h, hh2, h2⟩ := pin_n P2
    have ne : t ≠ h := fun z => P4 (by rw [ht, hh2, z])
    rw [tnI ht (by omega), tnI hh2 (by omega), P, Bool.true_and]
    by_cases P3 : (ptr s t h || ptr s h t) = true
    · rw [if_pos P3]
      obtain ⟨c', k1, k2⟩ := a105_9 (m := kpc m n hh) (F := F) hk (k10 R) ht hh2 (by omega) (by omega) ne
      refine ⟨c', ?_, k2, I_qu I (by omega) (by omega), fun k l1 l3 => pqu_o (by omega) (by omega) (by omega)⟩
      exact ob (c86_9 R) (oF (zeF P) (ob (c93_9 hT R ht hh2 (by omega) (by omega)) (oT (znT P3) (ob (c16_9 e1 e2 n20 h20) (ob k1 rfl)))))
    · rw [if_neg P3]
      exact ob (c86_9 R) (oF (zeF P) (ob (c93_9 hT R ht hh2 (by omega) (by omega)) (oF (znF (bF P3)) rfl)))
  · rw [bF P, Bool.false_and, if_neg (by decide)]
    exact ob (c86_9 R) (oT (zeT (bF P)) rfl)
theorem r230_41 {hh a d : Nat} {v1 v2 : Int32} (hF : 3000 ≤ F) (hT : xT m) (h20 : hh ≤ 20) (e3 : m.1 70 25 = Int32.ofNat hh) (h1 : v1 = Int32.ofNat a) (h2 : v2 = Int32.ofNat d) (ha : a < 6) (hd : d < 6) : xP (D230_41 F v1 v2 m) (fun v m2 => v = 1 ∧ ∃ m2a, rkp m m2a hh ∧ m2 = xr m2a 80 (pqu (m.1 80) a d)) := by
  obtain ⟨⟨u, y⟩, hy, q1, q2⟩ := r220 hF hT e3 h20
  have e := y80 q2.1
  have k := r229 (F := F) (m := y) h1 h2 ha hd
  rw [e] at k
  unfold D230_41
  exact ⟨(_, _), ob hy (ob k rfl), rfl, y, q2, rfl⟩
theorem r230 {hh : Nat} {a1 a2 : Int32} (hF : 3000 ≤ F) (hT : xT m) (I : vI (m.1 80)) (h20 : hh ≤ 20) (e3 : m.1 70 25 = Int32.ofNat hh) : if pQu (m.1 80) a1 a2 = true then xP (D230 F a1 a2 m) (fun v m2 => v = 1 ∧ ∃ m2a, rkp m m2a hh ∧ m2 = xr m2a 80 (pqu (m.1 80) a1.toInt.toNat a2.toInt.toNat)) else D230 F a1 a2 m = some (0, m) := by
  have n6 := I_n6 I
  unfold pQu D230
  by_cases P1 : pin (m.1 80) 0 a1 = true
  · obtain ⟨t, ht, t2⟩ := pin_n P1
    by_cases P2 : pin (m.1 80) 0 a2 = true
    · obtain ⟨h, hh2, h2⟩ := pin_n P2
      rw [P1, P2, Bool.true_and, Bool.true_and, tnI ht (by omega), tnI hh2 (by omega)]
      by_cases P4 : (a1 == a2) = true
      · rw [P4, show (!true && (ptr (m.1 80) t h || ptr (m.1 80) h t)) = false from rfl, if_neg (by decide)]
        exact ob r205 (oF (zeF P1) (ob r205 (oF (zeF P2) (oT (zce.trans P4) rfl))))
      · rw [bF P4, show ∀ z, (!false && z) = z from fun z => Bool.true_and z]
        by_cases P3 : ptr (m.1 80) t h = true
        · rw [P3, Bool.true_or, if_pos rfl]
          obtain ⟨y, hy, q⟩ := r230_41 (F := F) hF hT h20 e3 ht hh2 (by omega) (by omega)
          exact ⟨y, ob r205 (oF (zeF P1) (ob r205 (oF (zeF P2) (oF (zce.trans (bF P4)) (ob (r210 ht hh2 (by omega) (by omega)) (oT (znT P3) hy)))))), q⟩
        · rw [bF P3, Bool.false_or]
          by_cases P5 : ptr (m.1 80) h t = true
          · rw [if_pos P5]
            obtain ⟨y, hy, q⟩ := r230_41 (F := F) hF hT h20 e3 ht hh2 (by omega) (by omega)
            exact ⟨y, ob r205 (oF (zeF P1) (ob r205 (oF (zeF P2) (oF (zce.trans (bF P4)) (ob (r210 ht hh2 (by omega) (by omega)) (oF (znF (bF P3)) (ob (r210 hh2 ht (by omega) (by omega)) (oT (znT P5) hy)))))))), q⟩
          · rw [if_neg P5]
            exact ob r205 (oF (zeF P1) (ob r205 (oF (zeF P2) (oF (zce.trans (bF P4)) (ob (r210 ht hh2 (by omega) (by omega)) (oF (znF (bF P3)) (ob (r210 hh2 ht (by omega) (by omega)) (oF (znF (bF P5)) rfl))))))))
    · rw [P1, bF P2, Bool.true_and, Bool.false_and, Bool.false_and, if_neg (by decide)]
      exact ob r205 (oF (zeF P1) (ob r205 (oT (zeT (bF P2)) rfl)))
  · rw [bF P1, Bool.false_and, Bool.false_and, if_neg (by decide)]
    exact ob r205 (oT (zeT (bF P1)) rfl)
-- gift
def pGf (s : Nat → Int32) (a1 a2 : Int32) : Bool := pin s 2 a1 && (pin s 0 a2 && !(s (10 + 6 * a1.toInt.toNat) == a2))
theorem c136 {n hh : Nat} {a1 a2 : Int32} (R : R32 s (m.1 10)) (I : vI s) (n20 : n < 20) (h20 : hh ≤ 20) (e1 : m.1 14 1 = Int32.ofNat n) (e2 : m.1 14 2 = Int32.ofNat hh) : if pGf s a1 a2 = true then ∃ c', D136_0 F a1 a2 m = some (s (10 + 6 * a1.toInt.toNat), xr (kpc m n hh) 10 c') ∧ R32 (pgv s a1.toInt.toNat a2) c' ∧ vI (pgv s a1.toInt.toNat a2) ∧ (∀ k, 124 ≤ k → k < 148 → pgv s a1.toInt.toNat a2 k = s k) else D136_0 F a1 a2 m = some (-1, m) := by
  have nt := I_nt I
  have n6 := I_n6 I
  unfold pGf D136_0
  by_cases P1 : pin s 2 a1 = true
  · obtain ⟨t, ht, t2⟩ := pin_n P1
    by_cases P2 : pin s 0 a2 = true
    · rw [tnI ht (by omega), P1, P2, Bool.true_and, Bool.true_and]
      have b2 := pin_iff.mp P2
      by_cases P3 : (s (10 + 6 * t) == a2) = true
      · rw [P3, if_neg (by decide)]
        exact ob (c83_9 R) (oF (zeF P1) (ob (c85_9 R) (oT (znT P2) (ob (c87_9 R ht (w := 0) rfl (by omega) (by decide)) (oF (zcn.trans (by show (!(s (10 + 6 * t) == a2)) = false; rw [P3]; rfl)) rfl)))))
      · rw [bF P3, if_pos (show (!false) = true from rfl)]
        have k1 := a104_9 (m := kpc m n hh) (F := F) (v2 := a2) ht (by omega)
        refine ⟨_, ?_, R_gv (k10 (n := n) (h := hh) R) (by omega), I_gv I t2 b2.1 b2.2, fun k l1 l3 => pgv_o (by omega)⟩
        exact ob (c83_9 R) (oF (zeF P1) (ob (c85_9 R) (oT (znT P2) (ob (c87_9 R ht (w := 0) rfl (by omega) (by decide)) (oT (zcn.trans (by show (!(s (10 + 6 * t) == a2)) = true; rw [bF P3]; rfl)) (ob (c16_9 e1 e2 n20 h20) (ob k1 rfl)))))))
    · rw [P1, bF P2, Bool.true_and, Bool.false_and, if_neg (by decide)]
      exact ob (c83_9 R) (oF (zeF P1) (ob (c85_9 R) (oF (znF (bF P2)) rfl)))
  · rw [bF P1, Bool.false_and, if_neg (by decide)]
    exact ob (c83_9 R) (oT (zeT (bF P1)) rfl)
theorem r232 {hh : Nat} {a1 a2 : Int32} (hF : 3000 ≤ F) (hT : xT m) (I : vI (m.1 80)) (h20 : hh ≤ 20) (e3 : m.1 70 25 = Int32.ofNat hh) : if pGf (m.1 80) a1 a2 = true then xP (D232 F a1 a2 m) (fun v m2 => v = m.1 80 (10 + 6 * a1.toInt.toNat) ∧ ∃ m2a, rkp m m2a hh ∧ m2 = xr m2a 80 (pgv (m.1 80) a1.toInt.toNat a2)) else D232 F a1 a2 m = some (-1, m) := by
  have nt := I_nt I
  unfold pGf D232
  by_cases P1 : pin (m.1 80) 2 a1 = true
  · obtain ⟨t, ht, t2⟩ := pin_n P1
    by_cases P2 : pin (m.1 80) 0 a2 = true
    · rw [tnI ht (by omega), P1, P2, Bool.true_and, Bool.true_and]
      by_cases P3 : (m.1 80 (10 + 6 * t) == a2) = true
      · rw [P3, if_neg (by decide)]
        exact ob r206 (oF (zeF P1) (ob r205 (oF (zeF P2) (ob (r208 ht (w := 0) rfl (by omega) (by decide)) (oF (zcn.trans (by show (!(m.1 80 (10 + 6 * t) == a2)) = false; rw [P3]; rfl)) rfl)))))
      · rw [bF P3, if_pos (show (!false) = true from rfl)]
        obtain ⟨⟨u, y⟩, hy, q1, q2⟩ := r220 hF hT e3 h20
        have e := y80 q2.1
        have k := r231 (F := F) (m := y) (v2 := a2) ht (by omega)
        rw [e] at k
        refine ⟨(_, _), ob r206 (oF (zeF P1) (ob r205 (oF (zeF P2) (ob (r208 ht (w := 0) rfl (by omega) (by decide)) (oT (zcn.trans (by show (!(m.1 80 (10 + 6 * t) == a2)) = true; rw [bF P3]; rfl)) (ob hy (ob (r208 ht (w := 0) rfl (by omega) (by decide)) (ob k rfl)))))))), ?_, y, q2, rfl⟩
        dsimp only
        rw [e]
        rfl
    · rw [P1, bF P2, Bool.true_and, Bool.false_and, if_neg (by decide)]
      exact ob r206 (oF (zeF P1) (ob r205 (oT (zeT (bF P2)) rfl)))
  · rw [bF P1, Bool.false_and, if_neg (by decide)]
    exact ob r206 (oT (zeT (bF P1)) rfl)
-- day
theorem c76_9 (R : R32 s (m.1 10)) : D76_9 F m = some (pB (decide (0 < (s 0).toInt)), m) := by
  unfold D76_9
  refine ob (c77_9 R) (oi (p := decide ((s 0).toInt ≤ 0)) zcle (fun a => ?_) (fun a => ?_))
  · have a := of_decide_eq_true a
    rw [decide_eq_false (by omega)]
    rfl
  · have a := of_decide_eq_false a
    rw [decide_eq_true (by omega)]
    rfl
theorem r204 : D204 F m = some (pB (decide (0 < (m.1 80 0).toInt)), m) := by
  unfold D204
  refine oi (p := decide ((m.1 80 0).toInt ≤ 0)) zcle (fun a => ?_) (fun a => ?_)
  · have a := of_decide_eq_true a
    rw [decide_eq_false (by omega)]
    rfl
  · have a := of_decide_eq_false a
    rw [decide_eq_true (by omega)]
    rfl
theorem c113_9_4 (R : R32 s (m.1 10)) (I : vI s) : ∀ (f : Nat) {t : Nat} {v : Int32}, (t : Int) ≤ (s 2).toInt → 6 - t < f → D113_9_4 F f v (Int32.ofNat t) m = some (plc s t ((s 2).toInt.toNat - t) v, m) := by
  have n6 := I_nt I
  intro f
  induction f with
  | zero => intro t v _ l; omega
  | succ f ih =>
    intro t v ht l
    have et := nJ (n := t) (by omega)
    unfold D113_9_4
    refine ob (c79_9 R) (oi (p := decide ((s 2).toInt ≤ (Int32.ofNat t).toInt)) zc (fun h => ?_) (fun h => ?_))
    · have h := of_decide_eq_true h
      rw [show (s 2).toInt.toNat - t = 0 by omega]
      rfl
    · have h := of_decide_eq_false h
      rw [show (s 2).toInt.toNat - t = ((s 2).toInt.toNat - (t + 1)) + 1 by omega]
      show _ = some (plc s (t + 1) ((s 2).toInt.toNat - (t + 1)) (if plt s t = true then v + 1 else v), m)
      have next : ∀ {v' : Int32}, D113_9_23 F (D113_9_4 F f) v' (Int32.ofNat t) m = some (plc s (t + 1) ((s 2).toInt.toNat - (t + 1)) v', m) := fun {v'} => by
        unfold D113_9_23
        rw [show Int32.ofNat t + Int32.ofInt 1 = Int32.ofNat (t + 1) from xadd (a := t) (b := 1) (by omega)]
        exact ih (by omega) (by omega)
      refine ob (c98_9 R I rfl (by omega)) (oi (p := decide ((prs s t).toInt ≤ 0)) zcle (fun a => ?_) (fun a => ?_))
      · have a := of_decide_eq_true a
        rw [show plt s t = false from decide_eq_false (by omega), if_neg (by decide)]
        exact next
      · have a := of_decide_eq_false a
        rw [show plt s t = true from decide_eq_true (by omega), if_pos rfl]
        exact next
theorem c113_9 (hF : 500 ≤ F) (R : R32 s (m.1 10)) (I : vI s) : D113_9 F m = some (plc s 0 (s 2).toInt.toNat 0, m) := by
  have n6 := I_nt I
  have z := c113_9_4 (F := F) R I F (t := 0) (v := 0) (by omega) (by omega)
  rw [Nat.sub_zero] at z
  exact z
def pDy (s : Nat → Int32) : Bool := decide (0 < (s 0).toInt) && decide ((s 4).toInt < 999)
theorem c137 {n hh : Nat} (hF : 500 ≤ F) (R : R32 s (m.1 10)) (I : vI s) (n20 : n < 20) (h20 : hh ≤ 20) (e1 : m.1 14 1 = Int32.ofNat n) (e2 : m.1 14 2 = Int32.ofNat hh) : if pDy s = true then ∃ c', D137_0 F m = some (plc (pdy s) 0 (s 2).toInt.toNat 0, xr (kpc m n hh) 10 c') ∧ R32 (pdy s) c' ∧ vI (pdy s) ∧ (∀ k, 124 ≤ k → k < 148 → pdy s k = s k) else D137_0 F m = some (-1, m) := by
  unfold pDy D137_0
  by_cases P1 : 0 < (s 0).toInt
  · by_cases P2 : (s 4).toInt < 999
    · rw [decide_eq_true P1, decide_eq_true P2, if_pos (show (true && true) = true from rfl)]
      obtain ⟨c', k1, k2⟩ := a112_9 (m := kpc m n hh) (F := F) hF (k10 R) I P2
      have I' := I_dy I (by omega)
      have k3 := c113_9 (F := F) (m := xr (kpc m n hh) 10 c') (s := pdy s) hF (by rw [xr_s]; exact k2) I'
      rw [pdy_o I (j := 2) (fun i _ => by omega) (by decide)] at k3
      refine ⟨c', ?_, k2, I', fun k l1 l3 => pdy_o I (fun i _ => by omega) (by omega)⟩
      exact ob (c76_9 R) (oF (zeF (decide_eq_true P1)) (ob (c81_9 R) (oT (zcl.trans (decide_eq_true P2)) (ob (c16_9 e1 e2 n20 h20) (ob k1 (ob k3 rfl))))))
    · rw [decide_eq_true P1, decide_eq_false P2, if_neg (by decide)]
      exact ob (c76_9 R) (oF (zeF (decide_eq_true P1)) (ob (c81_9 R) (oF (zcl.trans (decide_eq_false P2)) rfl)))
  · rw [decide_eq_false P1, Bool.false_and, if_neg (by decide)]
    exact ob (c76_9 R) (oT (zeT (decide_eq_false P1)) rfl)
theorem r234 {hh : Nat} (hF : 3000 ≤ F) (hT : xT m) (I9 : vI9 (m.1 80)) (h20 : hh ≤ 20) (e3 : m.1 70 25 = Int32.ofNat hh) : if pDy (m.1 80) = true then xP (D234 F m) (fun v m2 => v = plc (pdy (m.1 80)) 0 (m.1 80 2).toInt.toNat 0 ∧ ∃ m2a, rkp m m2a hh ∧ m2 = xr m2a 80 (pdy (m.1 80))) else D234 F m = some (-1, m) := by
  have I := I9.1
  have dy := I9.2
  unfold pDy D234
  by_cases P1 : 0 < (m.1 80 0).toInt
  · by_cases P2 : (m.1 80 4).toInt < 999
    · rw [decide_eq_true P1, decide_eq_true P2, if_pos (show (true && true) = true from rfl)]
      obtain ⟨⟨u, y⟩, hy, q1, q2⟩ := r220 hF hT e3 h20
      have e := y80 q2.1
      have k := r233 (F := F) (m := y) (by omega) (by rw [e]; exact I)
      rw [e] at k
      refine ⟨(_, _), ob r204 (oF (zeF (decide_eq_true P1)) (oT (zcn.trans ?_) (ob hy (ob k rfl)))), rfl, y, q2, rfl⟩
      show (!(m.1 80 4 == 999)) = true
      have ne : (m.1 80 4 == 999) = false := by
        simp only [beq_eq_false_iff_ne]
        intro z
        rw [z] at P2
        exact absurd P2 (by decide)
      rw [ne]
      rfl
    · rw [decide_eq_true P1, decide_eq_false P2, if_neg (by decide)]
      refine ob r204 (oF (zeF (decide_eq_true P1)) (oF (zcn.trans ?_) rfl))
      show (!(m.1 80 4 == 999)) = false
      have e9 : m.1 80 4 = 999 := Int32.toInt_inj.mp (by show _ = (999 : Int); omega)
      rw [e9]
      rfl
  · rw [decide_eq_false P1, Bool.false_and, if_neg (by decide)]
    exact ob r204 (oT (zeT (decide_eq_false P1)) rfl)
theorem pdy_9 {s : Nat → Int32} (I : vI9 s) (p : pDy s = true) : (pdy s 4).toInt ≤ 999 := by
  unfold pDy at p
  rw [Bool.and_eq_true, decide_eq_true_eq, decide_eq_true_eq] at p
  have b := I_day I.1
  rw [pdy_4, show (s 4 + 1).toInt = (s 4).toInt + 1 from xa1 (by show _ ≤ _ + (1 : Int); omega) (by show _ + (1 : Int) ≤ _; omega)]
  omega
end KACT
end
section
/-! undo, image, back, seed, in pairs. -/
section KSTO
variable {m : xS} {F : Nat} {s : Nat → Int32}
theorem xT_kpc {n h : Nat} (hT : xT m) (n20 : n < 20) (h20 : h ≤ 20) : xT (kpc m n h) := by
  unfold kpc
  refine xT_c (xT_c ?_ (i := 14) (j := 1) (lo := 0) (hi := 19) rfl (by rw [nJ (by omega)]; omega) (by rw [nJ (by omega)]; omega)) (i := 14) (j := 2) (lo := 0) (hi := 20) rfl (by rw [nJ (by omega)]; omega) (by rw [nJ (by omega)]; omega)
  intro i j p hp
  by_cases z : i = 16 + n ∧ j < 114
  · obtain ⟨rfl, hj⟩ := z
    rw [xcp_s hj]
    have key : (List.range 20).all (fun i => (yty (16 + i)).2.2.2.1 == 1) = true := by decide +kernel
    have k1 : (yty (16 + n)).2.2.2.1 = 1 := eq_of_beq (List.all_eq_true.mp key n (List.mem_range.mpr n20))
    have k2 := xtS16_20 (r := 16 + n) ⟨by omega, by omega⟩
    unfold xta at k2
    simp only [Bool.and_eq_true, decide_eq_true_eq, beq_iff_eq] at k2
    obtain ⟨h1, h2, h3, h4, h5⟩ := k2
    unfold xbn at hp
    rw [if_pos h1, h2] at hp
    rw [h3, h4, k1, if_pos ⟨by decide, hj⟩] at hp
    exact hT 10 j p ((xbn_a (k := 0) (n := 114) (ec := 1) (by decide) rfl (by decide) hj).trans hp)
  · have e : (xcp m (16 + n) 10 114).1 i j = m.1 i j := by
      unfold xcp
      exact if_neg z
    rw [e]
    exact hT i j p hp
theorem znz {x : Int32} (h : x = 0) : zcmp .ne x 0 = false := by rw [h]; decide
theorem znn {x : Int32} (h : x ≠ 0) : zcmp .ne x 0 = true := by
  rw [zcn]
  simp [h]
theorem nI0 {h : Nat} (h0 : 0 < h) (l : h < 2000) : Int32.ofNat h ≠ 0 := fun z => by
  have := congrArg Int32.toInt z
  rw [nJ l] at this
  have this : (h : Int) = 0 := this
  omega
theorem kUndo (hF : 3000 ≤ F) (M : rMx m) : xP (D138_0 F m) (fun v1 m1 => ∀ m1', xrw m1 m1' → xT m1' → xP (D221 F m1') (fun v2 m2 => (true = true → v1 = v2) ∧ rMx m2)) := by
  have M0 := M
  obtain ⟨⟨R, I⟩, ⟨n, h, ⟨n20, h20⟩, ⟨e1, e2, e3⟩, H⟩, Mi, Mx⟩ := M0
  unfold D138_0
  by_cases h0 : h = 0
  · subst h0
    refine ⟨(_, _), ob rfl (oF (znz e2) rfl), fun m1' w t1 => ⟨(-1, m1'), ?_, fun _ => rfl, rMx_w w M⟩⟩
    unfold D221
    exact oF (znz ((w.2 70 11 25 (by decide)).trans e3)) rfl
  · have h0 : 0 < h := by omega
    refine ⟨(_, _), ob rfl (oT (znn (by show m.1 14 2 ≠ 0; rw [e2]; exact nI0 h0 (by omega))) (ob (c17_9 e1 e2 n20 h20 h0) (ob rfl rfl))), fun m1' w t1 => ?_⟩
    have k : ∀ a, a ≠ 10 → a ≠ 14 → (xcp (xu (xu m 14 1 (Int32.ofNat ((n + 19) % 20))) 14 2 (Int32.ofNat (h - 1))) 10 (16 + (n + 19) % 20) 114).1 a = m.1 a := fun a z1 z2 => (xcp_o z1).trans (funext fun b => (xu_o (fun z => z2 z.1)).trans (xu_o (fun z => z2 z.1)))
    have k10 : ∀ j, j < 114 → (xcp (xu (xu m 14 1 (Int32.ofNat ((n + 19) % 20))) 14 2 (Int32.ofNat (h - 1))) 10 (16 + (n + 19) % 20) 114).1 10 j = m.1 (16 + (n + 19) % 20) j := fun j hj => (xcp_s hj).trans ((xu_o (by omega)).trans (xu_o (by omega)))
    have k1 : (xcp (xu (xu m 14 1 (Int32.ofNat ((n + 19) % 20))) 14 2 (Int32.ofNat (h - 1))) 10 (16 + (n + 19) % 20) 114).1 14 1 = Int32.ofNat ((n + 19) % 20) := (congrFun (xcp_o (by decide)) 1).trans ((xu_o (by decide)).trans (xu_s _ _ _ _))
    have k2 : (xcp (xu (xu m 14 1 (Int32.ofNat ((n + 19) % 20))) 14 2 (Int32.ofNat (h - 1))) 10 (16 + (n + 19) % 20) 114).1 14 2 = Int32.ofNat (h - 1) := (congrFun (xcp_o (by decide)) 2).trans (xu_s _ _ _ _)
    dsimp only at w ⊢
    generalize xcp (xu (xu m 14 1 (Int32.ofNat ((n + 19) % 20))) 14 2 (Int32.ofNat (h - 1))) 10 (16 + (n + 19) % 20) 114 = m1 at *
    have e25 : m1'.1 70 25 = Int32.ofNat h := (w.2 70 11 25 (by decide)).trans ((congrFun (k 70 (by decide) (by decide)) 25).trans e3)
    obtain ⟨y, hy, q1, q2, q3, q4⟩ := r221 (F := F) (m := m1') (by omega) e25 h20 h0
    have o : ∀ a, a ≠ 80 → a ≠ 70 → y.2.1 a = m1'.1 a := fun a z1 z2 => (q2 a z1).trans (funext fun b => xu_o (fun z => z2 z.1))
    have e80 : m1'.1 80 = m.1 80 := (w.1 80 0 148 (by decide)).trans (k 80 (by decide) (by decide))
    have e81 : m1'.1 81 = m.1 81 := (w.1 81 0 2480 (by decide)).trans (k 81 (by decide) (by decide))
    have hr : ∀ k, k < 148 → y.2.1 80 k = hrow (m.1 80) (m.1 81) (h - 1) k := fun k hk => by
      unfold hrow
      split
      · next l => rw [q3 k l, e81]
      · rw [q4 k (by omega), e80]
    obtain ⟨R1, I1⟩ := H (h - 1) (by omega)
    rw [show 16 + (n + 20 - h + (h - 1)) % 20 = 16 + (n + 19) % 20 by omega] at R1
    refine ⟨y, hy, fun _ => by rw [q1, k2], ⟨?_, I9_c I1 hr⟩, ⟨(n + 19) % 20, h - 1, by omega, ⟨?_, ?_, ?_⟩, ?_⟩, fun a ha => ?_, ?_⟩
    · rw [o 10 (by decide) (by decide), w.1 10 0 114 (by decide)]
      exact R_c R1 hr k10
    · rw [o 14 (by decide) (by decide), w.2 14 2 1 (by decide), k1]
    · rw [o 14 (by decide) (by decide), w.2 14 2 2 (by decide), k2]
    · rw [q2 70 (by decide)]
      exact xu_s _ _ _ _
    · rw [o 81 (by decide) (by decide), e81]
      refine rHx_c (rH_u (s' := y.2.1 80) H n20 h20 h0 (fun k l1 l2 => by rw [q4 k l1, e80])) (fun a a1 a2 => ?_)
      rw [o a (by omega) (by omega), xrw_16 w ⟨a1, a2⟩, k a (by omega) (by omega)]
    · rw [o 87 (by decide) (by decide), o 42 (by decide) (by decide), o 85 (by decide) (by decide), o 86 (by decide) (by decide), o 41 (by decide) (by decide), o (37 + a) (by omega) (by omega), w.1 87 2 4 (by decide), w.1 42 2 4 (by decide), w.1 85 0 592 (by decide), w.1 86 0 4 (by decide), w.1 41 0 4 (by decide), xrw_37 w ⟨by omega, by omega⟩, k 87 (by decide) (by decide), k 42 (by decide) (by decide), k 85 (by decide) (by decide), k 86 (by decide) (by decide), k 41 (by decide) (by decide), k (37 + a) (by omega) (by omega)]
      exact Mi a ha
    · rw [q2 70 (by decide), xu_o (by decide), o 43 (by decide) (by decide), w.2 70 11 23 (by decide), w.2 43 1 0 (by decide), k 70 (by decide) (by decide), k 43 (by decide) (by decide)]
      exact Mx
-- image
theorem i148 {v1 : Int32} {k j : Nat} {w : Int32} (h1 : v1.toInt = (k : Int)) (h2 : w.toInt = (j : Int)) (hk : k < 4) (hj : j ≤ 148) : (148 * v1 + w).toInt = ((148 * k + j : Nat) : Int) := by
  have a1 : ((148 : Int32) * v1).toInt = 148 * v1.toInt := xm1 (by show _ ≤ (148 : Int) * _; omega) (by show (148 : Int) * _ ≤ _; omega)
  rw [xa1 (by omega) (by omega), a1]
  omega
theorem r278_33 {k : Nat} (hk : k < 4) {v1 : Int32} (h1 : v1.toInt = (k : Int)) : ∀ (f : Nat) {v2 : Int32} {m : xS} {i : Nat}, v2.toInt = (i : Int) → i ≤ 148 → 148 < f + i → xP (D278_33 F f v1 v2 m) (fun v m' => v = m.1 80 4 ∧ (∀ a, a ≠ 85 → m'.1 a = m.1 a) ∧ (∀ j, i ≤ j → j < 148 → m'.1 85 (148 * k + j) = m.1 80 j) ∧ ∀ j, (j < 148 * k + i ∨ 148 * k + 148 ≤ j) → m'.1 85 j = m.1 85 j)
  | 0, v2, m, i, hi, l1, l2 => by omega
  | f + 1, v2, m, i, hi, l1, l2 => by
    unfold D278_33
    refine xP_i (fun c => ?_) (fun c => ?_)
    · have c : (148 : Int) ≤ v2.toInt := zt c
      exact xP_r ⟨rfl, fun a _ => rfl, fun j hj hj2 => by omega, fun j _ => rfl⟩
    · have c : ¬ (148 : Int) ≤ v2.toInt := zf c
      have e := i148 h1 hi hk l1
      have a4 : v2.toNatClampNeg = i := by
        show Int.toNat _ = _
        rw [hi]
        omega
      refine xP_g (xib_t (by omega) (by omega)) (xP_g (gxb e (by omega)) ?_)
      rw [gxn e, a4]
      have e1 : (v2 + Int32.ofInt 1).toInt = v2.toInt + 1 := xa1 (by show _ ≤ _ + (1 : Int); omega) (by show _ + (1 : Int) ≤ _; omega)
      refine xP_m (r278_33 hk h1 f (i := i + 1) (by omega) (by omega) (by omega)) (fun v m' q => ?_)
      obtain ⟨q1, q2, q3, q4⟩ := q
      refine ⟨q1.trans (xu_o (by omega)), fun a ha => (q2 a ha).trans (funext fun b => xu_o (fun z => ha z.1)), fun j hj hj2 => ?_, fun j hj => (q4 j (by omega)).trans (xu_o (by omega))⟩
      by_cases z : j = i
      · subst z
        rw [q4 _ (by omega), xu_s]
      · rw [q3 j (by omega) hj2, xu_o (by omega)]
theorem pin4 {a1 : Int32} (h0 : ¬ a1.toInt < 0) (h4 : a1.toInt < 4) : ∃ k : Nat, k < 4 ∧ a1.toInt = (k : Int) := ⟨a1.toInt.toNat, by omega, by omega⟩
theorem kImage (hF : 3000 ≤ F) {a1 : Int32} (M : rMx m) : xP (D155_0 F a1 m) (fun v1 m1 => ∀ m1', xrw m1 m1' → xT m1' → xP (D278 F a1 m1') (fun v2 m2 => (true = true → v1 = v2) ∧ rMx m2)) := by
  have M0 := M
  obtain ⟨⟨R, I⟩, ⟨n, h, ⟨n20, h20⟩, ⟨e1, e2, e3⟩, H⟩, Mi, Mx⟩ := M0
  have rin : ∀ m1 : xS, D158 F a1.toInt64 0 3 m1 = some (pB (decide (0 ≤ a1.toInt) && decide (a1.toInt ≤ 3)), m1) := fun m1 => r158 rfl rfl
  unfold D155_0
  by_cases l0 : a1.toInt < 0
  · refine ⟨(_, _), oT (zcl.trans (decide_eq_true l0)) rfl, fun m1' w t1 => ⟨(-1, m1'), ?_, fun _ => rfl, rMx_w w M⟩⟩
    unfold D278
    exact ob (rin m1') (oF (znF (by rw [decide_eq_false (by omega), Bool.false_and])) rfl)
  by_cases l4 : a1.toInt < 4
  · obtain ⟨k, hk, ek⟩ := pin4 l0 l4
    have ik : xib a1 4 = true := gxb ek hk
    have K10 : (xu (xu (xcp m (37 + k) 10 114) 41 k (m.1 43 0)) 42 k 1).1 10 = m.1 10 := funext fun b => (xu_o (by omega)).trans ((xu_o (by omega)).trans (congrFun (xcp_o (by omega)) b))
    have v43 : (xcp m (37 + k) 10 114).1 43 0 = m.1 43 0 := congrFun (xcp_o (by omega)) 0
    refine ⟨(m.1 80 4, xu (xu (xcp m (37 + k) 10 114) 41 k (m.1 43 0)) 42 k 1), ?_, fun m1' w t1 => ?_⟩
    · refine oF (zcl.trans (decide_eq_false l0)) (oT (zcl.trans (decide_eq_true l4)) ?_)
      rw [if_pos ik, gxn ek]
      refine ob rfl ?_
      dsimp only
      rw [if_pos ik, if_pos ik, v43]
      exact ob (c81_9 (s := m.1 80) (by show R32 _ ((xu (xu (xcp m (37 + k) 10 114) 41 k (m.1 43 0)) 42 k 1).1 10); rw [K10]; exact R)) rfl
    · dsimp only at w ⊢
      have ko : ∀ a, a ≠ 37 + k → a ≠ 41 → a ≠ 42 → (xu (xu (xcp m (37 + k) 10 114) 41 k (m.1 43 0)) 42 k 1).1 a = m.1 a := fun a z1 z2 z3 => funext fun b => (xu_o (fun z => z3 z.1)).trans ((xu_o (fun z => z2 z.1)).trans (congrFun (xcp_o z1) b))
      have kr : ∀ j, j < 114 → (xu (xu (xcp m (37 + k) 10 114) 41 k (m.1 43 0)) 42 k 1).1 (37 + k) j = m.1 10 j := fun j hj => (xu_o (by omega)).trans ((xu_o (by omega)).trans (xcp_s hj))
      have k41 : ∀ j, (xu (xu (xcp m (37 + k) 10 114) 41 k (m.1 43 0)) 42 k 1).1 41 j = if j = k then m.1 43 0 else m.1 41 j := fun j => by
        rw [xu_o (by omega)]
        split
        · next z => rw [z, xu_s]
        · next z => exact (xu_o (fun y => z y.2)).trans (congrFun (xcp_o (by omega)) j)
      have k42 : ∀ j, (xu (xu (xcp m (37 + k) 10 114) 41 k (m.1 43 0)) 42 k 1).1 42 j = if j = k then 1 else m.1 42 j := fun j => by
        split
        · next z => rw [z, xu_s]
        · next z => exact (xu_o (fun y => z y.2)).trans ((xu_o (by omega)).trans (congrFun (xcp_o (by omega)) j))
      generalize xu (xu (xcp m (37 + k) 10 114) 41 k (m.1 43 0)) 42 k 1 = m1 at *
      have e80 : m1'.1 80 = m.1 80 := (w.1 80 0 148 (by decide)).trans (ko 80 (by omega) (by decide) (by decide))
      have e23 : m1'.1 70 23 = m.1 70 23 := (w.2 70 11 23 (by decide)).trans (congrFun (ko 70 (by omega) (by decide) (by decide)) 23)
      unfold D278
      obtain ⟨y, hy, q1, q2, q3, q4⟩ := r278_33 (F := F) hk ek F (v2 := 0) (m := xu (xu m1' 87 k 1) 86 k (m1'.1 70 23)) (i := 0) rfl (by omega) (by omega)
      refine ⟨y, ob (rin m1') (oT (znT (by rw [decide_eq_true (by omega), decide_eq_true (by omega)]; rfl)) ?_), fun _ => ?_, ?_⟩
      · dsimp only
        rw [if_pos ik, if_pos ik, gxn ek]
        exact hy
      · rw [q1, xu_o (by omega), xu_o (by omega), e80]
      · have u80 : (xu (xu m1' 87 k 1) 86 k (m1'.1 70 23)).1 80 = m.1 80 := (funext fun b => (xu_o (by omega)).trans (xu_o (by omega))).trans e80
        have o : ∀ a, a ≠ 85 → a ≠ 86 → a ≠ 87 → y.2.1 a = m1'.1 a := fun a z1 z2 z3 => (q2 a z1).trans (funext fun b => (xu_o (fun z => z2 z.1)).trans (xu_o (fun z => z3 z.1)))
        have y80 : y.2.1 80 = m.1 80 := (o 80 (by decide) (by decide) (by decide)).trans e80
        have y86 : ∀ j, y.2.1 86 j = if j = k then m.1 43 0 else m.1 86 j := fun j => by
          rw [q2 86 (by decide)]
          split
          · next z => rw [z, xu_s, e23, Mx]
          · next z => rw [xu_o (fun y => z y.2), xu_o (by omega), w.1 86 0 4 (by decide), ko 86 (by omega) (by decide) (by decide)]
        have y87 : ∀ j, y.2.1 87 j = if j = k then 1 else m.1 87 j := fun j => by
          rw [q2 87 (by decide), xu_o (by omega)]
          split
          · next z => rw [z, xu_s]
          · next z => rw [xu_o (fun y => z y.2), w.1 87 2 4 (by decide), ko 87 (by omega) (by decide) (by decide)]
        have y41 : ∀ j, y.2.1 41 j = if j = k then m.1 43 0 else m.1 41 j := fun j => by rw [o 41 (by decide) (by decide) (by decide), w.1 41 0 4 (by decide), k41]
        have y42 : ∀ j, y.2.1 42 j = if j = k then 1 else m.1 42 j := fun j => by rw [o 42 (by decide) (by decide) (by decide), w.1 42 2 4 (by decide), k42]
        refine ⟨⟨?_, by rw [y80]; exact I⟩, ⟨n, h, ⟨n20, h20⟩, ⟨?_, ?_, ?_⟩, ?_⟩, fun a ha => ?_, ?_⟩
        · rw [y80, o 10 (by decide) (by decide) (by decide), w.1 10 0 114 (by decide), ko 10 (by omega) (by decide) (by decide)]
          exact R
        · rw [o 14 (by decide) (by decide) (by decide), w.2 14 2 1 (by decide), ko 14 (by omega) (by decide) (by decide)]
          exact e1
        · rw [o 14 (by decide) (by decide) (by decide), w.2 14 2 2 (by decide), ko 14 (by omega) (by decide) (by decide)]
          exact e2
        · rw [o 70 (by decide) (by decide) (by decide), w.2 70 11 25 (by decide), ko 70 (by omega) (by decide) (by decide)]
          exact e3
        · rw [y80, o 81 (by decide) (by decide) (by decide), w.1 81 0 2480 (by decide), ko 81 (by omega) (by decide) (by decide)]
          exact rHx_c H (fun a a1 a2 => by rw [o a (by omega) (by omega) (by omega), xrw_16 w ⟨a1, a2⟩, ko a (by omega) (by omega) (by omega)])
        · rw [y87, y42, y86, y41]
          have o37 : y.2.1 (37 + a) = m1.1 (37 + a) := (o (37 + a) (by omega) (by omega) (by omega)).trans (xrw_37 w ⟨by omega, by omega⟩)
          by_cases z : a = k
          · subst z
            rw [if_pos rfl, if_pos rfl, if_pos rfl, if_pos rfl]
            have q : ∀ j, j < 148 → irow (y.2.1 85) a j = m.1 80 j := fun j hj => by
              show y.2.1 85 (148 * a + j) = _
              rw [q3 j (by omega) hj, u80]
            refine ⟨rfl, fun _ => ⟨R_c R q (fun j hj => by rw [o37]; exact kr j hj), I9_c I q, rfl⟩⟩
          · rw [if_neg z, if_neg z, if_neg z, if_neg z, o37, ko (37 + a) (by omega) (by omega) (by omega)]
            have q : ∀ j, j < 148 → irow (y.2.1 85) a j = irow (m.1 85) a j := fun j hj => by
              show y.2.1 85 (148 * a + j) = m.1 85 (148 * a + j)
              rw [q4 _ (by omega), xu_o (by omega), xu_o (by omega), w.1 85 0 592 (by decide), ko 85 (by omega) (by decide) (by decide)]
            refine ⟨(Mi a ha).1, fun nz => ?_⟩
            obtain ⟨b1, b2, b3⟩ := (Mi a ha).2 nz
            exact ⟨R_c b1 q (fun _ _ => rfl), I9_c b2 q, b3⟩
        · rw [o 70 (by decide) (by decide) (by decide), e23, o 43 (by decide) (by decide) (by decide), w.2 43 1 0 (by decide), ko 43 (by omega) (by decide) (by decide)]
          exact Mx
  · refine ⟨(_, _), oF (zcl.trans (decide_eq_false l0)) (oF (zcl.trans (decide_eq_false l4)) rfl), fun m1' w t1 => ⟨(-1, m1'), ?_, fun _ => rfl, rMx_w w M⟩⟩
    unfold D278
    exact ob (rin m1') (oF (znF (by rw [decide_eq_false (p := a1.toInt ≤ 3) (by omega), Bool.and_false])) rfl)
-- back
theorem r279_40 {k : Nat} (hk : k < 4) {v1 : Int32} (h1 : v1.toInt = (k : Int)) : ∀ (f : Nat) {v2 : Int32} {m : xS} {i : Nat}, v2.toInt = (i : Int) → i ≤ 148 → 148 < f + i → xP (D279_40 F f v1 v2 m) (fun v m' => v = m'.1 80 4 ∧ (∀ a, a ≠ 80 → m'.1 a = m.1 a) ∧ (∀ j, i ≤ j → j < 148 → m'.1 80 j = m.1 85 (148 * k + j)) ∧ ∀ j, (j < i ∨ 148 ≤ j) → m'.1 80 j = m.1 80 j)
  | 0, v2, m, i, hi, l1, l2 => by omega
  | f + 1, v2, m, i, hi, l1, l2 => by
    unfold D279_40
    refine xP_i (fun c => ?_) (fun c => ?_)
    · have c : (148 : Int) ≤ v2.toInt := zt c
      exact xP_r ⟨rfl, fun a _ => rfl, fun j hj hj2 => by omega, fun j _ => rfl⟩
    · have c : ¬ (148 : Int) ≤ v2.toInt := zf c
      have e := i148 h1 hi hk l1
      have a4 : v2.toNatClampNeg = i := by
        show Int.toNat _ = _
        rw [hi]
        omega
      refine xP_g (gxb e (by omega)) (xP_g (xib_t (by omega) (by omega)) ?_)
      rw [gxn e, a4]
      have e1 : (v2 + Int32.ofInt 1).toInt = v2.toInt + 1 := xa1 (by show _ ≤ _ + (1 : Int); omega) (by show _ + (1 : Int) ≤ _; omega)
      refine xP_m (r279_40 hk h1 f (i := i + 1) (by omega) (by omega) (by omega)) (fun v m' q => ?_)
      obtain ⟨q1, q2, q3, q4⟩ := q
      refine ⟨q1, fun a ha => (q2 a ha).trans (funext fun b => xu_o (fun z => ha z.1)), fun j hj hj2 => ?_, fun j hj => (q4 j (by omega)).trans (xu_o (by omega))⟩
      by_cases z : j = i
      · subst z
        rw [q4 _ (by omega), xu_s]
      · rw [q3 j (by omega) hj2, xu_o (by omega)]
theorem kBack (hF : 3000 ≤ F) {a1 : Int32} (M : rMx m) : xP (D156_0 F a1 m) (fun v1 m1 => ∀ m1', xrw m1 m1' → xT m1' → xP (D279 F a1 m1') (fun v2 m2 => (true = true → v1 = v2) ∧ rMx m2)) := by
  have M0 := M
  obtain ⟨⟨R, I⟩, ⟨n, h, ⟨n20, h20⟩, ⟨e1, e2, e3⟩, H⟩, Mi, Mx⟩ := M0
  have rin : ∀ m1 : xS, D158 F a1.toInt64 0 3 m1 = some (pB (decide (0 ≤ a1.toInt) && decide (a1.toInt ≤ 3)), m1) := fun m1 => r158 rfl rfl
  unfold D156_0
  by_cases l0 : a1.toInt < 0
  · refine ⟨(_, _), oT (zcl.trans (decide_eq_true l0)) rfl, fun m1' w t1 => ⟨(-1, m1'), ?_, fun _ => rfl, rMx_w w M⟩⟩
    unfold D279
    exact ob (rin m1') (oT (zeT (by rw [decide_eq_false (by omega), Bool.false_and])) rfl)
  by_cases l4 : a1.toInt < 4
  · obtain ⟨k, hk, ek⟩ := pin4 l0 l4
    have ik : xib a1 4 = true := gxb ek hk
    have mk := Mi k hk
    have b03 : (decide (0 ≤ a1.toInt) && decide (a1.toInt ≤ 3)) = true := by rw [decide_eq_true (by omega), decide_eq_true (by omega)]; rfl
    by_cases nz : m.1 42 k = 0
    · refine ⟨(_, _), oF (zcl.trans (decide_eq_false l0)) (oF (zc.trans (decide_eq_false (by show ¬ (4 : Int) ≤ _; omega))) ?_), fun m1' w t1 => ⟨(-1, m1'), ?_, fun _ => rfl, rMx_w w M⟩⟩
      · rw [if_pos ik, gxn ek]
        exact oF (znz nz) rfl
      · unfold D279
        refine ob (rin m1') (oF (zeF b03) ?_)
        dsimp only
        rw [if_pos ik, gxn ek]
        exact oF (znz (by rw [w.1 87 2 4 (by decide), mk.1]; exact nz)) rfl
    · obtain ⟨b1, b2, b3⟩ := mk.2 nz
      have ko : ∀ a, a ≠ 10 → a ≠ 14 → a ≠ 43 → (xu (xu (xcp m 10 (37 + k) 114) 43 0 (m.1 41 k)) 14 2 0).1 a = m.1 a := fun a z1 z2 z3 => funext fun b => (xu_o (fun z => z2 z.1)).trans ((xu_o (fun z => z3 z.1)).trans (congrFun (xcp_o z1) b))
      have kr : ∀ j, j < 114 → (xu (xu (xcp m 10 (37 + k) 114) 43 0 (m.1 41 k)) 14 2 0).1 10 j = m.1 (37 + k) j := fun j hj => (xu_o (by omega)).trans ((xu_o (by omega)).trans (xcp_s hj))
      have k1 : (xu (xu (xcp m 10 (37 + k) 114) 43 0 (m.1 41 k)) 14 2 0).1 14 1 = m.1 14 1 := (xu_o (by decide)).trans ((xu_o (by decide)).trans (congrFun (xcp_o (by decide)) 1))
      have k2 : (xu (xu (xcp m 10 (37 + k) 114) 43 0 (m.1 41 k)) 14 2 0).1 14 2 = 0 := xu_s _ _ _ _
      have k43 : (xu (xu (xcp m 10 (37 + k) 114) 43 0 (m.1 41 k)) 14 2 0).1 43 0 = m.1 41 k := (xu_o (by decide)).trans (xu_s _ _ _ _)
      have v41 : (xcp m 10 (37 + k) 114).1 41 k = m.1 41 k := congrFun (xcp_o (by decide)) k
      have R1 : R32 (irow (m.1 85) k) ((xu (xu (xcp m 10 (37 + k) 114) 43 0 (m.1 41 k)) 14 2 0).1 10) := R_c b1 (fun _ _ => rfl) kr
      refine ⟨(irow (m.1 85) k 4, xu (xu (xcp m 10 (37 + k) 114) 43 0 (m.1 41 k)) 14 2 0), ?_, fun m1' w t1 => ?_⟩
      · refine oF (zcl.trans (decide_eq_false l0)) (oF (zc.trans (decide_eq_false (by show ¬ (4 : Int) ≤ _; omega))) ?_)
        rw [if_pos ik, gxn ek]
        refine oT (znn nz) ?_
        rw [if_pos ik]
        refine ob rfl ?_
        dsimp only
        rw [if_pos ik, v41]
        exact ob rfl (ob (c81_9 R1) rfl)
      · dsimp only at w ⊢
        generalize xu (xu (xcp m 10 (37 + k) 114) 43 0 (m.1 41 k)) 14 2 0 = m1 at *
        unfold D279
        obtain ⟨y, hy, q1, q2, q3, q4⟩ := r279_40 (F := F) hk ek F (v2 := 0) (m := xu (xu m1' 70 23 (m1'.1 86 k)) 70 25 0) (i := 0) rfl (by omega) (by omega)
        have u85 : (xu (xu m1' 70 23 (m1'.1 86 k)) 70 25 0).1 85 = m.1 85 := (funext fun b => (xu_o (by omega)).trans (xu_o (by omega))).trans ((w.1 85 0 592 (by decide)).trans (ko 85 (by decide) (by decide) (by decide)))
        have o : ∀ a, a ≠ 80 → a ≠ 70 → y.2.1 a = m1'.1 a := fun a z1 z2 => (q2 a z1).trans (funext fun b => (xu_o (fun z => z2 z.1)).trans (xu_o (fun z => z2 z.1)))
        have hr : ∀ j, j < 148 → y.2.1 80 j = irow (m.1 85) k j := fun j hj => by
          rw [q3 j (by omega) hj, u85]
          rfl
        refine ⟨y, ob (rin m1') (oF (zeF b03) ?_), fun _ => ?_, ⟨?_, I9_c b2 hr⟩, ⟨n, 0, ⟨n20, by omega⟩, ⟨?_, ?_, ?_⟩, fun j hj => absurd hj (Nat.not_lt_zero j)⟩, fun a ha => ?_, ?_⟩
        · dsimp only
          rw [if_pos ik, gxn ek]
          refine oT (znn (by rw [w.1 87 2 4 (by decide), ko 87 (by decide) (by decide) (by decide), mk.1]; exact nz)) ?_
          rw [if_pos ik]
          exact hy
        · rw [q1, hr 4 (by omega)]
        · rw [o 10 (by decide) (by decide), w.1 10 0 114 (by decide)]
          exact R_c R1 hr (fun _ _ => rfl)
        · rw [o 14 (by decide) (by decide), w.2 14 2 1 (by decide), k1]
          exact e1
        · rw [o 14 (by decide) (by decide), w.2 14 2 2 (by decide), k2]
          rfl
        · rw [q2 70 (by decide), xu_s]
          rfl
        · rw [o 87 (by decide) (by decide), o 42 (by decide) (by decide), o 85 (by decide) (by decide), o 86 (by decide) (by decide), o 41 (by decide) (by decide), o (37 + a) (by omega) (by omega), w.1 87 2 4 (by decide), w.1 42 2 4 (by decide), w.1 85 0 592 (by decide), w.1 86 0 4 (by decide), w.1 41 0 4 (by decide), xrw_37 w ⟨by omega, by omega⟩, ko 87 (by decide) (by decide) (by decide), ko 42 (by decide) (by decide) (by decide), ko 85 (by decide) (by decide) (by decide), ko 86 (by decide) (by decide) (by decide), ko 41 (by decide) (by decide) (by decide), ko (37 + a) (by omega) (by omega) (by omega)]
          exact Mi a ha
        · rw [q2 70 (by decide), xu_o (by decide), xu_s, o 43 (by decide) (by decide), w.1 86 0 4 (by decide), ko 86 (by decide) (by decide) (by decide), w.2 43 1 0 (by decide), k43, b3]
  · refine ⟨(_, _), oF (zcl.trans (decide_eq_false l0)) (oT (zc.trans (decide_eq_true (by show (4 : Int) ≤ _; omega))) rfl), fun m1' w t1 => ⟨(-1, m1'), ?_, fun _ => rfl, rMx_w w M⟩⟩
    unfold D279
    exact ob (rin m1') (oT (zeT (by rw [decide_eq_false (p := a1.toInt ≤ 3) (by omega), Bool.and_false])) rfl)
-- seed
theorem kSeed {a1 : Int32} (M : rMx m) : xP (D152_0 F a1 m) (fun v1 m1 => ∀ m1', xrw m1 m1' → xT m1' → xP (D273 F a1 m1') (fun v2 m2 => (true = true → v1 = v2) ∧ rMx m2)) := by
  unfold D152_0 D273
  by_cases l0 : 0 ≤ a1.toInt
  · refine ⟨(_, _), oT (zc.trans (decide_eq_true l0)) rfl, fun m1' w t1 => ⟨(_, _), oT (zc.trans (decide_eq_true l0)) rfl, fun _ => ?_, ?_⟩⟩
    · show m.1 43 0 = m1'.1 70 23
      rw [w.2 70 11 23 (by decide)]
      exact M.2.2.2.symm
    · have M2 : rMx (xu (xu m 43 0 a1) 70 23 a1) := by
        have k : ∀ a, a ≠ 43 → a ≠ 70 → (xu (xu m 43 0 a1) 70 23 a1).1 a = m.1 a := fun a z1 z2 => funext fun b => (xu_o (fun z => z2 z.1)).trans (xu_o (fun z => z1 z.1))
        obtain ⟨⟨R, I⟩, ⟨n, h, ⟨n20, h20⟩, ⟨e1, e2, e3⟩, H⟩, Mi, Mx⟩ := M
        refine ⟨by rw [k 80 (by decide) (by decide), k 10 (by decide) (by decide)]; exact ⟨R, I⟩, ⟨n, h, ⟨n20, h20⟩, ⟨?_, ?_, ?_⟩, ?_⟩, fun a ha => ?_, ?_⟩
        · rw [k 14 (by decide) (by decide)]
          exact e1
        · rw [k 14 (by decide) (by decide)]
          exact e2
        · rw [xu_o (by decide), xu_o (by decide)]
          exact e3
        · rw [k 80 (by decide) (by decide), k 81 (by decide) (by decide)]
          exact rHx_c H (fun a a1 a2 => k a (by omega) (by omega))
        · rw [k 87 (by decide) (by decide), k 42 (by decide) (by decide), k 85 (by decide) (by decide), k 86 (by decide) (by decide), k 41 (by decide) (by decide), k (37 + a) (by omega) (by omega)]
          exact Mi a ha
        · rw [xu_s, xu_o (by decide), xu_s]
      have w2 : xrw (xu (xu m 43 0 a1) 70 23 a1) (xu m1' 70 23 a1) := by
        refine ⟨fun i k n ht => ?_, fun i a b ht => ?_⟩
        · by_cases z : i = 70
          · subst z
            exact absurd ht (by unfold xta; simp [show (yty 70).1 = 0 from rfl])
          · funext j
            rw [xu_o (fun y => z y.1), xu_o (fun y => z y.1), w.1 i k n ht]
        · by_cases z : i = 70 ∧ b = 23
          · obtain ⟨rfl, rfl⟩ := z
            rw [xu_s, xu_s]
          · rw [xu_o z, xu_o z]
            exact w.2 i a b ht
      exact rMx_w w2 M2
  · exact ⟨(_, _), oF (zc.trans (decide_eq_false l0)) rfl, fun m1' w t1 => ⟨(-1, m1'), oF (zc.trans (decide_eq_false l0)) rfl, fun _ => rfl, rMx_w w M⟩⟩
end KSTO
end
section
/-! tool, work, house, debt, in pairs. -/
section KQRY
variable {m : xS} {F : Nat} {s : Nat → Int32}
theorem kQ {Dc Dr : xS → Option (Int32 × xS)} {val : (Nat → Int32) → Int32} (C : ∀ m : xS, xT m → R32 (m.1 80) (m.1 10) → vI (m.1 80) → Dc m = some (val (m.1 80), m)) (Rf : ∀ m : xS, vI (m.1 80) → Dr m = some (val (m.1 80), m)) (m : xS) (hT : xT m) (M : rMx m) : xP (Dc m) (fun v1 m1 => ∀ m1', xrw m1 m1' → xT m1' → xP (Dr m1') (fun v2 m2 => (true = true → v1 = v2) ∧ rMx m2)) := by
  refine ⟨_, C m hT M.1.1 M.1.2.1, fun m1' w t1 => ⟨(val (m1'.1 80), m1'), Rf m1' ?_, fun _ => ?_, rMx_w w M⟩⟩
  · rw [w.1 80 0 148 (by decide)]
    exact M.1.2.1
  · show val (m.1 80) = val (m1'.1 80)
    rw [w.1 80 0 148 (by decide)]
def pTl (s : Nat → Int32) (a1 a2 : Int32) : Int32 := if pin s 2 a1 = true then (if 0 ≤ a2.toInt ∧ a2.toInt ≤ 7 then (if a2.toInt < 6 then s (10 + 6 * a1.toInt.toNat + a2.toInt.toNat) else if a2 = 6 then psh s a1.toInt.toNat 0 else prs s a1.toInt.toNat) else -1) else -1
theorem c128 {a1 a2 : Int32} (R : R32 s (m.1 10)) (I : vI s) : D128_0 F a1 a2 m = some (pTl s a1 a2, m) := by
  have nt := I_nt I
  unfold D128_0 pTl
  refine ob (c83_9 R) ?_
  by_cases P1 : pin s 2 a1 = true
  · obtain ⟨t, ht, t2⟩ := pin_n P1
    rw [if_pos P1, tnI ht (by omega)]
    refine oF (zeF P1) ?_
    by_cases l0 : a2.toInt < 0
    · rw [if_neg (show ¬ (0 ≤ a2.toInt ∧ a2.toInt ≤ 7) by omega)]
      exact oT (zcl.trans (decide_eq_true l0)) rfl
    refine oF (zcl.trans (decide_eq_false l0)) ?_
    by_cases l7 : a2.toInt ≤ 7
    · rw [if_pos (show 0 ≤ a2.toInt ∧ a2.toInt ≤ 7 by omega)]
      refine oT (zcle.trans (decide_eq_true l7)) ?_
      by_cases l6 : a2 = 6
      · subst l6
        rw [if_neg (show ¬ (6 : Int32).toInt < 6 by decide), if_pos (show (6 : Int32) = 6 from rfl)]
        exact oF (by decide) (ob (c99_9 R I ht t2) rfl)
      · refine oT (by rw [zcn]; simp [l6]) ?_
        have n6 : a2.toInt ≠ 6 := fun z => l6 (Int32.toInt_inj.mp z)
        by_cases l8 : a2 = 7
        · subst l8
          rw [if_neg (show ¬ (7 : Int32).toInt < 6 by decide), if_neg (show ¬ (7 : Int32) = 6 by decide)]
          exact oF (by decide) (ob (c98_9 R I ht t2) rfl)
        · have n7 : a2.toInt ≠ 7 := fun z => l8 (Int32.toInt_inj.mp z)
          rw [if_pos (show a2.toInt < 6 by omega)]
          exact oT (by rw [zcn]; simp [l8]) (ob (c87_9 R ht (w := a2.toInt.toNat) (i32n (by omega)) (by omega) (by omega)) rfl)
    · rw [if_neg (show ¬ (0 ≤ a2.toInt ∧ a2.toInt ≤ 7) by omega)]
      exact oF (zcle.trans (decide_eq_false l7)) rfl
  · rw [if_neg P1]
    exact oT (zeT (bF P1)) rfl
theorem r217 {a1 a2 : Int32} (I : vI (m.1 80)) : D217 F a1 a2 m = some (pTl (m.1 80) a1 a2, m) := by
  have nt := I_nt I
  unfold D217 pTl
  refine ob r206 ?_
  by_cases P1 : pin (m.1 80) 2 a1 = true
  · obtain ⟨t, ht, t2⟩ := pin_n P1
    rw [if_pos P1, tnI ht (by omega)]
    refine oF (zeF P1) (ob (r158 (x := 0) (y := 7) rfl rfl) ?_)
    by_cases l07 : 0 ≤ a2.toInt ∧ a2.toInt ≤ 7
    · rw [if_pos l07]
      refine oT (znT (by rw [decide_eq_true l07.1, decide_eq_true l07.2]; rfl)) ?_
      by_cases l6 : a2.toInt < 6
      · rw [if_pos l6]
        exact oF (zc.trans (decide_eq_false (by show ¬ (6 : Int) ≤ _; omega))) (ob (r208 ht (w := a2.toInt.toNat) (i32n (by omega)) (by omega) (by omega)) rfl)
      · rw [if_neg l6]
        refine oT (zc.trans (decide_eq_true (by show (6 : Int) ≤ _; omega))) ?_
        by_cases e6 : a2 = 6
        · rw [if_pos e6]
          exact oF (by rw [zcn, e6]; rfl) (ob (r214 ht (by omega)) rfl)
        · rw [if_neg e6]
          exact oT (by rw [zcn]; simp [e6]) (ob (r213 ht (by omega)) rfl)
    · rw [if_neg l07]
      refine oF (znF ?_) rfl
      rw [Bool.and_eq_false_iff, decide_eq_false_iff_not, decide_eq_false_iff_not]
      omega
  · rw [if_neg P1]
    exact oT (zeT (bF P1)) rfl
theorem kq_4 {y1 y2 : Int32} (hT : xT m) (M : rMx m) : xP (D128_0 3000 y1 y2 m) (fun v1 m1 => ∀ m1', xrw m1 m1' → xT m1' → xP (D217 3000 y1 y2 m1') (fun v2 m2 => (true = true → v1 = v2) ∧ rMx m2)) := kQ (val := fun s => pTl s y1 y2) (fun m _ R I => c128 R I) (fun m I => r217 I) m hT M
def pWl (s : Nat → Int32) (a1 a2 : Int32) : Int32 := if pin s 3 a1 = true then (if 0 ≤ a2.toInt ∧ a2.toInt ≤ 5 then (if a2.toInt < 4 then s (124 + 4 * a1.toInt.toNat + a2.toInt.toNat) else if a2 = 4 then s (118 + a1.toInt.toNat) else pB (pcd s a1.toInt.toNat)) else -2) else -2
theorem c129 {a1 a2 : Int32} (hF : 500 ≤ F) (R : R32 s (m.1 10)) (I : vI s) : D129_0 F a1 a2 m = some (pWl s a1 a2, m) := by
  have nw := I_nw I
  unfold D129_0 pWl
  refine ob (c84_9 R) ?_
  by_cases P1 : pin s 3 a1 = true
  · obtain ⟨t, ht, t2⟩ := pin_n P1
    rw [if_pos P1, tnI ht (by omega)]
    refine oF (zeF P1) ?_
    by_cases l0 : a2.toInt < 0
    · rw [if_neg (show ¬ (0 ≤ a2.toInt ∧ a2.toInt ≤ 5) by omega)]
      exact oT (zcl.trans (decide_eq_true l0)) rfl
    refine oF (zcl.trans (decide_eq_false l0)) ?_
    by_cases l5 : a2.toInt ≤ 5
    · rw [if_pos (show 0 ≤ a2.toInt ∧ a2.toInt ≤ 5 by omega)]
      refine oT (zcle.trans (decide_eq_true l5)) ?_
      by_cases e5 : a2 = 5
      · subst e5
        rw [if_neg (show ¬ (5 : Int32).toInt < 4 by decide), if_neg (show ¬ (5 : Int32) = 4 by decide)]
        refine oF (by decide) (ob (c107_9 hF R I ht t2) (oi (p := !pcd s t) pB1 (fun a => ?_) (fun a => ?_)))
        · rw [show pcd s t = false by simpa using a]
          rfl
        · rw [show pcd s t = true by simpa using a]
          rfl
      · have n5 : a2.toInt ≠ 5 := fun z => e5 (Int32.toInt_inj.mp z)
        refine oT (by rw [zcn]; simp [e5]) ?_
        by_cases e4 : a2 = 4
        · subst e4
          rw [if_neg (show ¬ (4 : Int32).toInt < 4 by decide), if_pos (show (4 : Int32) = 4 from rfl)]
          exact ob (c89d_9 R ht (by omega) t2) rfl
        · have n4 : a2.toInt ≠ 4 := fun z => e4 (Int32.toInt_inj.mp z)
          rw [if_pos (show a2.toInt < 4 by omega)]
          exact ob (c89_9 R ht (k := a2.toInt.toNat) (i32n (by omega)) (by omega) (by omega)) rfl
    · rw [if_neg (show ¬ (0 ≤ a2.toInt ∧ a2.toInt ≤ 5) by omega)]
      exact oF (zcle.trans (decide_eq_false l5)) rfl
  · rw [if_neg P1]
    exact oT (zeT (bF P1)) rfl
theorem r218 {a1 a2 : Int32} (hF : 500 ≤ F) (I : vI (m.1 80)) : D218 F a1 a2 m = some (pWl (m.1 80) a1 a2, m) := by
  have nw := I_nw I
  unfold D218 pWl
  refine ob r207 ?_
  by_cases P1 : pin (m.1 80) 3 a1 = true
  · obtain ⟨t, ht, t2⟩ := pin_n P1
    rw [if_pos P1, tnI ht (by omega)]
    refine oF (zeF P1) (ob (r158 (x := 0) (y := 5) rfl rfl) ?_)
    by_cases l05 : 0 ≤ a2.toInt ∧ a2.toInt ≤ 5
    · rw [if_pos l05]
      refine oT (znT (by rw [decide_eq_true l05.1, decide_eq_true l05.2]; rfl)) ?_
      by_cases l4 : a2.toInt < 4
      · rw [if_pos l4]
        exact oF (zc.trans (decide_eq_false (by show ¬ (4 : Int) ≤ _; omega))) (ob (r209 ht (k := a2.toInt.toNat) (i32n (by omega)) (by omega) (by omega)) rfl)
      · rw [if_neg l4]
        refine oT (zc.trans (decide_eq_true (by show (4 : Int) ≤ _; omega))) ?_
        by_cases e4 : a2 = 4
        · rw [if_pos e4]
          refine oF (by rw [zcn, e4]; rfl) ?_
          subst ht
          have i := ix1 (A := 118) (B := 118) (d := t) rfl (by decide) (by omega)
          dsimp only
          rw [gxn i, if_pos (gxb i (by omega))]
        · rw [if_neg e4]
          refine oT (by rw [zcn]; simp [e4]) (ob (r216 hF (I_nt I) ht (by omega)) (oi (p := !pcd (m.1 80) t) pB1 (fun a => ?_) (fun a => ?_)))
          · rw [show pcd (m.1 80) t = false by simpa using a]
            rfl
          · rw [show pcd (m.1 80) t = true by simpa using a]
            rfl
    · rw [if_neg l05]
      refine oF (znF ?_) rfl
      rw [Bool.and_eq_false_iff, decide_eq_false_iff_not, decide_eq_false_iff_not]
      omega
  · rw [if_neg P1]
    exact oT (zeT (bF P1)) rfl
theorem kq_5 {y1 y2 : Int32} (hT : xT m) (M : rMx m) : xP (D129_0 3000 y1 y2 m) (fun v1 m1 => ∀ m1', xrw m1 m1' → xT m1' → xP (D218 3000 y1 y2 m1') (fun v2 m2 => (true = true → v1 = v2) ∧ rMx m2)) := kQ (val := fun s => pWl s y1 y2) (fun m _ R I => c129 (by decide) R I) (fun m I => r218 (by decide) I) m hT M
def pHl (s : Nat → Int32) (a1 a2 a3 : Int32) : Int32 := if (pin s 0 a1 && (pin s 0 a2 && !(a1 == a2))) = true then (if a3 = 0 then pB (ptr s a1.toInt.toNat a2.toInt.toNat) else if a3 = 1 then s (82 + 6 * a1.toInt.toNat + a2.toInt.toNat) else -1) else -1
theorem c130 {a1 a2 a3 : Int32} (hT : xT m) (R : R32 s (m.1 10)) (I : vI s) : D130_0 F a1 a2 a3 m = some (pHl s a1 a2 a3, m) := by
  have n6 := I_n6 I
  unfold D130_0 pHl
  refine ob (c86_9 R) ?_
  by_cases P : (pin s 0 a1 && (pin s 0 a2 && !(a1 == a2))) = true
  · have P0 := P
    simp only [Bool.and_eq_true, Bool.not_eq_true', beq_eq_false_iff_ne] at P0
    obtain ⟨P1, P2, P4⟩ := P0
    obtain ⟨t, ht, t2⟩ := pin_n P1
    obtain ⟨h, hh2, h2⟩ := pin_n P2
    rw [if_pos P, tnI ht (by omega), tnI hh2 (by omega)]
    refine oF (zeF P) ?_
    by_cases l0 : a3.toInt < 0
    · rw [if_neg (show ¬ a3 = 0 from fun z => by rw [z] at l0; exact absurd l0 (by decide)), if_neg (show ¬ a3 = 1 from fun z => by rw [z] at l0; exact absurd l0 (by decide))]
      exact oT (zcl.trans (decide_eq_true l0)) rfl
    refine oF (zcl.trans (decide_eq_false l0)) ?_
    by_cases l1 : a3.toInt ≤ 1
    · refine oT (zcle.trans (decide_eq_true l1)) ?_
      by_cases e0 : a3 = 0
      · rw [if_pos e0]
        refine oF (znz e0) (ob (c92_9 hT R ht hh2 (by omega) (by omega)) (oi (p := !ptr s t h) pB1 (fun a => ?_) (fun a => ?_)))
        · rw [show ptr s t h = false by simpa using a]
          rfl
        · rw [show ptr s t h = true by simpa using a]
          rfl
      · have n0 : a3.toInt ≠ 0 := fun z => e0 (Int32.toInt_inj.mp z)
        have e1 : a3 = 1 := Int32.toInt_inj.mp (by show _ = (1 : Int); omega)
        rw [if_neg e0, if_pos e1]
        exact oT (znn e0) (ob (c94_9 R ht hh2 (by omega) (by omega)) rfl)
    · rw [if_neg (show ¬ a3 = 0 from fun z => l1 (by rw [z]; decide)), if_neg (show ¬ a3 = 1 from fun z => l1 (by rw [z]; decide))]
      exact oF (zcle.trans (decide_eq_false l1)) rfl
  · rw [if_neg P]
    exact oT (zeT (bF P)) rfl
theorem oV {v w : Int32} {o : Option (Int32 × xS)} (hv : w = v) (h : o = some (v, m)) : o = some (w, m) := by
  rw [hv]
  exact h
theorem r219 {a1 a2 a3 : Int32} (I : vI (m.1 80)) : D219 F a1 a2 a3 m = some (pHl (m.1 80) a1 a2 a3, m) := by
  have n6 := I_n6 I
  by_cases P1 : pin (m.1 80) 0 a1 = true
  · obtain ⟨t, ht, t2⟩ := pin_n P1
    by_cases P2 : pin (m.1 80) 0 a2 = true
    · obtain ⟨h, hh2, h2⟩ := pin_n P2
      by_cases P4 : (a1 == a2) = true
      · refine oV (v := -1) (by unfold pHl; rw [P1, P2, P4, if_neg (by decide)]) ?_
        unfold D219
        exact ob r205 (oF (zeF P1) (ob r205 (oF (zeF P2) (oT (zce.trans P4) rfl))))
      · have hv : pHl (m.1 80) a1 a2 a3 = if a3 = 0 then pB (ptr (m.1 80) t h) else if a3 = 1 then m.1 80 (82 + 6 * t + h) else -1 := by
          unfold pHl
          rw [P1, P2, bF P4, if_pos (show (true && (true && !false)) = true from rfl), tnI ht (by omega), tnI hh2 (by omega)]
        by_cases l01 : 0 ≤ a3.toInt ∧ a3.toInt ≤ 1
        · have b01 : (decide (0 ≤ a3.toInt) && decide (a3.toInt ≤ 1)) = true := by rw [decide_eq_true l01.1, decide_eq_true l01.2]; rfl
          by_cases e1 : a3 = 1
          · refine oV (v := m.1 80 (82 + 6 * t + h)) (by rw [hv, e1, if_neg (by decide), if_pos rfl]) ?_
            unfold D219
            exact ob r205 (oF (zeF P1) (ob r205 (oF (zeF P2) (oF (zce.trans (bF P4)) (ob (r158 (x := 0) (y := 1) rfl rfl) (oT (znT b01) (oF (by rw [e1]; decide) (ob (r211 ht hh2 (by omega) (by omega)) rfl))))))))
          · have n1 : a3.toInt ≠ 1 := fun z => e1 (Int32.toInt_inj.mp z)
            have e0 : a3 = 0 := Int32.toInt_inj.mp (by show _ = (0 : Int); omega)
            refine oV (v := pB (ptr (m.1 80) t h)) (by rw [hv, if_pos e0]) ?_
            unfold D219
            refine ob r205 (oF (zeF P1) (ob r205 (oF (zeF P2) (oF (zce.trans (bF P4)) (ob (r158 (x := 0) (y := 1) rfl rfl) (oT (znT b01) (oT (by rw [e0]; decide) (ob (r210 ht hh2 (by omega) (by omega)) ?_))))))))
            refine oi (p := !ptr (m.1 80) t h) pB1 (fun a => ?_) (fun a => ?_)
            · rw [show ptr (m.1 80) t h = false by simpa using a]
              rfl
            · rw [show ptr (m.1 80) t h = true by simpa using a]
              rfl
        · refine oV (v := -1) (by rw [hv, if_neg (fun z => l01 (by rw [z]; decide)), if_neg (fun z => l01 (by rw [z]; decide))]) ?_
          unfold D219
          refine ob r205 (oF (zeF P1) (ob r205 (oF (zeF P2) (oF (zce.trans (bF P4)) (ob (r158 (x := 0) (y := 1) rfl rfl) (oF (znF ?_) rfl))))))
          rw [Bool.and_eq_false_iff, decide_eq_false_iff_not, decide_eq_false_iff_not]
          omega
    · refine oV (v := -1) (by unfold pHl; rw [bF P2, Bool.false_and, Bool.and_false, if_neg (by decide)]) ?_
      unfold D219
      exact ob r205 (oF (zeF P1) (ob r205 (oT (zeT (bF P2)) rfl)))
  · refine oV (v := -1) (by unfold pHl; rw [bF P1, Bool.false_and, if_neg (by decide)]) ?_
    unfold D219
    exact ob r205 (oT (zeT (bF P1)) rfl)
theorem kq_6 {y1 y2 y3 : Int32} (hT : xT m) (M : rMx m) : xP (D130_0 3000 y1 y2 y3 m) (fun v1 m1 => ∀ m1', xrw m1 m1' → xT m1' → xP (D219 3000 y1 y2 y3 m1') (fun v2 m2 => (true = true → v1 = v2) ∧ rMx m2)) := kQ (val := fun s => pHl s y1 y2 y3) (fun m hT R I => c130 hT R I) (fun m I => r219 I) m hT M
/-- debt -/
def pdb (s : Nat → Int32) (a : Nat) : Nat → Nat → Int32 → Int32
  | _, 0, v => v
  | d, n + 1, v => pdb s a (d + 1) n (v + (s (82 + 6 * a + d) - s (82 + 6 * d + a)))
def pDb (s : Nat → Int32) (a1 : Int32) : Int32 := if pin s 0 a1 = true then pdb s a1.toInt.toNat 0 (s 0).toInt.toNat 0 else -1000
theorem c95_9_4 (R : R32 s (m.1 10)) (I : vI s) {a : Nat} {v1 : Int32} (h1 : v1 = Int32.ofNat a) (ha : a < 6) : ∀ (f : Nat) {d : Nat} {v : Int32}, (d : Int) ≤ (s 0).toInt → 6 - d < f → 0 ≤ (s 0).toInt → D95_9_4 F f v1 v (Int32.ofNat d) m = some (pdb s a d ((s 0).toInt.toNat - d) v, m) := by
  have n6 := I_n6 I
  intro f
  induction f with
  | zero => intro d v _ l; omega
  | succ f ih =>
    intro d v hd l n0
    have ed := nJ (n := d) (by omega)
    unfold D95_9_4
    refine ob (c77_9 R) (oi (p := decide ((s 0).toInt ≤ (Int32.ofNat d).toInt)) zc (fun h => ?_) (fun h => ?_))
    · have h := of_decide_eq_true h
      rw [show (s 0).toInt.toNat - d = 0 by omega]
      rfl
    · have h := of_decide_eq_false h
      rw [show (s 0).toInt.toNat - d = ((s 0).toInt.toNat - (d + 1)) + 1 by omega]
      refine ob (c94_9 R h1 rfl ha (by omega)) (ob (c94_9 R rfl h1 (by omega) ha) ?_)
      rw [show Int32.ofNat d + Int32.ofInt 1 = Int32.ofNat (d + 1) from xadd (a := d) (b := 1) (by omega)]
      exact ih (by omega) (by omega) n0
theorem c147 {a1 : Int32} (hF : 500 ≤ F) (R : R32 s (m.1 10)) (I : vI s) : D147_0 F a1 m = some (pDb s a1, m) := by
  have n6 := I_n6 I
  unfold D147_0 pDb
  refine ob (c85_9 R) ?_
  by_cases P1 : pin s 0 a1 = true
  · obtain ⟨t, ht, t2⟩ := pin_n P1
    rw [if_pos P1, tnI ht (by omega)]
    have z := c95_9_4 (F := F) R I ht (by omega) F (d := 0) (v := 0) (by omega) (by omega) (by omega)
    rw [Nat.sub_zero] at z
    refine oF (zeF P1) (ob (a := pdb s t 0 (s 0).toInt.toNat 0) (m := m) ?_ rfl)
    unfold D95_9
    exact z
  · rw [if_neg P1]
    exact oT (zeT (bF P1)) rfl
theorem r265_16 (I : vI (m.1 80)) {a : Nat} {v1 : Int32} (h1 : v1 = Int32.ofNat a) (ha : a < 6) : ∀ (f : Nat) {d : Nat} {v : Int32}, (d : Int) ≤ (m.1 80 0).toInt → 6 - d < f → 0 ≤ (m.1 80 0).toInt → D265_16 F f v1 v (Int32.ofNat d) m = some (pdb (m.1 80) a d ((m.1 80 0).toInt.toNat - d) v, m) := by
  have n6 := I_n6 I
  intro f
  induction f with
  | zero => intro d v _ l; omega
  | succ f ih =>
    intro d v hd l n0
    have ed := nJ (n := d) (by omega)
    unfold D265_16
    refine oi (p := decide ((m.1 80 0).toInt ≤ (Int32.ofNat d).toInt)) zc (fun h => ?_) (fun h => ?_)
    · have h := of_decide_eq_true h
      rw [show (m.1 80 0).toInt.toNat - d = 0 by omega]
      rfl
    · have h := of_decide_eq_false h
      rw [show (m.1 80 0).toInt.toNat - d = ((m.1 80 0).toInt.toNat - (d + 1)) + 1 by omega]
      refine ob (r211 h1 rfl ha (by omega)) (ob (r211 rfl h1 (by omega) ha) ?_)
      rw [show Int32.ofNat d + Int32.ofInt 1 = Int32.ofNat (d + 1) from xadd (a := d) (b := 1) (by omega)]
      exact ih (by omega) (by omega) n0
theorem r265 {a1 : Int32} (hF : 500 ≤ F) (I : vI (m.1 80)) : D265 F a1 m = some (pDb (m.1 80) a1, m) := by
  have n6 := I_n6 I
  unfold D265 pDb
  refine ob r205 ?_
  by_cases P1 : pin (m.1 80) 0 a1 = true
  · obtain ⟨t, ht, t2⟩ := pin_n P1
    rw [if_pos P1, tnI ht (by omega)]
    have z := r265_16 (F := F) I ht (by omega) F (d := 0) (v := 0) (by omega) (by omega) (by omega)
    rw [Nat.sub_zero] at z
    exact oT (znT P1) z
  · rw [if_neg P1]
    exact oF (znF (bF P1)) rfl
theorem kq_22 {y1 : Int32} (hT : xT m) (M : rMx m) : xP (D147_0 3000 y1 m) (fun v1 m1 => ∀ m1', xrw m1 m1' → xT m1' → xP (D265 3000 y1 m1') (fun v2 m2 => (true = true → v1 = v2) ∧ rMx m2)) := kQ (val := fun s => pDb s y1) (fun m hT R I => c147 (by decide) R I) (fun m I => r265 (by decide) I) m hT M
end KQRY
end
section
/-! feed, end, rule, village over the relation. -/
theorem eR {cm : Bool} {n1 n2 : Nat} {sp1 sp2 : ySp} (T1 : yTs (yEA yAr) n1 sp1) (T2 : yTs (yEA yAr) n2 sp2) {na : Nat} {bl : List Nat} (c1 : (eOk 0 na bl sp1.2.2.1 && (decide (n1 ≤ 20) && (decide (na + 1 ≤ sp1.2.1) && sp1.2.2.2.1.all eQok))) = true) (c2 : (eOk 70 na bl sp2.2.2.1 && (decide (n2 ≤ 20) && (decide (na + 1 ≤ sp2.2.1) && sp2.2.2.2.1.all eQok))) = true) (hN : (ydj sp1.2.2.2.2 rMM && ydj sp2.2.2.2.2 rMM) = true) (ys : List Int32) (hl : ys.length = na) (hb : ∀ s ∈ bl, ∀ y, ys[s]? = some y → 0 ≤ y.toInt ∧ y.toInt ≤ 1) (P : lP rI sp1.1 sp2.1 (ys.map .int) cm) : lP MI sp1.1 sp2.1 (ys.map .int) cm := fun hp hI => by
  rw [Bool.and_eq_true] at hN
  obtain ⟨x1, x2, z1, z2, a1, a2, a3, a4, a5, a6, a7, a8⟩ := P hp hI.1
  obtain ⟨x3, z3, b1, b2, b3, -⟩ := eSp T1 c1 hI.1.1 hl hb
  have u := zCan_u a3 b1
  cases u
  obtain ⟨x4, z4, d1, d2, d3, -⟩ := eSp T2 c2 b2 hl hb
  have u := zCan_u a5 d1
  cases u
  exact ⟨x1, x2, z1, z2, a1, a2, a3, a4, a5, a6, ⟨a7, rMx_F d3 hN.2 (rMx_F b3 hN.1 hI.2)⟩, a8⟩
theorem m0 {y1 y2 y3 y4 y5 : Int32} : lP MI 122 161 [.int y1, .int y2, .int y3, .int y4, .int y5] true := eR (yt1542 yXx.1) (yt1548 yXx.1) (na := 5) (bl := []) (by decide +kernel) (by decide +kernel) (by decide +kernel) [y1, y2, y3, y4, y5] rfl (fun s hs => by cases hs) eFeed
theorem m1 {y1 : Int32} : lP MI 124 162 [.int y1] true := eR (yt1538 yXx.1) (yt1540 yXx.1) (na := 1) (bl := []) (by decide +kernel) (by decide +kernel) (by decide +kernel) [y1] rfl (fun s hs => by cases hs) eEnd
theorem m3 : lP MI 126 197 [] true := eR (yl646 yXx) (yl3 yXx) (na := 0) (bl := []) (by decide +kernel) (by decide +kernel) (by decide +kernel) [] rfl (fun s hs => by cases hs) eRule
/-- where village leaves alone -/
abbrev rMV : yM := [(16, 35, 1000), (37, 42, 1000), (43, 43, 1000), (70, 70, 23), (81, 81, 1000), (85, 87, 1000)]
theorem m2 : lP MI 125 198 [] true := fun hp hI => by
  obtain ⟨x1, x2, z1, z2, a1, a2, a3, a4, a5, a6, a7, a8⟩ := eVillage hp hI.1
  refine ⟨x1, x2, z1, z2, a1, a2, a3, a4, a5, a6, ⟨a7, ?_⟩, a8⟩
  obtain ⟨x3, z3, p1, p2, p3, -⟩ := eSp (yt1537b yXx.1) (c := 0) (na := 0) (bl := []) (by decide +kernel) hI.1.1 (ys := []) rfl (fun s hs => by cases hs)
  have u := zCan_u a3 p1
  cases u
  obtain ⟨x4, z4, q1, q2, q3, -⟩ := eSp (yl243 yXx) (c := 70) (na := 0) (bl := []) (by decide +kernel) p2 (ys := []) rfl (fun s hs => by cases hs)
  have u := zCan_u a5 q1
  cases u
  have hT := xT_of hI.1.1.1
  have b1 : (0 : Int) ≤ ((xof hp).1 0 1).toInt ∧ ((xof hp).1 0 1).toInt ≤ 400 := hT 0 1 (0, 400) rfl
  obtain ⟨n, hn⟩ : ∃ n : Nat, ((xof hp).1 0 1).toInt = (n : Int) := ⟨((xof hp).1 0 1).toInt.toNat, by omega⟩
  obtain ⟨v, m', w1, w2, w3⟩ := kVil (b := fun j => ((xof hp).1 1 j).toInt) (d := 20) hI.1.1.1 (by decide) hn (fun _ _ => rfl)
  have u := zCan_u p1 w1
  cases u
  have f70 : ∀ j, (xof (xW (kB hp) m')).1 70 j = (xof hp).1 70 j := fun j => eF p3 (by unfold yinM; rfl)
  have f71 : ∀ j, (xof (xW (kB hp) m')).1 71 j = (xof hp).1 71 j := fun j => eF p3 (by unfold yinM; rfl)
  have f80 : (xof (xW (kB hp) m')).1 80 = (xof hp).1 80 := funext fun j => eF p3 (by unfold yinM; rfl)
  have N : rN (xof (xW (kB hp) m')) (fun j => ((xof hp).1 1 j).toInt) n := ⟨by rw [f70]; exact hI.1.2.1.trans hn, by omega, fun j hj => ⟨hT 1 j (0, 255) (eb1 (by omega)), by rw [f71]; exact hI.1.2.2.2 j (by omega)⟩⟩
  obtain ⟨y, hy, hQ⟩ := rV198 (F := 500) (Nat.le_refl _) N (xT_of p2.1)
  have u2 := Z198 p2.1 hy (d := 20) (by decide)
  rw [xW_of] at u2
  have u2 := zCan_u q1 u2
  cases u2
  have M := hI.2
  have k1 : ydj ys1537b.2.2.2.2 rMV = true := by decide +kernel
  have k2 : ydj ys243.2.2.2.2 rMV = true := by decide +kernel
  have g : ∀ i j : Nat, yinM rMV i (j : Int) = true → (xof (xW (xW (kB hp) m') y.2)).1 i j = (xof hp).1 i j := fun i j hj => (eF q3 (ydj_ok k2 i j hj)).trans (eF p3 (ydj_ok k1 i j hj))
  have HB := kB_H hI.1.1.1
  have e80 : (xof (xW (xW (kB hp) m') y.2)).1 80 = y.2.1 80 := xof_t p2.1 (k := 0) (n := 148) (by decide)
  have e25 : (xof (xW (xW (kB hp) m') y.2)).1 70 25 = y.2.1 70 25 := xof_f p2.1 (a := 11) (by decide)
  have e10 : (xof (xW (xW (kB hp) m') y.2)).1 10 = m'.1 10 := (funext fun j => eF q3 (by unfold yinM; rfl)).trans (xof_t HB (k := 0) (n := 114) (by decide))
  have e14 : ∀ j, j = 1 ∨ j = 2 → (xof (xW (xW (kB hp) m') y.2)).1 14 j = m'.1 14 j := fun j hj => (eF q3 (by unfold yinM; rfl)).trans (by
    rcases hj with rfl | rfl
    · exact xof_f HB (a := 2) (by decide)
    · exact xof_f HB (a := 2) (by decide))
  have gr : ∀ a b : Nat, (a, b, 1000) ∈ rMV → ∀ i, a ≤ i → i ≤ b → (xof (xW (xW (kB hp) m') y.2)).1 i = (xof hp).1 i := fun a b h i h1 h2 => funext fun j => g i j (yin_r h h1 h2)
  rcases w3 with ⟨g0, g1, g2, g3, g4⟩ | ⟨s, g1, g2, g3, g4, g5⟩
  · rcases hQ with ⟨g', h1, -, h2, h3, h4⟩ | ⟨s', h1, -⟩
    · have r80 : (xof (xW (xW (kB hp) m') y.2)).1 80 = (xof hp).1 80 := e80.trans ((funext h3).trans f80)
      exact rMx_c r80 (e10.trans g3) ⟨(e14 1 (Or.inl rfl)).trans (by rw [g4]), (e14 2 (Or.inr rfl)).trans (by rw [g4])⟩ (e25.trans (h4.trans (f70 25))) (gr 81 81 (by decide) 81 (by decide) (by decide)) (fun a l1 l2 => gr 16 35 (by decide) a l1 (by omega)) (fun a l1 l2 => gr 37 42 (by decide) a l1 (by omega)) (gr 37 42 (by decide) 41 (by decide) (by decide)) (gr 37 42 (by decide) 42 (by decide) (by decide)) (gr 85 87 (by decide) 85 (by decide) (by decide)) (gr 85 87 (by decide) 86 (by decide) (by decide)) (gr 85 87 (by decide) 87 (by decide) (by decide)) (g 70 23 rfl) (g 43 0 rfl) M
    · rw [g1] at h1
      cases h1
  · rcases hQ with ⟨g', h1, -⟩ | ⟨s', h1, h2, h3, h4⟩
    · rw [g1] at h1
      cases h1
    · rw [g1] at h1
      have h1 : s = s' := Sum.inr.inj h1
      subst h1
      have J := vJ_r 42 (Or.inl ⟨rfl, rfl⟩) g1
      obtain ⟨-, ⟨n0, h0, ⟨l1, l2⟩, ⟨o1, o2, o3⟩, H⟩, Mi, Mx⟩ := M
      have b14 := xT_of p2.1 14 1 (0, 19) rfl
      have z1 : (xof (xW (kB hp) m')).1 14 1 = m'.1 14 1 := xof_f HB (a := 2) (by decide)
      have R0 : R32 (y.2.1 80) (m'.1 12) := by
        have e : ∀ j, j < 148 → sI (y.2.1 80) j = vdn s j := h3
        obtain ⟨r1, r2, r3, r4, r5, r6⟩ := g4
        refine ⟨fun j hj => ?_, fun t w ht hw => ?_, fun w k hw hk => ?_, fun w hw l => ?_, fun a d ha hd => ?_, fun a d ha hd => ?_⟩
        · rw [e j (by omega)]
          exact r1 j hj
        · rw [e _ (by omega)]
          exact r2 t w ht hw
        · rw [e _ (by omega)]
          exact r3 w k hw hk
        · rw [e 3 (by omega)] at l
          rw [e _ (by omega)]
          exact r4 w hw l
        · rw [e _ (by omega)]
          exact r5 a d ha hd
        · rw [e _ (by omega)]
          exact r6 a d ha hd
      refine ⟨⟨?_, ?_⟩, ⟨(m'.1 14 1).toInt.toNat, 0, ⟨?_, by omega⟩, ⟨?_, ?_, ?_⟩, fun j hj => absurd hj (Nat.not_lt_zero j)⟩, fun a ha => ?_, ?_⟩
      · rw [e80, e10]
        exact R_c R0 (fun _ _ => rfl) (fun j hj => g3 j hj)
      · rw [e80]
        refine ⟨I_vj J h3, ?_⟩
        rw [h3 4 (by omega), if_neg (by omega), J.1.2.2.2.2]
        decide
      · rw [z1] at b14
        have b14 : (0 : Int) ≤ (m'.1 14 1).toInt ∧ (m'.1 14 1).toInt ≤ 19 := b14
        omega
      · rw [e14 1 (Or.inl rfl)]
        rw [z1] at b14
        have b14 : (0 : Int) ≤ (m'.1 14 1).toInt ∧ (m'.1 14 1).toInt ≤ 19 := b14
        exact i32n (by omega)
      · rw [e14 2 (Or.inr rfl), g5]
        rfl
      · rw [e25, h4]
        rfl
      · rw [gr 85 87 (by decide) 87 (by decide) (by decide), gr 37 42 (by decide) 42 (by decide) (by decide), gr 85 87 (by decide) 85 (by decide) (by decide), gr 85 87 (by decide) 86 (by decide) (by decide), gr 37 42 (by decide) 41 (by decide) (by decide), gr 37 42 (by decide) (37 + a) (by omega) (by omega)]
        exact Mi a ha
      · rw [g 70 23 rfl, g 43 0 rfl]
        exact Mx
end
section
/-! Rows of houses in order, and the reference's codes. -/
def dgt (N n c k : Nat) : Nat := c / N ^ (n - 1 - k) % N
def dg (N n c : Nat) : List Nat := (List.range n).map (dgt N n c)
/-- all rows of n houses, in order -/
def rws (N : Nat) : Nat → List (List Nat)
  | 0 => [[]]
  | n + 1 => (List.range N).flatMap (fun h => (rws N n).map (fun r => h :: r))
section PROW
variable {N n c : Nat}
theorem dg_c {h : Nat} (hh : h < N) (hc : c < N ^ n) : dg N (n + 1) (h * N ^ n + c) = h :: dg N n c := by
  have N0 : 0 < N := by omega
  have P0 : 0 < N ^ n := Nat.pow_pos N0
  unfold dg
  rw [List.range_succ_eq_map, List.map_cons, List.map_map]
  congr 1
  · unfold dgt
    rw [show n + 1 - 1 - 0 = n by omega, Nat.mul_comm, Nat.mul_add_div P0, Nat.div_eq_of_lt hc, Nat.add_zero]
    exact Nat.mod_eq_of_lt hh
  · refine List.map_congr_left (fun k hk => ?_)
    have hk : k < n := List.mem_range.mp hk
    show dgt N (n + 1) (h * N ^ n + c) (k + 1) = dgt N n c k
    unfold dgt
    rw [show n + 1 - 1 - (k + 1) = n - 1 - k by omega]
    have e : h * N ^ n = N ^ (n - 1 - k) * (N * (h * N ^ k)) := by
      have : N ^ n = N ^ (n - 1 - k) * (N * N ^ k) := by
        rw [← Nat.pow_succ', ← Nat.pow_add]
        congr 1
        omega
      rw [this]
      simp only [Nat.mul_assoc, Nat.mul_left_comm]
    rw [e, Nat.mul_add_div (Nat.pow_pos N0), Nat.mul_add_mod]
theorem rng_mul (a b : Nat) : List.range (a * b) = (List.range a).flatMap (fun h => (List.range b).map (fun c => h * b + c)) := by
  induction a with
  | zero => rw [Nat.zero_mul]; rfl
  | succ a ih =>
    rw [Nat.succ_mul, List.range_add, ih, List.range_succ, List.flatMap_append]
    simp
theorem rws_c : ∀ n : Nat, (List.range (N ^ n)).map (dg N n) = rws N n
  | 0 => rfl
  | n + 1 => by
    rw [Nat.pow_succ, Nat.mul_comm, rng_mul, List.map_flatMap]
    show _ = (List.range N).flatMap (fun h => (rws N n).map (fun r => h :: r))
    rw [← rws_c n]
    rw [List.flatMap_def, List.flatMap_def]
    congr 1
    refine List.map_congr_left (fun h hh => ?_)
    rw [List.map_map, List.map_map]
    refine List.map_congr_left (fun c hc => ?_)
    exact dg_c (List.mem_range.mp hh) (List.mem_range.mp hc)
theorem dg_len : (dg N n c).length = n := by
  unfold dg
  rw [List.length_map, List.length_range]
theorem dg_get {k : Nat} (hk : k < n) : (dg N n c)[k]'(by rw [dg_len]; exact hk) = dgt N n c k := by
  unfold dg
  rw [List.getElem_map, List.getElem_range]
theorem rws_len : ∀ {n : Nat} {r : List Nat}, r ∈ rws N n → r.length = n ∧ ∀ h ∈ r, h < N
  | 0, r, hr => by
    have : r = [] := by simpa [rws] using hr
    subst this
    exact ⟨rfl, fun h hh => by cases hh⟩
  | n + 1, r, hr => by
    obtain ⟨h, hh, hr⟩ := List.mem_flatMap.mp hr
    obtain ⟨r', hr', rfl⟩ := List.mem_map.mp hr
    obtain ⟨a, b⟩ := rws_len hr'
    refine ⟨by rw [List.length_cons, a], fun x hx => ?_⟩
    rcases List.mem_cons.mp hx with rfl | hx
    · exact List.mem_range.mp hh
    · exact b x hx
/-- the first row of which P holds -/
def ff (N n : Nat) (P : List Nat → Bool) : Option (List Nat) := (rws N n).find? P
theorem fl_find {α β : Type} (l : List α) (f : α → List β) (P : β → Bool) : (l.flatMap f).find? P = l.findSome? (fun a => (f a).find? P) := by
  induction l with
  | nil => rfl
  | cons a l ih =>
    rw [List.flatMap_cons, List.find?_append, List.findSome?_cons, ih]
    cases (f a).find? P <;> rfl
theorem ff_s {P : List Nat → Bool} : ff N (n + 1) P = (List.range N).findSome? (fun h => (ff N n (fun r => P (h :: r))).map (fun r => h :: r)) := by
  unfold ff
  show ((List.range N).flatMap (fun h => (rws N n).map (fun r => h :: r))).find? P = _
  rw [fl_find]
  congr 1
  funext h
  rw [List.find?_map]
  rfl
theorem ff_n {P : List Nat → Bool} (h : ∀ r, P r = false) : ff N n P = none := by
  unfold ff
  rw [List.find?_eq_none]
  intro r _
  rw [h r]
  decide
theorem ff_c {P Q : List Nat → Bool} (h : ∀ r, r.length = n → (∀ x ∈ r, x < N) → P r = Q r) : ff N n P = ff N n Q := by
  unfold ff
  have : ∀ l : List (List Nat), (∀ r ∈ l, P r = Q r) → l.find? P = l.find? Q := by
    intro l
    induction l with
    | nil => intro _; rfl
    | cons a l ih =>
      intro hl
      rw [List.find?_cons, List.find?_cons, hl a (List.mem_cons_self ..), ih (fun r hr => hl r (List.mem_cons_of_mem _ hr))]
  exact this _ (fun r hr => h r (rws_len hr).1 (rws_len hr).2)
/-- by codes -/
theorem ff_code {P : List Nat → Bool} : ff N n P = ((List.range (N ^ n)).find? (fun c => P (dg N n c))).map (dg N n) := by
  unfold ff
  rw [← rws_c, List.find?_map]
  rfl
end PROW
end
section
/-! The reference's codes, exactly. -/
/-- none twice, none of the bits b -/
def nodp (b : Nat) : List Nat → Bool
  | [] => true
  | h :: r => !b.testBit h && nodp (b ||| 2 ^ h) r
/-- each trusted by the one ahead -/
def trs (s : Nat → Int32) (a : Nat) : List Nat → Bool
  | [] => true
  | h :: r => ptr s a h && trs s h r
section PCOD
variable {m : xS} {F N n c : Nat}
theorem p6b {N k : Nat} (hN : N ≤ 7) (hk : k ≤ 6) : N ^ k ≤ 117649 := Nat.le_trans (Nat.pow_le_pow_left hN k) (Nat.le_trans (Nat.pow_le_pow_right (by decide) hk) (by decide))
theorem r235_4 {N k : Nat} (N1 : 1 ≤ N) (hN : N ≤ 7) (hk : k ≤ 6) : ∀ (f : Nat) {i : Nat}, i ≤ k → 6 - i < f → D235_4 F f (Int32.ofNat N) (Int32.ofNat k) (Int32.ofNat (N ^ i)) (Int32.ofNat i) m = some (Int32.ofNat (N ^ k), m) := by
  intro f
  induction f with
  | zero => intro i _ l; omega
  | succ f ih =>
    intro i hi l
    have ek := nJ (n := k) (by omega)
    have ei := nJ (n := i) (by omega)
    unfold D235_4
    refine oi (p := decide ((Int32.ofNat k).toInt ≤ (Int32.ofNat i).toInt)) zc (fun h => ?_) (fun h => ?_)
    · have h := of_decide_eq_true h
      rw [show i = k by omega]
    · have h := of_decide_eq_false h
      have b := p6b (N := N) (k := i) hN (by omega)
      have b2 := p6b (N := N) (k := i + 1) hN (by omega)
      rw [xmul (a := N ^ i) (b := N) (by have := b2; rw [Nat.pow_succ] at this; omega) (by omega) (by omega), ← Nat.pow_succ, show Int32.ofNat i + Int32.ofInt 1 = Int32.ofNat (i + 1) from xadd (a := i) (b := 1) (by omega)]
      exact ih (by omega) (by omega)
theorem r235 {k : Nat} {v0 v1 : Int32} (hF : 100 ≤ F) (h0 : v0 = Int32.ofNat N) (h1 : v1 = Int32.ofNat k) (N1 : 1 ≤ N) (hN : N ≤ 7) (hk : k ≤ 6) : D235 F v0 v1 m = some (Int32.ofNat (N ^ k), m) := by
  subst h0
  subst h1
  unfold D235
  exact r235_4 N1 hN hk F (i := 0) (by omega) (by omega)
/-- division and rest of numbers -/
theorem i32dv {a b : Nat} (ha : a < 2147483648) (hb : b < 2147483648) (b0 : 0 < b) : Int32.ofNat a / Int32.ofNat b = Int32.ofNat (a / b) := by
  apply Int32.toInt_inj.mp
  have ea := xI (a := a) ha
  have eb := xI (a := b) hb
  have ed := xI (a := a / b) (by have := Nat.div_le_self a b; omega)
  rw [Int32.toInt_div, ea, eb, ed]
  have e : (a : Int).tdiv (b : Int) = ((a / b : Nat) : Int) := rfl
  have l := Nat.div_le_self a b
  rw [e]
  generalize a / b = q at *
  exact Int.bmod_eq_of_le_mul_two (by omega) (by omega)
theorem i32md {a b : Nat} (ha : a < 2147483648) (hb : b < 2147483648) (b0 : 0 < b) : Int32.ofNat a - Int32.ofNat a / Int32.ofNat b * Int32.ofNat b = Int32.ofNat (a % b) := by
  have l := Nat.div_le_self a b
  have l2 : a / b * b ≤ a := Nat.div_mul_le_self a b
  have k := Nat.div_add_mod a b
  have k2 : b * (a / b) = a / b * b := Nat.mul_comm _ _
  rw [i32dv ha hb b0, xmul (by omega) (by omega) hb]
  apply Int32.toInt_inj.mp
  have ea := xI (a := a) ha
  have em := xI (a := a / b * b) (by omega)
  have er := xI (a := a % b) (by omega)
  rw [xs1 (by rw [ea, em]; omega) (by rw [ea, em]; omega), ea, em, er]
  omega
theorem n0b {n : Nat} (h : 0 < n) (l : n < 2147483648) : (!(Int32.ofNat n == 0)) = true := by
  have : Int32.ofNat n ≠ 0 := fun z => by
    have z := congrArg Int32.toInt z
    rw [xI l] at z
    have z : (n : Int) = 0 := z
    omega
  simp [this]
theorem r236 {k : Nat} {v1 v2 v3 : Int32} (hF : 100 ≤ F) (h1 : v1 = Int32.ofNat c) (h2 : v2 = Int32.ofNat n) (h3 : v3 = Int32.ofNat k) (e0 : m.1 80 0 = Int32.ofNat N) (N1 : 1 ≤ N) (hN : N ≤ 6) (hk : k < n) (hn : n ≤ 6) (hc : c < 2147483648) : D236 F v1 v2 v3 m = some (Int32.ofNat (dgt N n c k), m) := by
  subst h1
  subst h2
  subst h3
  have e : Int32.ofNat n - 1 - Int32.ofNat k = Int32.ofNat (n - 1 - k) := by
    apply Int32.toInt_inj.mp
    have en := nJ (n := n) (by omega)
    have ek := nJ (n := k) (by omega)
    have er := nJ (n := n - 1 - k) (by omega)
    have e1 : (Int32.ofNat n - 1).toInt = (n : Int) - 1 := (xs1 (by show _ ≤ _ - (1 : Int); omega) (by show _ - (1 : Int) ≤ _; omega)).trans (by rw [en]; rfl)
    rw [xs1 (by rw [e1, ek]; omega) (by rw [e1, ek]; omega), e1, ek, er]
    omega
  have b := p6b (N := N) (k := n - 1 - k) (by omega) (by omega)
  have b0 : 0 < N ^ (n - 1 - k) := Nat.pow_pos (by omega)
  have lc := Nat.div_le_self c (N ^ (n - 1 - k))
  unfold D236
  rw [e]
  refine ob (r235 hF e0 rfl N1 (by omega) (by omega)) ?_
  dsimp only
  rw [if_pos (n0b b0 (by omega)), e0, if_pos (n0b (by omega) (by omega)), i32dv hc (by omega) b0, i32md (by omega) (by omega) (by omega)]
  rfl
theorem dgt_lt {k : Nat} (N1 : 1 ≤ N) : dgt N n c k < N := Nat.mod_lt _ (by omega)
/-- bits -/
theorem r159 {b h : Nat} {v0 v1 : Int32} (h0 : v0 = Int32.ofNat b) (h1 : v1 = Int32.ofNat h) (hb : b < 64) (hh : h < 6) : D159 F v0 v1 m = some (pB (b.testBit h), m) := by
  subst h0
  subst h1
  have key : (List.range 64).all (fun b => (List.range 6).all (fun h => zcmp .ne ((Int32.ofNat b >>> (Int32.ofNat h &&& 31)) &&& 1) 1 == !b.testBit h)) = true := by decide +kernel
  have k := eq_of_beq (List.all_eq_true.mp (List.all_eq_true.mp key b (List.mem_range.mpr hb)) h (List.mem_range.mpr hh))
  unfold D159
  refine oi (p := !b.testBit h) k (fun a => ?_) (fun a => ?_)
  · rw [show b.testBit h = false by simpa using a]
    rfl
  · rw [show b.testBit h = true by simpa using a]
    rfl
theorem bor {b h : Nat} (hb : b < 64) (hh : h < 6) : (Int32.ofNat b ||| (1 <<< (Int32.ofNat h &&& 31))) = Int32.ofNat (b ||| 2 ^ h) ∧ (b ||| 2 ^ h) < 64 := by
  have key : (List.range 64).all (fun b => (List.range 6).all (fun h => (Int32.ofNat b ||| ((1 : Int32) <<< (Int32.ofNat h &&& 31))) == Int32.ofNat (b ||| 2 ^ h) && decide ((b ||| 2 ^ h) < 64))) = true := by decide +kernel
  have k := List.all_eq_true.mp (List.all_eq_true.mp key b (List.mem_range.mpr hb)) h (List.mem_range.mpr hh)
  rw [Bool.and_eq_true] at k
  exact ⟨eq_of_beq k.1, of_decide_eq_true k.2⟩
theorem dg_drop {k : Nat} (hk : k < n) : (dg N n c).drop k = dgt N n c k :: (dg N n c).drop (k + 1) := by
  rw [List.drop_eq_getElem_cons (by rw [dg_len]; exact hk), dg_get hk]
theorem dg_drop0 : (dg N n c).drop n = [] := List.drop_eq_nil_of_le (by rw [dg_len]; exact Nat.le_refl _)
theorem r237_5 (hF : 100 ≤ F) (e0 : m.1 80 0 = Int32.ofNat N) (N1 : 1 ≤ N) (hN : N ≤ 6) (hn : n ≤ 6) (hc : c < 2147483648) : ∀ (f : Nat) {b k : Nat}, b < 64 → k ≤ n → 6 - k < f → D237_5 F f (Int32.ofNat c) (Int32.ofNat n) (Int32.ofNat b) (Int32.ofNat k) m = some (pB (nodp b ((dg N n c).drop k)), m) := by
  intro f
  induction f with
  | zero => intro b k _ _ l; omega
  | succ f ih =>
    intro b k hb hk l
    have en := nJ (n := n) (by omega)
    have ek := nJ (n := k) (by omega)
    unfold D237_5
    refine oi (p := decide ((Int32.ofNat n).toInt ≤ (Int32.ofNat k).toInt)) zc (fun h => ?_) (fun h => ?_)
    · have h := of_decide_eq_true h
      rw [show k = n by omega, dg_drop0]
      rfl
    · have h := of_decide_eq_false h
      have dl := dgt_lt (N := N) (n := n) (c := c) (k := k) N1
      refine ob (r236 hF rfl rfl rfl e0 N1 hN (by omega) hn hc) (ob (r159 rfl rfl hb (by omega)) ?_)
      rw [dg_drop (by omega)]
      show _ = some (pB (!b.testBit (dgt N n c k) && nodp (b ||| 2 ^ dgt N n c k) ((dg N n c).drop (k + 1))), m)
      refine oi (p := !b.testBit (dgt N n c k)) pB1 (fun a => ?_) (fun a => ?_)
      · rw [a, Bool.true_and, (bor hb (by omega)).1, show Int32.ofNat k + Int32.ofInt 1 = Int32.ofNat (k + 1) from xadd (a := k) (b := 1) (by omega)]
        exact ih (bor hb (by omega)).2 (by omega) (by omega)
      · rw [a, Bool.false_and]
        rfl
theorem r237 {v1 v2 : Int32} (hF : 100 ≤ F) (h1 : v1 = Int32.ofNat c) (h2 : v2 = Int32.ofNat n) (e0 : m.1 80 0 = Int32.ofNat N) (N1 : 1 ≤ N) (hN : N ≤ 6) (hn : n ≤ 6) (hc : c < 2147483648) : D237 F v1 v2 m = some (pB (nodp 0 (dg N n c)), m) := by
  subst h1
  subst h2
  unfold D237
  exact r237_5 hF e0 N1 hN hn hc F (b := 0) (k := 0) (by decide) (by omega) (by omega)
theorem r238_3 (hF : 100 ≤ F) (e0 : m.1 80 0 = Int32.ofNat N) (N1 : 1 ≤ N) (hN : N ≤ 6) (hn : n ≤ 6) (hc : c < 2147483648) {h : Nat} (hh : h < 6) : ∀ (f : Nat) {k : Nat}, k ≤ n → 6 - k < f → D238_3 F f (Int32.ofNat c) (Int32.ofNat n) (Int32.ofNat h) (Int32.ofNat k) m = some (pB (((dg N n c).drop k).any (· == h)), m) := by
  intro f
  induction f with
  | zero => intro k _ l; omega
  | succ f ih =>
    intro k hk l
    have en := nJ (n := n) (by omega)
    have ek := nJ (n := k) (by omega)
    unfold D238_3
    refine oi (p := decide ((Int32.ofNat n).toInt ≤ (Int32.ofNat k).toInt)) zc (fun a => ?_) (fun a => ?_)
    · have a := of_decide_eq_true a
      rw [show k = n by omega, dg_drop0]
      rfl
    · have a := of_decide_eq_false a
      have dl := dgt_lt (N := N) (n := n) (c := c) (k := k) N1
      refine ob (r236 hF rfl rfl rfl e0 N1 hN (by omega) hn hc) ?_
      rw [dg_drop (by omega), List.any_cons]
      have eq : (Int32.ofNat (dgt N n c k) == Int32.ofNat h) = (dgt N n c k == h) := by
        rw [Bool.eq_iff_iff, beq_iff_eq, beq_iff_eq]
        constructor
        · intro z
          have z := congrArg Int32.toInt z
          rw [nJ (by omega), nJ (by omega)] at z
          omega
        · intro z
          rw [z]
      refine oi (p := !(dgt N n c k == h)) (by rw [zcn]; exact congrArg not eq) (fun d => ?_) (fun d => ?_)
      · rw [show (dgt N n c k == h) = false by simpa using d, Bool.false_or, show Int32.ofNat k + Int32.ofInt 1 = Int32.ofNat (k + 1) from xadd (a := k) (b := 1) (by omega)]
        exact ih (by omega) (by omega)
      · rw [show (dgt N n c k == h) = true by simpa using d]
        rfl
theorem r238 {h : Nat} {v1 v2 v3 : Int32} (hF : 100 ≤ F) (h1 : v1 = Int32.ofNat c) (h2 : v2 = Int32.ofNat n) (h3 : v3 = Int32.ofNat h) (e0 : m.1 80 0 = Int32.ofNat N) (N1 : 1 ≤ N) (hN : N ≤ 6) (hn : n ≤ 6) (hc : c < 2147483648) (hh : h < 6) : D238 F v1 v2 v3 m = some (pB ((dg N n c).any (· == h)), m) := by
  subst h1
  subst h2
  subst h3
  unfold D238
  exact r238_3 hF e0 N1 hN hn hc hh F (k := 0) (by omega) (by omega)
theorem r239_6 (hF : 100 ≤ F) (e0 : m.1 80 0 = Int32.ofNat N) (N1 : 1 ≤ N) (hN : N ≤ 6) (hn : n ≤ 6) (hc : c < 2147483648) {v1 : Int32} : ∀ (f : Nat) {a k : Nat}, a < 6 → k ≤ n → 6 - k < f → D239_6 F f v1 (Int32.ofNat c) (Int32.ofNat n) (Int32.ofNat a) (Int32.ofNat k) m = some (pB (trs (m.1 80) a ((dg N n c).drop k)), m) := by
  intro f
  induction f with
  | zero => intro a k _ _ l; omega
  | succ f ih =>
    intro a k ha hk l
    have en := nJ (n := n) (by omega)
    have ek := nJ (n := k) (by omega)
    unfold D239_6
    refine oi (p := decide ((Int32.ofNat n).toInt ≤ (Int32.ofNat k).toInt)) zc (fun h => ?_) (fun h => ?_)
    · have h := of_decide_eq_true h
      rw [show k = n by omega, dg_drop0]
      rfl
    · have h := of_decide_eq_false h
      have dl := dgt_lt (N := N) (n := n) (c := c) (k := k) N1
      refine ob (r236 hF rfl rfl rfl e0 N1 hN (by omega) hn hc) (ob (r210 rfl rfl ha (by omega)) ?_)
      rw [dg_drop (by omega)]
      show _ = some (pB (ptr (m.1 80) a (dgt N n c k) && trs (m.1 80) (dgt N n c k) ((dg N n c).drop (k + 1))), m)
      refine oi (p := ptr (m.1 80) a (dgt N n c k)) pB2 (fun d => ?_) (fun d => ?_)
      · rw [d, Bool.true_and, show Int32.ofNat k + Int32.ofInt 1 = Int32.ofNat (k + 1) from xadd (a := k) (b := 1) (by omega)]
        exact ih (by omega) (by omega) (by omega)
      · rw [d, Bool.false_and]
        rfl
theorem r239 {a : Nat} {v1 v2 v3 : Int32} (hF : 100 ≤ F) (h1 : v1 = Int32.ofNat a) (h2 : v2 = Int32.ofNat c) (h3 : v3 = Int32.ofNat n) (e0 : m.1 80 0 = Int32.ofNat N) (N1 : 1 ≤ N) (hN : N ≤ 6) (hn : n ≤ 6) (hc : c < 2147483648) (ha : a < 6) : D239 F v1 v2 v3 m = some (pB (trs (m.1 80) a (dg N n c)), m) := by
  subst h1
  subst h2
  subst h3
  unfold D239
  exact r239_6 hF e0 N1 hN hn hc F (a := a) (k := 0) ha (by omega) (by omega)
/-- rings -/
def rgk (s : Nat → Int32) (N n c k : Nat) : Bool := decide (dgt N n c 0 ≤ dgt N n c k) && !(s (82 + 6 * dgt N n c k + dgt N n c ((k + 1) % n)) == 0)
theorem r240_13 (hF : 100 ≤ F) (e0 : m.1 80 0 = Int32.ofNat N) (N1 : 1 ≤ N) (hN : N ≤ 6) (n1 : 1 ≤ n) (hn : n ≤ 6) (hc : c < 2147483648) : ∀ (f : Nat) {k : Nat}, k ≤ n → 6 - k < f → D240_13 F f (Int32.ofNat c) (Int32.ofNat n) (Int32.ofNat k) m = some (pB ((List.range' k (n - k)).all (rgk (m.1 80) N n c)), m) := by
  intro f
  induction f with
  | zero => intro k _ l; omega
  | succ f ih =>
    intro k hk l
    have en := nJ (n := n) (by omega)
    have ek := nJ (n := k) (by omega)
    unfold D240_13
    refine oi (p := decide ((Int32.ofNat n).toInt ≤ (Int32.ofNat k).toInt)) zc (fun h => ?_) (fun h => ?_)
    · have h := of_decide_eq_true h
      rw [show n - k = 0 by omega]
      rfl
    · have h := of_decide_eq_false h
      have dl := dgt_lt (N := N) (n := n) (c := c) (k := k) N1
      have d0 := dgt_lt (N := N) (n := n) (c := c) (k := 0) N1
      have d1 := dgt_lt (N := N) (n := n) (c := c) (k := (k + 1) % n) N1
      have m1 : (k + 1) % n < n := Nat.mod_lt _ (by omega)
      rw [show n - k = (n - (k + 1)) + 1 by omega, List.range'_succ, List.all_cons]
      have nx : Int32.ofNat k + Int32.ofInt 1 = Int32.ofNat (k + 1) := xadd (a := k) (b := 1) (by omega)
      have nx1 : Int32.ofNat k + 1 = Int32.ofNat (k + 1) := xadd (a := k) (b := 1) (by omega)
      refine ob (r236 hF rfl rfl rfl e0 N1 hN (by omega) hn hc) (ob (r236 (k := 0) hF rfl rfl rfl e0 N1 hN (by omega) hn hc) (oi (p := decide ((Int32.ofNat (dgt N n c k)).toInt < (Int32.ofNat (dgt N n c 0)).toInt)) zcl (fun a => ?_) (fun a => ?_)))
      · have a := of_decide_eq_true a
        rw [nJ (by omega), nJ (by omega)] at a
        unfold rgk
        rw [decide_eq_false (by omega), Bool.false_and, Bool.false_and]
        rfl
      · have a := of_decide_eq_false a
        rw [nJ (by omega), nJ (by omega)] at a
        dsimp only
        rw [if_pos (n0b (by omega) (by omega)), nx1, i32md (by omega) (by omega) (by omega)]
        refine ob (r236 hF rfl rfl rfl e0 N1 hN m1 hn hc) (ob (r211 rfl rfl (by omega) (by omega)) (oi (p := !(m.1 80 (82 + 6 * dgt N n c k + dgt N n c ((k + 1) % n)) == 0)) zcn (fun b => ?_) (fun b => ?_)))
        · rw [nx]
          have e : rgk (m.1 80) N n c k = true := by
            unfold rgk
            rw [decide_eq_true (by omega), b]
            rfl
          rw [e, Bool.true_and]
          exact ih (by omega) (by omega)
        · have e : rgk (m.1 80) N n c k = false := by
            unfold rgk
            rw [b, Bool.and_false]
          rw [e, Bool.false_and]
          rfl
def rgc (s : Nat → Int32) (N n c : Nat) : Bool := nodp 0 (dg N n c) && (List.range n).all (rgk s N n c)
theorem r240 {v1 v2 : Int32} (hF : 100 ≤ F) (h1 : v1 = Int32.ofNat c) (h2 : v2 = Int32.ofNat n) (e0 : m.1 80 0 = Int32.ofNat N) (N1 : 1 ≤ N) (hN : N ≤ 6) (n1 : 1 ≤ n) (hn : n ≤ 6) (hc : c < 2147483648) : D240 F v1 v2 m = some (pB (rgc (m.1 80) N n c), m) := by
  subst h1
  subst h2
  unfold D240 rgc
  refine ob (r237 hF rfl rfl e0 N1 hN hn hc) (oi (p := nodp 0 (dg N n c)) pB2 (fun a => ?_) (fun a => ?_))
  · rw [a, Bool.true_and, List.range_eq_range']
    have z := r240_13 (F := F) hF e0 N1 hN n1 hn hc F (k := 0) (by omega) (by omega)
    rw [Nat.sub_zero] at z
    exact z
  · rw [a, Bool.false_and]
    rfl
end PCOD
end
section
/-! Rings: the first of the shortest, by codes and by going on from house to house. -/
/-- does the one owe the other -/
def pow (s : Nat → Int32) (a d : Nat) : Bool := !(s (82 + 6 * a + d) == 0)
/-- from a on along the row, and back to l -/
def chT (s : Nat → Int32) (l a : Nat) : List Nat → Bool
  | [] => pow s a l
  | h :: r => pow s a h && chT s l h r
/-- as the class goes on -/
def okr (s : Nat → Int32) (l a b : Nat) : List Nat → Bool
  | [] => pow s a l
  | h :: r => (decide (l < h) && (pow s a h && !b.testBit h)) && okr s l h (b ||| 2 ^ h) r
/-- a ring, as a row -/
def rgR (s : Nat → Int32) : List Nat → Bool
  | [] => false
  | l :: t => okr s l l (2 ^ l) t
section PRNG
variable {s : Nat → Int32} {N n c : Nat}
theorem nodp_m : ∀ {t : List Nat} {b : Nat}, nodp b t = true → ∀ h ∈ t, b.testBit h = false
  | [], _, _, h, hh => by cases hh
  | x :: t, b, e, h, hh => by
    unfold nodp at e
    rw [Bool.and_eq_true, Bool.not_eq_true'] at e
    rcases List.mem_cons.mp hh with z | hh
    · rw [z]
      exact e.1
    · have k := nodp_m e.2 h hh
      rw [Nat.testBit_or, Bool.or_eq_false_iff] at k
      exact k.1
theorem okr_i : ∀ {t : List Nat} {l a b : Nat}, okr s l a b t = true ↔ (∀ h ∈ t, l < h) ∧ nodp b t = true ∧ chT s l a t = true
  | [], l, a, b => by
    unfold okr nodp chT
    exact ⟨fun h => ⟨fun x hx => (by cases hx), rfl, h⟩, fun h => h.2.2⟩
  | x :: t, l, a, b => by
    unfold okr nodp chT
    simp only [Bool.and_eq_true, decide_eq_true_eq, okr_i (t := t)]
    constructor
    · rintro ⟨⟨h1, h2, h3⟩, h4, h5, h6⟩
      exact ⟨fun y hy => (List.mem_cons.mp hy).elim (fun z => z ▸ h1) (h4 y), ⟨h3, h5⟩, h2, h6⟩
    · rintro ⟨h1, ⟨h3, h5⟩, h2, h6⟩
      exact ⟨⟨h1 x (List.mem_cons_self ..), h2, h3⟩, fun y hy => h1 y (List.mem_cons_of_mem _ hy), h5, h6⟩
/-- the row's neighbours, by places -/
theorem chT_i : ∀ {t : List Nat} {l a : Nat}, chT s l a t = true ↔ ∀ k, k < t.length + 1 → pow s ((a :: t).getD k 0) (if k + 1 < t.length + 1 then (a :: t).getD (k + 1) 0 else l) = true
  | [], l, a => by
    unfold chT
    constructor
    · intro h k hk
      have : k = 0 := by
        have hk : k < 1 := hk
        omega
      subst this
      exact h
    · intro h
      exact h 0 (Nat.lt_succ_self _)
  | x :: t, l, a => by
    unfold chT
    rw [Bool.and_eq_true, chT_i (t := t)]
    constructor
    · rintro ⟨h1, h2⟩ k hk
      cases k with
      | zero => exact h1
      | succ k =>
        have z := h2 k (by rw [List.length_cons] at hk; omega)
        rw [List.length_cons]
        by_cases q : k + 1 < t.length + 1
        · rw [if_pos q] at z
          rw [if_pos (by omega)]
          exact z
        · rw [if_neg q] at z
          rw [if_neg (by omega)]
          exact z
    · intro h
      refine ⟨h 0 (by rw [List.length_cons]; omega), fun k hk => ?_⟩
      have z := h (k + 1) (by rw [List.length_cons]; omega)
      rw [List.length_cons] at z
      by_cases q : k + 1 < t.length + 1
      · rw [if_pos (by omega)] at z
        rw [if_pos q]
        exact z
      · rw [if_neg (by omega)] at z
        rw [if_neg q]
        exact z
theorem dg_getD {k : Nat} (hk : k < n) : (dg N n c).getD k 0 = dgt N n c k := by
  rw [List.getD_eq_getElem?_getD, List.getElem?_eq_getElem (by rw [dg_len]; exact hk), Option.getD_some, dg_get hk]
/-- a code is a ring as its row is -/
theorem rgc_R (n1 : 1 ≤ n) : rgc s N n c = rgR s (dg N n c) := by
  obtain ⟨n', rfl⟩ : ∃ n', n = n' + 1 := ⟨n - 1, by omega⟩
  have e : dg N (n' + 1) c = dgt N (n' + 1) c 0 :: (dg N (n' + 1) c).drop 1 := by
    have z := dg_drop (N := N) (n := n' + 1) (c := c) (k := 0) (by omega)
    rw [List.drop_zero] at z
    exact z
  have tl : ((dg N (n' + 1) c).drop 1).length = n' := by rw [List.length_drop, dg_len]; omega
  have gd : ∀ k, k < n' + 1 → (dgt N (n' + 1) c 0 :: (dg N (n' + 1) c).drop 1).getD k 0 = dgt N (n' + 1) c k := fun k hk => by rw [← e, dg_getD hk]
  have mem : ∀ h, h ∈ (dg N (n' + 1) c).drop 1 → ∃ k, k < n' + 1 ∧ 0 < k ∧ h = dgt N (n' + 1) c k := fun h hh => by
    obtain ⟨i, hi, rfl⟩ := List.getElem_of_mem hh
    refine ⟨i + 1, by omega, by omega, ?_⟩
    rw [List.getElem_drop, ← dg_get (N := N) (n := n' + 1) (c := c) (k := i + 1) (by omega)]
    congr 1
    omega
  have eR : rgR s (dg N (n' + 1) c) = okr s (dgt N (n' + 1) c 0) (dgt N (n' + 1) c 0) (2 ^ dgt N (n' + 1) c 0) ((dg N (n' + 1) c).drop 1) := (congrArg (rgR s) e).trans rfl
  have eC : rgc s N (n' + 1) c = (nodp 0 (dgt N (n' + 1) c 0 :: (dg N (n' + 1) c).drop 1) && (List.range (n' + 1)).all (rgk s N (n' + 1) c)) := congrArg (fun z => nodp 0 z && (List.range (n' + 1)).all (rgk s N (n' + 1) c)) e
  rw [Bool.eq_iff_iff, eR, eC, okr_i, chT_i, tl, Bool.and_eq_true, List.all_eq_true]
  have z1 : nodp 0 (dgt N (n' + 1) c 0 :: (dg N (n' + 1) c).drop 1) = nodp (2 ^ dgt N (n' + 1) c 0) ((dg N (n' + 1) c).drop 1) := by
    show (!(0 : Nat).testBit _ && nodp (0 ||| 2 ^ _) _) = _
    rw [Nat.zero_testBit, Nat.zero_or]
    rfl
  rw [z1]
  constructor
  · rintro ⟨h1, h2⟩
    refine ⟨fun h hh => ?_, h1, fun k hk => ?_⟩
    · have nb := nodp_m h1 h hh
      obtain ⟨k, k1, k2, rfl⟩ := mem h hh
      have q := h2 k (List.mem_range.mpr k1)
      unfold rgk at q
      rw [Bool.and_eq_true, decide_eq_true_eq] at q
      have ne : dgt N (n' + 1) c k ≠ dgt N (n' + 1) c 0 := fun z => by
        rw [z, Nat.testBit_two_pow_self] at nb
        cases nb
      omega
    · have q := h2 k (List.mem_range.mpr hk)
      unfold rgk at q
      rw [Bool.and_eq_true] at q
      rw [gd k hk]
      unfold pow
      by_cases l : k + 1 < n' + 1
      · rw [if_pos l, gd (k + 1) l]
        rw [Nat.mod_eq_of_lt l] at q
        exact q.2
      · rw [if_neg l]
        rw [show k + 1 = n' + 1 by omega, Nat.mod_self] at q
        exact q.2
  · rintro ⟨h0, h1, h2⟩
    refine ⟨h1, fun k hk => ?_⟩
    have hk := List.mem_range.mp hk
    have q := h2 k hk
    rw [gd k hk] at q
    unfold pow at q
    unfold rgk
    rw [Bool.and_eq_true, decide_eq_true_eq]
    constructor
    · by_cases z : k = 0
      · rw [z]
        exact Nat.le_refl _
      · have hm : dgt N (n' + 1) c k ∈ (dg N (n' + 1) c).drop 1 := by
          rw [← dg_get (N := N) (n := n' + 1) (c := c) hk]
          have : (dg N (n' + 1) c)[k]'(by rw [dg_len]; exact hk) = ((dg N (n' + 1) c).drop 1)[k - 1]'(by omega) := by
            rw [List.getElem_drop]
            congr 1
            omega
          rw [this]
          exact List.getElem_mem _
        exact Nat.le_of_lt (h0 _ hm)
    · by_cases l : k + 1 < n' + 1
      · rw [if_pos l, gd (k + 1) l] at q
        rw [Nat.mod_eq_of_lt l]
        exact q
      · rw [if_neg l] at q
        rw [show k + 1 = n' + 1 by omega, Nat.mod_self]
        exact q
/-- as the class looks: from a on, k houses more -/
def cl (s : Nat → Int32) (N l : Nat) : Nat → Nat → Nat → Option (List Nat)
  | a, _, 0 => if pow s a l = true then some [] else none
  | a, b, k + 1 => (List.range' (l + 1) (N - (l + 1))).findSome? (fun h => if (pow s a h && !b.testBit h) = true then (cl s N l h (b ||| 2 ^ h) k).map (fun r => h :: r) else none)
theorem fs_app {α β : Type} (l1 l2 : List α) (f : α → Option β) (h : ∀ a ∈ l1, f a = none) : (l1 ++ l2).findSome? f = l2.findSome? f := by
  rw [List.findSome?_append, List.findSome?_eq_none_iff.mpr h, Option.none_or]
theorem fs_c {α β : Type} : ∀ (l : List α) (f g : α → Option β), (∀ a ∈ l, f a = g a) → l.findSome? f = l.findSome? g
  | [], _, _, _ => rfl
  | a :: l, f, g, h => by
    rw [List.findSome?_cons, List.findSome?_cons, h a (List.mem_cons_self ..), fs_c l f g (fun x hx => h x (List.mem_cons_of_mem _ hx))]
theorem cl_ff : ∀ (k : Nat) {a b l : Nat}, l < N → cl s N l a b k = ff N k (okr s l a b)
  | 0, a, b, l, _ => by
    unfold cl ff rws
    rw [List.find?_cons]
    show _ = match pow s a l with | true => _ | false => _
    cases pow s a l <;> rfl
  | k + 1, a, b, l, hl => by
    rw [ff_s]
    unfold cl
    have sp : List.range N = List.range (l + 1) ++ List.range' (l + 1) (N - (l + 1)) := by
      rw [List.range_eq_range', List.range_eq_range']
      have z := List.range'_append (s := 0) (m := l + 1) (n := N - (l + 1)) (step := 1)
      rw [Nat.one_mul, Nat.zero_add] at z
      rw [z]
      congr 1
      omega
    rw [sp, fs_app]
    · refine fs_c _ _ _ (fun h hh => ?_)
      have hl2 : l < h := by
        have := (List.mem_range'_1.mp hh).1
        omega
      by_cases q : (pow s a h && !b.testBit h) = true
      · rw [if_pos q, cl_ff k hl]
        have e : okr s l h (b ||| 2 ^ h) = fun r => okr s l a b (h :: r) := by
          funext r
          show _ = ((decide (l < h) && (pow s a h && !b.testBit h)) && okr s l h (b ||| 2 ^ h) r)
          rw [q, decide_eq_true hl2]
          rfl
        rw [e]
      · rw [if_neg q, ff_n, Option.map_none]
        intro r
        show ((decide (l < h) && (pow s a h && !b.testBit h)) && okr s l h (b ||| 2 ^ h) r) = false
        rw [bF q, Bool.and_false, Bool.false_and]
    · intro h hh
      have hl2 : ¬ l < h := by
        have := List.mem_range.mp hh
        omega
      rw [ff_n, Option.map_none]
      intro r
      show ((decide (l < h) && (pow s a h && !b.testBit h)) && okr s l h (b ||| 2 ^ h) r) = false
      rw [decide_eq_false hl2, Bool.false_and, Bool.false_and]
/-- rings of n + 1 houses, by the least -/
theorem cl_rg {k : Nat} : (List.range N).findSome? (fun l => (cl s N l l (2 ^ l) k).map (fun r => l :: r)) = ff N (k + 1) (rgR s) := by
  rw [ff_s]
  refine fs_c _ _ _ (fun l hl => ?_)
  rw [cl_ff k (List.mem_range.mp hl)]
  rfl
theorem ff_rgc {k : Nat} : ff N (k + 1) (rgR s) = ((List.range (N ^ (k + 1))).find? (rgc s N (k + 1))).map (dg N (k + 1)) := by
  rw [ff_code]
  congr 2
  funext c
  exact (rgc_R (by omega)).symm
end PRNG
end
section
/-! Rings: the reference's search and the class's. -/
/-- the first of the shortest rings: of how many houses, its code -/
def srg (s : Nat → Int32) (N : Nat) : Nat → Nat → Option (Nat × Nat)
  | 0, _ => none
  | r + 1, n => match (List.range (N ^ n)).find? (rgc s N n) with
    | some c => some (n, c)
    | none => srg s N r (n + 1)
section PSRG
variable {m : xS} {F N : Nat} {s : Nat → Int32}
theorem r241_14 {n : Nat} (hF : 100 ≤ F) (e0 : m.1 80 0 = Int32.ofNat N) (N1 : 1 ≤ N) (hN : N ≤ 6) (n1 : 1 ≤ n) (hn : n ≤ 6) {g2 : Int32 → xS → Option (Int32 × xS)} : ∀ (f : Nat) {c : Nat}, c ≤ N ^ n → N ^ n - c < f → D241_14 F g2 f (Int32.ofNat n) (Int32.ofNat c) m = match (List.range' c (N ^ n - c)).find? (rgc (m.1 80) N n) with
    | some c' => some (Int32.ofNat n, xu m 70 26 (Int32.ofNat c'))
    | none => g2 (Int32.ofNat (n + 1)) m := by
  have pb := p6b (N := N) (k := n) (by omega) hn
  intro f
  induction f with
  | zero => intro c _ l; omega
  | succ f ih =>
    intro c hc l
    have ec := xI (a := c) (by omega)
    have ep := xI (a := N ^ n) (by omega)
    unfold D241_14
    refine ob (r235 hF e0 rfl N1 (by omega) hn) (oi (p := decide ((Int32.ofNat (N ^ n)).toInt ≤ (Int32.ofNat c).toInt)) zc (fun h => ?_) (fun h => ?_))
    · have h := of_decide_eq_true h
      rw [show N ^ n - c = 0 by omega, show Int32.ofNat n + Int32.ofInt 1 = Int32.ofNat (n + 1) from xadd (a := n) (b := 1) (by omega)]
      rfl
    · have h := of_decide_eq_false h
      rw [show N ^ n - c = (N ^ n - (c + 1)) + 1 by omega, List.range'_succ, List.find?_cons]
      refine ob (r240 hF rfl rfl e0 N1 hN n1 hn (by omega)) (oi (p := rgc (m.1 80) N n c) pB2 (fun a => ?_) (fun a => ?_))
      · rw [a]
      · rw [a, show Int32.ofNat c + Int32.ofInt 1 = Int32.ofNat (c + 1) from xadd (a := c) (b := 1) (by omega)]
        exact ih (by omega) (by omega)
theorem r241_2 (hF : 120000 ≤ F) (e0 : m.1 80 0 = Int32.ofNat N) (N1 : 1 ≤ N) (hN : N ≤ 6) : ∀ (f : Nat) {n r : Nat}, n + r = N + 1 → 1 ≤ n → r < f → D241_2 F f (Int32.ofNat n) m = match srg (m.1 80) N r n with
    | some q => some (Int32.ofNat q.1, xu m 70 26 (Int32.ofNat q.2))
    | none => some (0, m) := by
  intro f
  induction f with
  | zero => intro n r _ _ l; omega
  | succ f ih =>
    intro n r hr n1 l
    have en := nJ (n := n) (by omega)
    have eN := nJ (n := N) (by omega)
    unfold D241_2
    rw [e0]
    refine oi (p := decide ((Int32.ofNat N).toInt < (Int32.ofNat n).toInt)) zcgt (fun h => ?_) (fun h => ?_)
    · have h := of_decide_eq_true h
      rw [show r = 0 by omega]
      rfl
    · have h := of_decide_eq_false h
      obtain ⟨r', rfl⟩ : ∃ r', r = r' + 1 := ⟨r - 1, by omega⟩
      have pb := p6b (N := N) (k := n) (by omega) (by omega)
      have z := r241_14 (F := F) (n := n) (by omega) e0 N1 hN n1 (by omega) (g2 := D241_2 F f) F (c := 0) (by omega) (by omega)
      rw [Nat.sub_zero, ← List.range_eq_range'] at z
      refine z.trans ?_
      unfold srg
      cases (List.range (N ^ n)).find? (rgc (m.1 80) N n) with
      | some c => rfl
      | none => exact ih (by omega) (by omega) (by omega)
theorem r241 (hF : 120000 ≤ F) (e0 : m.1 80 0 = Int32.ofNat N) (N1 : 1 ≤ N) (hN : N ≤ 6) : D241 F m = match srg (m.1 80) N (N - 1) 2 with
    | some q => some (Int32.ofNat q.1, xu m 70 26 (Int32.ofNat q.2))
    | none => some (0, m) := by
  unfold D241
  exact r241_2 hF e0 N1 hN F (n := 2) (by omega) (by omega) (by omega)
theorem tbn {b h : Nat} (hb : b < 64) (hh : h < 6) : zcmp .ne ((Int32.ofNat b >>> (Int32.ofNat h &&& 31)) &&& 1) 0 = b.testBit h := by
  have key : (List.range 64).all (fun b => (List.range 6).all (fun h => zcmp .ne ((Int32.ofNat b >>> (Int32.ofNat h &&& 31)) &&& 1) 0 == b.testBit h)) = true := by decide +kernel
  exact eq_of_beq (List.all_eq_true.mp (List.all_eq_true.mp key b (List.mem_range.mpr hb)) h (List.mem_range.mpr hh))
theorem b2p {h : Nat} (hh : h < 6) : ((1 : Int32) <<< (Int32.ofNat h &&& 31)) = Int32.ofNat (2 ^ h) ∧ 2 ^ h < 64 := by
  have key : (List.range 6).all (fun h => ((1 : Int32) <<< (Int32.ofNat h &&& 31)) == Int32.ofNat (2 ^ h) && decide (2 ^ h < 64)) = true := by decide +kernel
  have k := List.all_eq_true.mp key h (List.mem_range.mpr hh)
  rw [Bool.and_eq_true] at k
  exact ⟨eq_of_beq k.1, of_decide_eq_true k.2⟩
/-- what the class's row keeps -/
def Rw (m m' : xS) (f : Nat) : Prop := (∀ a, a ≠ 68 → m'.1 a = m.1 a) ∧ ∀ j, j < f → m'.1 68 j = m.1 68 j
theorem Rw_t {m1 m2 m3 : xS} {f : Nat} (h1 : Rw m1 m2 f) (h2 : Rw m2 m3 f) : Rw m1 m3 f := ⟨fun a ha => (h2.1 a ha).trans (h1.1 a ha), fun j hj => (h2.2 j hj).trans (h1.2 j hj)⟩
/-- what a search comes to -/
def cQr (m : xS) (f k : Nat) (o : Option (List Nat)) (D : Option (Int32 × xS)) : Prop := ∃ m', Rw m m' f ∧ (match o with
  | some t => D = some (1, m') ∧ t.length = k ∧ ∀ j, j < k → m'.1 68 (f + j) = Int32.ofNat (t.getD j 0)
  | none => D = some (0, m'))
theorem pow0 (I : vI s) {a d : Nat} (ha : a < 6) (hd : d < 6) : zcmp .le (s (82 + 6 * a + d)) 0 = !pow s a d := by
  have b := I.2.2.2.2 a d ha hd
  rw [zcle]
  unfold pow
  rw [Bool.not_not]
  by_cases z : s (82 + 6 * a + d) = 0
  · rw [z]
    rfl
  · have nz : (s (82 + 6 * a + d)).toInt ≠ 0 := fun y => z (Int32.toInt_inj.mp y)
    rw [decide_eq_false (by show ¬ _ ≤ (0 : Int); omega)]
    simp [z]
section E64
variable {a b f h fu : Nat} {slf : Int32 → Int32 → Int32 → xS → Option (Int32 × xS)}
theorem e64_1 (R : R32 s (m.1 10)) (e0 : s 0 = Int32.ofNat N) (hN : N ≤ 6) (hh : h < 2000) (l : N ≤ h) : D64_67_9_46 F slf (fu + 1) (Int32.ofNat a) (Int32.ofNat b) (Int32.ofNat f) (Int32.ofNat h) m = some (0, m) := by
  have eh := nJ (n := h) hh
  have eN := nJ (n := N) (by omega)
  unfold D64_67_9_46
  exact ob (c77_9 R) (oT (zc.trans (decide_eq_true (by show (s 0).toInt ≤ _; rw [e0]; omega))) rfl)
theorem e64_2 (I : vI s) (R : R32 s (m.1 10)) (e0 : s 0 = Int32.ofNat N) (hN : N ≤ 6) (ha : a < 6) (hb : b < 64) (l : h < N) (q : pow s a h = false ∨ b.testBit h = true) : D64_67_9_46 F slf (fu + 1) (Int32.ofNat a) (Int32.ofNat b) (Int32.ofNat f) (Int32.ofNat h) m = D64_67_9_105 F slf (D64_67_9_46 F slf fu) (Int32.ofNat a) (Int32.ofNat b) (Int32.ofNat f) (Int32.ofNat h) m := by
  have eh := nJ (n := h) (by omega)
  have eN := nJ (n := N) (by omega)
  have k := pow0 I ha (d := h) (by omega)
  conv => lhs; unfold D64_67_9_46
  refine ob (c77_9 R) (oF (zc.trans (decide_eq_false (by show ¬ (s 0).toInt ≤ _; rw [e0]; omega))) (ob (c94_9 R rfl rfl ha (by omega)) ?_))
  by_cases p1 : pow s a h = true
  · rw [p1] at k
    rcases q with q | q
    · rw [p1] at q
      cases q
    · exact oF k (oT ((tbn hb (by omega)).trans q) rfl)
  · rw [bF p1] at k
    exact oT k rfl
theorem e64_3 {v : Int32} {m1 : xS} (I : vI s) (R : R32 s (m.1 10)) (e0 : s 0 = Int32.ofNat N) (hN : N ≤ 6) (ha : a < 6) (hb : b < 64) (hf : f < 6) (l : h < N) (p1 : pow s a h = true) (p2 : b.testBit h = false) (d : slf (Int32.ofNat h) (Int32.ofNat (b ||| 2 ^ h)) (Int32.ofNat (f + 1)) (xu m 68 f (Int32.ofNat h)) = some (v, m1)) : D64_67_9_46 F slf (fu + 1) (Int32.ofNat a) (Int32.ofNat b) (Int32.ofNat f) (Int32.ofNat h) m = if zcmp .eq v 0 = true then D64_67_9_105 F slf (D64_67_9_46 F slf fu) (Int32.ofNat a) (Int32.ofNat b) (Int32.ofNat f) (Int32.ofNat h) m1 else some (1, m1) := by
  have eh := nJ (n := h) (by omega)
  have eN := nJ (n := N) (by omega)
  have k := pow0 I ha (d := h) (by omega)
  rw [p1] at k
  have nx1 : Int32.ofNat f + 1 = Int32.ofNat (f + 1) := xadd (a := f) (b := 1) (by omega)
  conv => lhs; unfold D64_67_9_46
  refine ob (c77_9 R) (oF (zc.trans (decide_eq_false (by show ¬ (s 0).toInt ≤ _; rw [e0]; omega))) (ob (c94_9 R rfl rfl ha (by omega)) (oF k (oF ((tbn hb (by omega)).trans p2) (oT (gxb (nJ (by omega)) hf) (ob (a := v) (m := m1) ?_ rfl))))))
  dsimp only
  rw [(bor hb (by omega)).1, nx1, gxn (nJ (n := f) (by omega))]
  exact d
end E64
theorem c64_46 {n l a b f k : Nat} (I : vI s) (e0 : s 0 = Int32.ofNat N) (hN : N ≤ 6) (ha : a < 6) (hb : b < 64) (hf1 : 1 ≤ f) (hf : f < 6) {slf : Int32 → Int32 → Int32 → xS → Option (Int32 × xS)} (hs : ∀ {h : Nat} {m : xS}, h < N → R32 s (m.1 10) → m.1 67 1 = Int32.ofNat n → m.1 68 0 = Int32.ofNat l → cQr m (f + 1) k (cl s N l h (b ||| 2 ^ h) k) (slf (Int32.ofNat h) (Int32.ofNat (b ||| 2 ^ h)) (Int32.ofNat (f + 1)) m)) : ∀ (fu : Nat) {h : Nat} {m : xS}, h ≤ N → N - h < fu → R32 s (m.1 10) → m.1 67 1 = Int32.ofNat n → m.1 68 0 = Int32.ofNat l → cQr m f (k + 1) ((List.range' h (N - h)).findSome? (fun h => if (pow s a h && !b.testBit h) = true then (cl s N l h (b ||| 2 ^ h) k).map (fun r => h :: r) else none)) (D64_67_9_46 F slf fu (Int32.ofNat a) (Int32.ofNat b) (Int32.ofNat f) (Int32.ofNat h) m) := by
  intro fu
  induction fu with
  | zero => intro h m _ lf; omega
  | succ fu ih =>
    intro h m hh lf R e67 e68
    by_cases hN2 : N ≤ h
    · rw [show N - h = 0 by omega, e64_1 R e0 hN (by omega) hN2]
      exact ⟨m, ⟨fun _ _ => rfl, fun _ _ => rfl⟩, rfl⟩
    · have next : ∀ {m : xS}, R32 s (m.1 10) → m.1 67 1 = Int32.ofNat n → m.1 68 0 = Int32.ofNat l → cQr m f (k + 1) ((List.range' (h + 1) (N - (h + 1))).findSome? (fun h => if (pow s a h && !b.testBit h) = true then (cl s N l h (b ||| 2 ^ h) k).map (fun r => h :: r) else none)) (D64_67_9_105 F slf (D64_67_9_46 F slf fu) (Int32.ofNat a) (Int32.ofNat b) (Int32.ofNat f) (Int32.ofNat h) m) := fun {m} R e67 e68 => by
        unfold D64_67_9_105
        rw [show Int32.ofNat h + Int32.ofInt 1 = Int32.ofNat (h + 1) from xadd (a := h) (b := 1) (by omega)]
        exact ih (by omega) (by omega) R e67 e68
      rw [show N - h = (N - (h + 1)) + 1 by omega, List.range'_succ, List.findSome?_cons]
      by_cases p : (pow s a h && !b.testBit h) = true
      · rw [if_pos p]
        rw [Bool.and_eq_true, Bool.not_eq_true'] at p
        have R2 : R32 s ((xu m 68 f (Int32.ofNat h)).1 10) := by
          have : (xu m 68 f (Int32.ofNat h)).1 10 = m.1 10 := funext fun j => xu_o (fun z => absurd z.1 (by decide))
          rw [this]
          exact R
        obtain ⟨m1, w1, q1⟩ := hs (h := h) (m := xu m 68 f (Int32.ofNat h)) (by omega) R2 ((xu_o (by omega)).trans e67) ((xu_o (by omega)).trans e68)
        have wm : Rw m m1 f := ⟨fun a ha => (w1.1 a ha).trans (funext fun j => xu_o (fun z => ha z.1)), fun j hj => (w1.2 j (by omega)).trans (xu_o (by omega))⟩
        cases e : cl s N l h (b ||| 2 ^ h) k with
        | some t =>
          rw [e] at q1
          obtain ⟨d1, d2, d3⟩ := q1
          rw [e64_3 I R e0 hN ha hb hf (by omega) p.1 p.2 d1]
          refine ⟨m1, wm, oF (by decide) rfl, by rw [List.length_cons, d2], fun j hj => ?_⟩
          cases j with
          | zero => exact (w1.2 f (by omega)).trans (xu_s _ _ _ _)
          | succ j =>
            rw [show f + (j + 1) = f + 1 + j by omega, d3 j (by omega)]
            rfl
        | none =>
          rw [e] at q1
          rw [e64_3 I R e0 hN ha hb hf (by omega) p.1 p.2 q1, if_pos (by decide)]
          have k68 : m1.1 68 0 = Int32.ofNat l := (wm.2 0 hf1).trans e68
          have k67 : m1.1 67 1 = Int32.ofNat n := by rw [wm.1 67 (by decide)]; exact e67
          obtain ⟨m', w, q⟩ := next (m := m1) (by rw [wm.1 10 (by decide)]; exact R) k67 k68
          exact ⟨m', Rw_t wm w, q⟩
      · rw [if_neg p, e64_2 I R e0 hN ha hb (by omega) (by
          cases e1 : pow s a h with
          | false => exact Or.inl rfl
          | true =>
            rw [e1] at p
            cases e2 : b.testBit h with
            | true => exact Or.inr rfl
            | false => rw [e2] at p; exact absurd rfl p)]
        exact next R e67 e68
/-- closes -/
theorem c64 {n l : Nat} (hF : 100 ≤ F) (I : vI s) (e0 : s 0 = Int32.ofNat N) (hN : N ≤ 6) (hn : n ≤ 6) (hl : l < N) : ∀ (g : Nat) {a b f k : Nat} {m : xS}, k < g → f + k = n → 1 ≤ f → a < 6 → b < 64 → R32 s (m.1 10) → m.1 67 1 = Int32.ofNat n → m.1 68 0 = Int32.ofNat l → cQr m f k (cl s N l a b k) (D64_67_9r F g (Int32.ofNat a) (Int32.ofNat b) (Int32.ofNat f) m) := by
  intro g
  induction g with
  | zero => intro a b f k m lk; omega
  | succ g ih =>
    intro a b f k m lk hfk hf ha hb R e67 e68
    have ef := nJ (n := f) (by omega)
    have en := nJ (n := n) (by omega)
    show cQr m f k (cl s N l a b k) (D64_67_9 F (D64_67_9r F g) (Int32.ofNat a) (Int32.ofNat b) (Int32.ofNat f) m)
    unfold D64_67_9
    rw [e67]
    cases k with
    | zero =>
      rw [if_pos (zc.trans (decide_eq_true (by omega)))]
      unfold D64_67_9_16 cl
      refine ⟨m, ⟨fun _ _ => rfl, fun _ _ => rfl⟩, ?_⟩
      have k := pow0 I ha (d := l) (by omega)
      by_cases p : pow s a l = true
      · rw [if_pos p]
        rw [p] at k
        exact ⟨ob (c94_9 R rfl e68 ha (by omega)) (oF k rfl), rfl, fun j hj => absurd hj (Nat.not_lt_zero j)⟩
      · rw [if_neg p]
        rw [bF p] at k
        exact ob (c94_9 R rfl e68 ha (by omega)) (oT k rfl)
    | succ k =>
      have nz : ¬ zcmp .ge (Int32.ofNat f) (Int32.ofNat n) = true := by
        rw [zc, decide_eq_false (by omega)]
        decide
      have l6 : zcmp .lt (Int32.ofNat f) 6 = true := zcl.trans (decide_eq_true (by show _ < (6 : Int); omega))
      rw [if_neg nz, if_pos l6, e68, show Int32.ofNat l + 1 = Int32.ofNat (l + 1) from xadd (a := l) (b := 1) (by omega)]
      unfold cl
      exact c64_46 I e0 hN ha hb hf (by omega) (fun {h m} hh R e67 e68 => ih (by omega) (by omega) (by omega) (by omega) (bor hb (by omega)).2 R e67 e68) F (by omega) (by omega) R e67 e68
end PSRG
end
section
/-! Rings: the class finds what the reference finds. -/
section PSRH
variable {m : xS} {F N : Nat} {s : Nat → Int32}
/-- the row of a ring stands -/
def rgO (m : xS) (N : Nat) (q : Nat × Nat) : Prop := m.1 67 1 = Int32.ofNat q.1 ∧ ∀ j, j < q.1 → m.1 68 j = Int32.ofNat (dgt N q.1 q.2 j)
theorem c63_17 {n : Nat} (hF : 100 ≤ F) (I : vI s) (e0 : s 0 = Int32.ofNat N) (hN : N ≤ 6) (n2 : 1 ≤ n) (hn : n ≤ 6) {g2 : Int32 → xS → Option (Unit × xS)} : ∀ (fu : Nat) {l : Nat} {m : xS}, l ≤ N → N - l < fu → R32 s (m.1 10) → m.1 67 1 = Int32.ofNat n → ∃ m' : xS, (∀ a, a ≠ 68 → m'.1 a = m.1 a) ∧ (match (List.range' l (N - l)).findSome? (fun l => (cl s N l l (2 ^ l) (n - 1)).map (fun r => l :: r)) with
    | some r => D63_67_9_17 F g2 fu (Int32.ofNat n) (Int32.ofNat l) m = some ((), m') ∧ ∀ j, j < n → m'.1 68 j = Int32.ofNat (r.getD j 0)
    | none => D63_67_9_17 F g2 fu (Int32.ofNat n) (Int32.ofNat l) m = g2 (Int32.ofNat (n + 1)) m') := by
  intro fu
  induction fu with
  | zero => intro l m _ lf; omega
  | succ fu ih =>
    intro l m hl lf R e67
    have el := nJ (n := l) (by omega)
    have eN := nJ (n := N) (by omega)
    by_cases hN2 : N ≤ l
    · rw [show N - l = 0 by omega]
      refine ⟨m, fun _ _ => rfl, ?_⟩
      show D63_67_9_17 F g2 (fu + 1) (Int32.ofNat n) (Int32.ofNat l) m = _
      unfold D63_67_9_17
      refine ob (c77_9 R) (oT (zc.trans (decide_eq_true (by show (s 0).toInt ≤ _; rw [e0]; omega))) ?_)
      rw [show Int32.ofNat n + Int32.ofInt 1 = Int32.ofNat (n + 1) from xadd (a := n) (b := 1) (by omega)]
    · rw [show N - l = (N - (l + 1)) + 1 by omega, List.range'_succ, List.findSome?_cons]
      have R2 : R32 s ((xu m 68 0 (Int32.ofNat l)).1 10) := by
        have : (xu m 68 0 (Int32.ofNat l)).1 10 = m.1 10 := funext fun j => xu_o (fun z => absurd z.1 (by decide))
        rw [this]
        exact R
      have b2 := b2p (h := l) (by omega)
      obtain ⟨m1, w, q⟩ := c64 (F := F) (n := n) (l := l) (s := s) (N := N) hF I e0 hN hn (by omega) 7 (a := l) (b := 2 ^ l) (f := 1) (k := n - 1) (m := xu m 68 0 (Int32.ofNat l)) (by omega) (by omega) (by omega) (by omega) b2.2 R2 ((xu_o (by omega)).trans e67) (xu_s _ _ _ _)
      have wo : ∀ a, a ≠ 68 → m1.1 a = m.1 a := fun a ha => (w.1 a ha).trans (funext fun j => xu_o (fun z => ha z.1))
      have eq : ∀ {v : Int32}, D64_67_9r F 7 (Int32.ofNat l) (Int32.ofNat (2 ^ l)) (Int32.ofNat 1) (xu m 68 0 (Int32.ofNat l)) = some (v, m1) → D63_67_9_17 F g2 (fu + 1) (Int32.ofNat n) (Int32.ofNat l) m = if zcmp .eq v 0 = true then D63_67_9_17 F g2 fu (Int32.ofNat n) (Int32.ofNat l + Int32.ofInt 1) m1 else some ((), m1) := fun {v} d => by
        conv => lhs; unfold D63_67_9_17
        refine ob (c77_9 R) (oF (zc.trans (decide_eq_false (by show ¬ (s 0).toInt ≤ _; rw [e0]; omega))) (ob (a := v) (m := m1) ?_ rfl))
        dsimp only
        rw [b2.1]
        exact d
      cases e : cl s N l l (2 ^ l) (n - 1) with
      | some t =>
        rw [e] at q
        obtain ⟨d1, d2, d3⟩ := q
        refine ⟨m1, wo, ?_, fun j hj => ?_⟩
        · rw [eq d1]
          exact oF (by decide) rfl
        · cases j with
          | zero => exact (w.2 0 (by omega)).trans (xu_s _ _ _ _)
          | succ j =>
            rw [show j + 1 = 1 + j by omega, d3 j (by omega), show 1 + j = j + 1 by omega]
            rfl
      | none =>
        rw [e] at q
        rw [eq q, if_pos (by decide), show Int32.ofNat l + Int32.ofInt 1 = Int32.ofNat (l + 1) from xadd (a := l) (b := 1) (by omega)]
        obtain ⟨m', w', q'⟩ := ih (l := l + 1) (m := m1) (by omega) (by omega) (by rw [wo 10 (by decide)]; exact R) (by rw [wo 67 (by decide)]; exact e67)
        exact ⟨m', fun a ha => (w' a ha).trans (wo a ha), q'⟩
theorem c63_2 (hF : 100 ≤ F) (I : vI s) (e0 : s 0 = Int32.ofNat N) (hN : N ≤ 6) : ∀ (fu : Nat) {n : Nat} {m : xS}, 1 ≤ n → N + 1 - n < fu → n < 2000 → R32 s (m.1 10) → ∃ m' : xS, D63_67_9_2 F fu (Int32.ofNat n) m = some ((), m') ∧ (∀ a, a ≠ 67 → a ≠ 68 → m'.1 a = m.1 a) ∧ (match srg s N (N + 1 - n) n with
    | some q => rgO m' N q
    | none => m'.1 67 1 = 0) := by
  intro fu
  induction fu with
  | zero => intro n m _ lf; omega
  | succ fu ih =>
    intro n m n1 lf n2 R
    have en := nJ (n := n) (by omega)
    have eN := nJ (n := N) (by omega)
    by_cases h : N < n
    · rw [show N + 1 - n = 0 by omega]
      refine ⟨xu m 67 1 0, ?_, fun a h1 h2 => funext fun j => xu_o (fun z => h1 z.1), xu_s _ _ _ _⟩
      unfold D63_67_9_2
      exact ob (c77_9 R) (oT (zcgt.trans (decide_eq_true (by show (s 0).toInt < _; rw [e0]; omega))) rfl)
    · have R2 : R32 s ((xu m 67 1 (Int32.ofNat n)).1 10) := by
        have : (xu m 67 1 (Int32.ofNat n)).1 10 = m.1 10 := funext fun j => xu_o (fun z => absurd z.1 (by decide))
        rw [this]
        exact R
      have w0 : ∀ a, a ≠ 67 → (xu m 67 1 (Int32.ofNat n)).1 a = m.1 a := fun a ha => funext fun j => xu_o (fun z => ha z.1)
      obtain ⟨m1, w, q⟩ := c63_17 (F := F) (n := n) hF I e0 hN n1 (by omega) (g2 := D63_67_9_2 F fu) F (l := 0) (m := xu m 67 1 (Int32.ofNat n)) (by omega) (by omega) R2 (xu_s _ _ _ _)
      have wo : ∀ a, a ≠ 67 → a ≠ 68 → m1.1 a = m.1 a := fun a h1 h2 => (w a h2).trans (w0 a h1)
      have st : D63_67_9_2 F (fu + 1) (Int32.ofNat n) m = D63_67_9_17 F (D63_67_9_2 F fu) F (Int32.ofNat n) 0 (xu m 67 1 (Int32.ofNat n)) := by
        conv => lhs; unfold D63_67_9_2
        exact ob (c77_9 R) (oF (zcgt.trans (decide_eq_false (by show ¬ (s 0).toInt < _; rw [e0]; omega))) rfl)
      rw [Nat.sub_zero, ← List.range_eq_range'] at q
      obtain ⟨k, rfl⟩ : ∃ k, n = k + 1 := ⟨n - 1, by omega⟩
      rw [show k + 1 - 1 = k by omega, cl_rg, ff_rgc] at q
      rw [show N + 1 - (k + 1) = (N + 1 - (k + 1 + 1)) + 1 by omega]
      unfold srg
      rw [st]
      cases e : (List.range (N ^ (k + 1))).find? (rgc s N (k + 1)) with
      | some c =>
        rw [e] at q
        obtain ⟨d1, d2⟩ := q
        refine ⟨m1, d1, wo, ?_, fun j hj => ?_⟩
        · rw [w 67 (by decide)]
          exact xu_s _ _ _ _
        · have hj : j < k + 1 := hj
          rw [d2 j hj, dg_getD hj]
      | none =>
        rw [e] at q
        obtain ⟨m', d1, w', q'⟩ := ih (n := k + 1 + 1) (m := m1) (by omega) (by omega) (by omega) (by rw [wo 10 (by decide) (by decide)]; exact R)
        exact ⟨m', q.trans d1, fun a h1 h2 => (w' a h1 h2).trans (wo a h1 h2), q'⟩
/-- findShortest -/
theorem c63 (hF : 100 ≤ F) (I : vI s) (e0 : s 0 = Int32.ofNat N) (hN : N ≤ 6) (R : R32 s (m.1 10)) : ∃ m' : xS, D63_67_9 F m = some ((), m') ∧ (∀ a, a ≠ 67 → a ≠ 68 → m'.1 a = m.1 a) ∧ (match srg s N (N - 1) 2 with
    | some q => rgO m' N q
    | none => m'.1 67 1 = 0) := by
  have z := c63_2 (F := F) hF I e0 hN F (n := 2) (m := m) (by omega) (by omega) (by omega) R
  rw [show N + 1 - 2 = N - 1 by omega] at z
  exact z
theorem srg_i : ∀ {r n : Nat} {q : Nat × Nat}, srg s N r n = some q → n ≤ q.1 ∧ q.1 < n + r ∧ q.2 < N ^ q.1 ∧ rgc s N q.1 q.2 = true
  | 0, _, _, h => by cases h
  | r + 1, n, q, h => by
    unfold srg at h
    split at h
    · next c hc =>
      cases h
      have a := List.find?_some hc
      have b := List.mem_of_find?_eq_some hc
      exact ⟨Nat.le_refl _, by omega, List.mem_range.mp b, a⟩
    · have z := srg_i h
      exact ⟨by omega, by omega, z.2.2⟩
/-- a ring's thanks are each one less -/
def pst (s : Nat → Int32) (N n c : Nat) : Nat → Nat → Nat → Int32
  | _, 0 => s
  | k, r + 1 => pst (prg s (dgt N n c k) (dgt N n c ((k + 1) % n))) N n c (k + 1) r
end PSRH
end
section
/-! ring, in pairs. -/
section PSET
variable {m : xS} {F N : Nat} {s : Nat → Int32}
theorem nodp_n : ∀ {t : List Nat} {b : Nat}, nodp b t = true → t.Pairwise (· ≠ ·)
  | [], _, _ => List.Pairwise.nil
  | h :: t, b, e => by
    unfold nodp at e
    rw [Bool.and_eq_true] at e
    refine List.Pairwise.cons (fun x hx z => ?_) (nodp_n e.2)
    have k := nodp_m e.2 x hx
    rw [Nat.testBit_or, ← z, Nat.testBit_two_pow_self, Bool.or_true] at k
    cases k
theorem dg_ne {n c i j : Nat} (e : nodp 0 (dg N n c) = true) (hi : i < n) (hj : j < n) (ne : i ≠ j) : dgt N n c i ≠ dgt N n c j := by
  have p := List.pairwise_iff_getElem.mp (nodp_n e)
  have k : ∀ i j, i < j → j < n → dgt N n c i ≠ dgt N n c j := fun i j h1 h2 => by
    have z := p i j (by rw [dg_len]; omega) (by rw [dg_len]; exact h2) h1
    rw [dg_get (by omega), dg_get h2] at z
    exact z
  rcases Nat.lt_or_gt_of_ne ne with h | h
  · exact k i j h hj
  · exact fun z => k j i h hi z.symm
theorem pst_o {n c : Nat} (N1 : 1 ≤ N) (hN : N ≤ 6) {j : Nat} (hj : j < 82 ∨ 118 ≤ j) : ∀ (r : Nat) {s : Nat → Int32} {k : Nat}, pst s N n c k r j = s j
  | 0, _, _ => rfl
  | r + 1, s, k => by
    show pst (prg s (dgt N n c k) (dgt N n c ((k + 1) % n))) N n c (k + 1) r j = s j
    have d1 := dgt_lt (N := N) (n := n) (c := c) (k := k) N1
    have d2 := dgt_lt (N := N) (n := n) (c := c) (k := (k + 1) % n) N1
    rw [pst_o N1 hN hj r]
    exact cup_o (by omega)
/-- each owes the next one still -/
def pok (s : Nat → Int32) (N n c k : Nat) : Prop := ∀ i, k ≤ i → i < n → pow s (dgt N n c i) (dgt N n c ((i + 1) % n)) = true
theorem pok_s {n c k : Nat} (N1 : 1 ≤ N) (hN : N ≤ 6) (e : nodp 0 (dg N n c) = true) (hk : k < n) (h : pok s N n c k) : pok (prg s (dgt N n c k) (dgt N n c ((k + 1) % n))) N n c (k + 1) := fun i h1 h2 => by
  have z := h i (by omega) h2
  have ne := dg_ne e h2 hk (by omega)
  have a1 := dgt_lt (N := N) (n := n) (c := c) (k := k) N1
  have a2 := dgt_lt (N := N) (n := n) (c := c) (k := (k + 1) % n) N1
  have a3 := dgt_lt (N := N) (n := n) (c := c) (k := i) N1
  have a4 := dgt_lt (N := N) (n := n) (c := c) (k := (i + 1) % n) N1
  unfold pow at z ⊢
  rw [show prg s (dgt N n c k) (dgt N n c ((k + 1) % n)) (82 + 6 * dgt N n c i + dgt N n c ((i + 1) % n)) = s (82 + 6 * dgt N n c i + dgt N n c ((i + 1) % n)) from cup_o (by omega)]
  exact z
theorem pok_0 {n c : Nat} (h : rgc s N n c = true) : pok s N n c 0 := fun i _ hi => by
  unfold rgc at h
  rw [Bool.and_eq_true, List.all_eq_true] at h
  have z := h.2 i (List.mem_range.mpr hi)
  unfold rgk at z
  rw [Bool.and_eq_true] at z
  exact z.2
theorem I_ps {n c : Nat} (N1 : 1 ≤ N) (hN : N ≤ 6) (n2 : 2 ≤ n) (e : nodp 0 (dg N n c) = true) : ∀ (r : Nat) {s : Nat → Int32} {k : Nat}, k + r = n → vI s → pok s N n c k → vI (pst s N n c k r)
  | 0, _, _, _, I, _ => I
  | r + 1, s, k, hk, I, P => by
    show vI (pst (prg s (dgt N n c k) (dgt N n c ((k + 1) % n))) N n c (k + 1) r)
    have a1 := dgt_lt (N := N) (n := n) (c := c) (k := k) N1
    have a2 := dgt_lt (N := N) (n := n) (c := c) (k := (k + 1) % n) N1
    have l := Nat.mod_lt (k + 1) (show 0 < n by omega)
    have ne : k ≠ (k + 1) % n := by
      by_cases z : k + 1 < n
      · rw [Nat.mod_eq_of_lt z]
        omega
      · rw [show k + 1 = n by omega, Nat.mod_self]
        omega
    have b := I.2.2.2.2 (dgt N n c k) (dgt N n c ((k + 1) % n)) (by omega) (by omega)
    have p := P k (Nat.le_refl _) (by omega)
    refine I_ps N1 hN n2 e r (by omega) (I_rg I (by omega) (by omega) (dg_ne e (by omega) l ne) ?_) (pok_s N1 hN e (by omega) P)
    unfold pow at p
    have nz : (s (82 + 6 * dgt N n c k + dgt N n c ((k + 1) % n))).toInt ≠ 0 := fun z => by
      rw [show s (82 + 6 * dgt N n c k + dgt N n c ((k + 1) % n)) = 0 from Int32.toInt_inj.mp z] at p
      exact absurd p (by decide)
    omega
/-- settle -/
theorem c65_2 {n c : Nat} (N1 : 1 ≤ N) (hN : N ≤ 6) (n2 : 2 ≤ n) (hn : n ≤ 6) : ∀ (fu : Nat) {k : Nat} {s : Nat → Int32} {m : xS}, k ≤ n → n - k < fu → R32 s (m.1 10) → rgO m N (n, c) → ∃ c', D65_67_9_2 F fu (Int32.ofNat k) m = some ((), xr m 10 c') ∧ R32 (pst s N n c k (n - k)) c' := by
  intro fu
  induction fu with
  | zero => intro k s m _ lf; omega
  | succ fu ih =>
    intro k s m hk lf R O
    have ek := nJ (n := k) (by omega)
    have en := nJ (n := n) (by omega)
    have O1 : m.1 67 1 = Int32.ofNat n := O.1
    by_cases h : n ≤ k
    · rw [show n - k = 0 by omega]
      refine ⟨m.1 10, ?_, R⟩
      rw [xr_id]
      unfold D65_67_9_2
      rw [O1]
      exact oT (zc.trans (decide_eq_true (by omega))) rfl
    · have hkn : k < n := by omega
      have a1 := dgt_lt (N := N) (n := n) (c := c) (k := k) N1
      have a2 := dgt_lt (N := N) (n := n) (c := c) (k := (k + 1) % n) N1
      have l := Nat.mod_lt (k + 1) (show 0 < n by omega)
      have r1 : m.1 68 k = Int32.ofNat (dgt N n c k) := O.2 k hkn
      have ik : xib (Int32.ofNat k) 6 = true := gxb ek (by omega)
      rw [show n - k = (n - (k + 1)) + 1 by omega]
      show ∃ c', _ ∧ R32 (pst (prg s (dgt N n c k) (dgt N n c ((k + 1) % n))) N n c (k + 1) (n - (k + 1))) c'
      have R2 := R_uh (v := s (82 + 6 * dgt N n c k + dgt N n c ((k + 1) % n)) - 1) R (a := dgt N n c k) (d := dgt N n c ((k + 1) % n)) (by omega) (by omega)
      obtain ⟨c', d1, d2⟩ := ih (k := k + 1) (s := prg s (dgt N n c k) (dgt N n c ((k + 1) % n))) (m := xr m 10 (cup (m.1 10) (78 + 6 * dgt N n c k + dgt N n c ((k + 1) % n)) (s (82 + 6 * dgt N n c k + dgt N n c ((k + 1) % n)) - 1))) (by omega) (by omega) (by rw [xr_s]; exact R2) ⟨(congrFun (xr_o (by decide)) 1).trans O1, fun j hj => (congrFun (xr_o (by decide)) j).trans (O.2 j hj)⟩
      refine ⟨c', ?_, d2⟩
      rw [xr_xr] at d1
      have go : D65_67_9_43 F (D65_67_9_2 F fu) (Int32.ofNat k) (Int32.ofNat (dgt N n c ((k + 1) % n))) m = some ((), xr m 10 c') := by
        unfold D65_67_9_43
        rw [if_pos ik, if_pos ik, gxn ek, r1]
        refine ob (c94_9 R rfl rfl (by omega) (by omega)) (ob (a75_9 rfl rfl (by omega) (by omega)) ?_)
        rw [show Int32.ofNat k + Int32.ofInt 1 = Int32.ofNat (k + 1) from xadd (a := k) (b := 1) (by omega)]
        exact d1
      have nx1 : Int32.ofNat k + 1 = Int32.ofNat (k + 1) := xadd (a := k) (b := 1) (by omega)
      have ek1 := nJ (n := k + 1) (by omega)
      unfold D65_67_9_2
      rw [O1, nx1]
      refine oF (zc.trans (decide_eq_false (by omega))) (oF (zc.trans (decide_eq_false (by show ¬ (6 : Int) ≤ _; omega))) ?_)
      by_cases z : k + 1 < n
      · rw [Nat.mod_eq_of_lt z] at go
        refine oF (zc.trans (decide_eq_false (by omega))) (oT (gxb ek1 (by omega)) ?_)
        rw [gxn ek1, show m.1 68 (k + 1) = Int32.ofNat (dgt N n c (k + 1)) from O.2 (k + 1) z]
        exact go
      · rw [show (k + 1) % n = 0 by rw [show k + 1 = n by omega, Nat.mod_self]] at go
        refine oT (zc.trans (decide_eq_true (by omega))) ?_
        rw [show m.1 68 0 = Int32.ofNat (dgt N n c 0) from O.2 0 (by show 0 < n; omega)]
        exact go
theorem r242_26 {n c : Nat} (hF : 100 ≤ F) (N1 : 1 ≤ N) (hN : N ≤ 6) (n2 : 2 ≤ n) (hn : n ≤ 6) (hc : c < 2147483648) : ∀ (fu : Nat) {k : Nat} {m : xS}, k ≤ n → n - k < fu → m.1 80 0 = Int32.ofNat N → m.1 70 26 = Int32.ofNat c → D242_26 F fu (Int32.ofNat n) (Int32.ofNat k) m = some (Int32.ofNat n, xr m 80 (pst (m.1 80) N n c k (n - k))) := by
  intro fu
  induction fu with
  | zero => intro k m _ lf; omega
  | succ fu ih =>
    intro k m hk lf e0 e26
    have ek := nJ (n := k) (by omega)
    have en := nJ (n := n) (by omega)
    unfold D242_26
    by_cases h : n ≤ k
    · rw [show n - k = 0 by omega]
      show _ = some (Int32.ofNat n, xr m 80 (m.1 80))
      rw [xr_id]
      exact oT (zc.trans (decide_eq_true (by omega))) rfl
    · have hkn : k < n := by omega
      have a1 := dgt_lt (N := N) (n := n) (c := c) (k := k) N1
      have a2 := dgt_lt (N := N) (n := n) (c := c) (k := (k + 1) % n) N1
      have l := Nat.mod_lt (k + 1) (show 0 < n by omega)
      have nx1 : Int32.ofNat k + 1 = Int32.ofNat (k + 1) := xadd (a := k) (b := 1) (by omega)
      have i := ix6 (A := 82) (B := 82) (a := dgt N n c k) (d := dgt N n c ((k + 1) % n)) rfl (by decide) (by omega) (by omega)
      rw [show n - k = (n - (k + 1)) + 1 by omega]
      show _ = some (Int32.ofNat n, xr m 80 (pst (prg (m.1 80) (dgt N n c k) (dgt N n c ((k + 1) % n))) N n c (k + 1) (n - (k + 1))))
      refine oF (zc.trans (decide_eq_false (by omega))) (ob (r236 hF e26 rfl rfl e0 N1 hN hkn hn hc) ?_)
      dsimp only
      rw [if_pos (n0b (by omega) (by omega)), nx1, i32md (by omega) (by omega) (by omega)]
      refine ob (r236 hF e26 rfl rfl e0 N1 hN l hn hc) ?_
      dsimp only
      rw [gxn i, if_pos (gxb i (by omega)), if_pos (gxb i (by omega)), show Int32.ofNat k + Int32.ofInt 1 = Int32.ofNat (k + 1) from xadd (a := k) (b := 1) (by omega), xu_xr]
      have z := ih (k := k + 1) (m := xr m 80 (prg (m.1 80) (dgt N n c k) (dgt N n c ((k + 1) % n)))) (by omega) (by omega) (by rw [xr_s]; exact (cup_o (by omega)).trans e0) ((congrFun (xr_o (by decide)) 26).trans e26)
      rw [xr_s, xr_xr] at z
      exact z
theorem kRing (hF : 120000 ≤ F) (hT : xT m) (M : rMx m) : xP (D135_0 F m) (fun v1 m1 => ∀ m1', xrw m1 m1' → xT m1' → xP (D242 F m1') (fun v2 m2 => (true = true → v1 = v2) ∧ rMx m2)) := by
  have M0 := M
  obtain ⟨⟨R, I9⟩, ⟨nn, hh, ⟨n20, h20⟩, ⟨e1, e2, e3⟩, -⟩, -⟩ := M0
  have I := I9.1
  have n6 := I_n6 I
  have n0 := I_n0 I
  obtain ⟨N, eN⟩ : ∃ N : Nat, (m.1 80 0).toInt = (N : Int) := ⟨(m.1 80 0).toInt.toNat, by omega⟩
  have e0 : m.1 80 0 = Int32.ofNat N := i32n eN
  have hN : N ≤ 6 := by omega
  obtain ⟨m1, d1, w, q⟩ := c63 (F := F) (m := m) (by omega) I e0 hN R
  have M1 : rMx m1 := rMx_c (w 80 (by decide) (by decide)) (w 10 (by decide) (by decide)) ⟨by rw [w 14 (by decide) (by decide)], by rw [w 14 (by decide) (by decide)]⟩ (by rw [w 70 (by decide) (by decide)]) (w 81 (by decide) (by decide)) (fun a h1 h2 => w a (by omega) (by omega)) (fun a h1 h2 => w a (by omega) (by omega)) (w 41 (by decide) (by decide)) (w 42 (by decide) (by decide)) (w 85 (by decide) (by decide)) (w 86 (by decide) (by decide)) (w 87 (by decide) (by decide)) (by rw [w 70 (by decide) (by decide)]) (by rw [w 43 (by decide) (by decide)]) M
  have s80 : m1.1 80 = m.1 80 := w 80 (by decide) (by decide)
  have f1 : m1.1 14 1 = Int32.ofNat nn := by rw [w 14 (by decide) (by decide)]; exact e1
  have f2 : m1.1 14 2 = Int32.ofNat hh := by rw [w 14 (by decide) (by decide)]; exact e2
  have f3 : m1.1 70 25 = Int32.ofNat hh := by rw [w 70 (by decide) (by decide)]; exact e3
  unfold D135_0
  cases e : srg (m.1 80) N (N - 1) 2 with
  | none =>
    rw [e] at q
    have q : m1.1 67 1 = 0 := q
    refine ⟨(-1, m1), ob d1 (oF (znz q) rfl), fun m1' w' t1 => ?_⟩
    have k80 : m1'.1 80 = m.1 80 := (w'.1 80 0 148 (by decide)).trans s80
    unfold D242
    by_cases N0 : N = 0
    · exact ⟨(-1, m1'), ob r204 (oF (znF (by rw [k80]; exact decide_eq_false (by omega))) rfl), fun _ => rfl, rMx_w w' M1⟩
    · have z := r241 (F := F) (m := m1') hF (by rw [k80]; exact e0) (by omega) hN
      rw [k80, e] at z
      exact ⟨(-1, m1'), ob r204 (oT (znT (by rw [k80]; exact decide_eq_true (by omega))) (ob z (oF (znz rfl) rfl))), fun _ => rfl, rMx_w w' M1⟩
  | some qq =>
    rw [e] at q
    obtain ⟨n, c⟩ := qq
    obtain ⟨l1, l2, l3, l4⟩ := srg_i e
    have l1 : 2 ≤ n := l1
    have l2 : n < 2 + (N - 1) := l2
    have l3 : c < N ^ n := l3
    have l4 : rgc (m.1 80) N n c = true := l4
    have pb := p6b (N := N) (k := n) (by omega) (by omega)
    have N1 : 1 ≤ N := by omega
    have nd : nodp 0 (dg N n c) = true := by
      unfold rgc at l4
      rw [Bool.and_eq_true] at l4
      exact l4.1
    have kp : ∀ a, a ≠ 14 → a ≠ 16 + nn → (kpc m1 nn hh).1 a = m1.1 a := fun a h1 h2 => kpc_r h1 h2
    have q : rgO m1 N (n, c) := q
    have q2 : rgO (kpc m1 nn hh) N (n, c) := ⟨by rw [kp 67 (by decide) (by omega)]; exact q.1, fun j hj => by rw [kp 68 (by decide) (by omega)]; exact q.2 j hj⟩
    obtain ⟨c', k1, k2⟩ := c65_2 (F := F) (n := n) (c := c) N1 hN l1 (by omega) F (k := 0) (s := m.1 80) (m := kpc m1 nn hh) (by omega) (by omega) (by rw [kp 10 (by decide) (by omega), w 10 (by decide) (by decide)]; exact R) q2
    rw [Nat.sub_zero] at k2
    have I' := I_ps (s := m.1 80) N1 hN l1 nd n (k := 0) (by omega) I (pok_0 l4)
    have v67 : (xr (kpc m1 nn hh) 10 c').1 67 1 = Int32.ofNat n := (congrFun (xr_o (by decide)) 1).trans q2.1
    refine ⟨(_, _), ob d1 (oT (znn (by show m1.1 67 1 ≠ 0; rw [show m1.1 67 1 = Int32.ofNat n from q.1]; exact nI0 (by omega) (by omega))) (ob (c16_9 f1 f2 n20 h20) (ob (a := ()) (m := xr (kpc m1 nn hh) 10 c') ?_ rfl))), fun m1' w' t1 => ?_⟩
    · unfold D65_67_9
      exact k1
    · dsimp only at w' ⊢
      have k80 : m1'.1 80 = m.1 80 := (w'.1 80 0 148 (by decide)).trans ((xr_o (by decide)).trans ((kp 80 (by decide) (by omega)).trans s80))
      have k25 : m1'.1 70 25 = Int32.ofNat hh := (w'.2 70 11 25 (by decide)).trans ((congrFun (xr_o (by decide)) 25).trans ((congrFun (kp 70 (by decide) (by omega)) 25).trans f3))
      have z := r241 (F := F) (m := m1') hF (by rw [k80]; exact e0) N1 hN
      rw [k80, e] at z
      have z : D241 F m1' = some (Int32.ofNat n, xu m1' 70 26 (Int32.ofNat c)) := z
      have tx : xT (xu m1' 70 26 (Int32.ofNat c)) := xT_c t1 (i := 70) (j := 26) (lo := 0) (hi := 2147483647) rfl (by rw [xI (by omega)]; omega) (by rw [xI (by omega)]; omega)
      obtain ⟨⟨u, y⟩, hy, y1, y2⟩ := r220 (F := F) (m := xu m1' 70 26 (Int32.ofNat c)) (by omega) tx ((xu_o (by decide)).trans k25) h20
      have x80 : (xu m1' 70 26 (Int32.ofNat c)).1 80 = m.1 80 := (funext fun j => xu_o (fun z => absurd z.1 (by decide))).trans k80
      have y80' : y.1 80 = m.1 80 := (y80 y2.1).trans x80
      have y26 : y.1 70 26 = Int32.ofNat c := (y2.1.2 70 26 rfl).trans (xu_s _ _ _ _)
      have t := r242_26 (F := F) (n := n) (c := c) (by omega) N1 hN l1 (by omega) (by omega) F (k := 0) (m := y) (by omega) (by omega) (by rw [y80']; exact e0) y26
      rw [Nat.sub_zero, y80'] at t
      unfold D242
      refine ⟨(Int32.ofNat n, xr y 80 (pst (m.1 80) N n c 0 n)), ob r204 (oT (znT (by rw [k80]; exact decide_eq_true (by omega))) (ob z (oT (znn (nI0 (by omega) (by omega))) (ob hy t)))), fun _ => v67, ?_⟩
      have wv : xrv (xr (kpc m1 nn hh) 10 c') (xu m1' 70 26 (Int32.ofNat c)) := by
        refine ⟨fun i k n ht => ?_, fun i a b ht hn => (xu_o hn).trans (w'.2 i a b ht)⟩
        have ne : i ≠ 70 := fun z => by
          subst z
          exact absurd ht (by unfold xta; simp [show (yty 70).1 = 0 from rfl])
        exact (funext fun j => xu_o (fun z => ne z.1)).trans (w'.1 i k n ht)
      exact rMx_act M1 n20 h20 f1 f2 k2 ⟨I', by rw [pst_o N1 hN (Or.inl (by omega)) n]; exact I9.2⟩ (fun k h1 h2 => (pst_o N1 hN (Or.inr (by omega)) n).trans (by rw [s80])) wv y2.1 y2.2.1 y2.2.2
end PSET
end
section
/-! count, in pairs. -/
section PCNT
variable {m : xS} {F : Nat} {s : Nat → Int32}
def pbt (s : Nat → Int32) : Nat → Nat → Int32 → Int32
  | _, 0, v => v
  | w, n + 1, v => pbt s (w + 1) n (if pdn s w = true then v ||| (1 <<< (Int32.ofNat w &&& 31)) else v)
def psu (s : Nat → Int32) : Nat → Nat → Int32 → Int32
  | _, 0, v => v
  | k, n + 1, v => psu s (k + 1) n (v + s (82 + k))
theorem c110_4 (R : R32 s (m.1 10)) (I : vI s) : ∀ (f : Nat) {w : Nat} {v : Int32}, (w : Int) ≤ (s 3).toInt → 6 - w < f → D110_9_4 F f v (Int32.ofNat w) m = some (pbt s w ((s 3).toInt.toNat - w) v, m) := by
  have nw := I_nw I
  intro f
  induction f with
  | zero => intro w v _ l; omega
  | succ f ih =>
    intro w v hw l
    have ew := nJ (n := w) (by omega)
    unfold D110_9_4
    refine ob (c80_9 R) (oi (p := decide ((s 3).toInt ≤ (Int32.ofNat w).toInt)) zc (fun h => ?_) (fun h => ?_))
    · have h := of_decide_eq_true h
      rw [show (s 3).toInt.toNat - w = 0 by omega]
      rfl
    · have h := of_decide_eq_false h
      rw [show (s 3).toInt.toNat - w = ((s 3).toInt.toNat - (w + 1)) + 1 by omega]
      show _ = some (pbt s (w + 1) ((s 3).toInt.toNat - (w + 1)) (if pdn s w = true then v ||| (1 <<< (Int32.ofNat w &&& 31)) else v), m)
      have next : ∀ {v' : Int32}, D110_9_26 F (D110_9_4 F f) v' (Int32.ofNat w) m = some (pbt s (w + 1) ((s 3).toInt.toNat - (w + 1)) v', m) := fun {v'} => by
        unfold D110_9_26
        rw [show Int32.ofNat w + Int32.ofInt 1 = Int32.ofNat (w + 1) from xadd (a := w) (b := 1) (by omega)]
        exact ih (by omega) (by omega)
      refine ob (c106_9 R I rfl (by omega)) (oi (p := !pdn s w) pB1 (fun a => ?_) (fun a => ?_))
      · rw [show pdn s w = false by simpa using a, if_neg (by decide)]
        exact next
      · rw [show pdn s w = true by simpa using a, if_pos rfl]
        exact next
theorem r277_92 (I : vI (m.1 80)) {v1 : Int32} : ∀ (f : Nat) {w : Nat} {v : Int32}, (w : Int) ≤ (m.1 80 3).toInt → 6 - w < f → D277_92 F f v1 v (Int32.ofNat w) m = some (pbt (m.1 80) w ((m.1 80 3).toInt.toNat - w) v, m) := by
  have nw := I_nw I
  intro f
  induction f with
  | zero => intro w v _ l; omega
  | succ f ih =>
    intro w v hw l
    have ew := nJ (n := w) (by omega)
    unfold D277_92
    refine oi (p := decide ((m.1 80 3).toInt ≤ (Int32.ofNat w).toInt)) zc (fun h => ?_) (fun h => ?_)
    · have h := of_decide_eq_true h
      rw [show (m.1 80 3).toInt.toNat - w = 0 by omega]
      rfl
    · have h := of_decide_eq_false h
      rw [show (m.1 80 3).toInt.toNat - w = ((m.1 80 3).toInt.toNat - (w + 1)) + 1 by omega]
      show _ = some (pbt (m.1 80) (w + 1) ((m.1 80 3).toInt.toNat - (w + 1)) (if pdn (m.1 80) w = true then v ||| (1 <<< (Int32.ofNat w &&& 31)) else v), m)
      have next : ∀ {v' : Int32}, D277_92 F f v1 v' (Int32.ofNat w + Int32.ofInt 1) m = some (pbt (m.1 80) (w + 1) ((m.1 80 3).toInt.toNat - (w + 1)) v', m) := fun {v'} => by
        rw [show Int32.ofNat w + Int32.ofInt 1 = Int32.ofNat (w + 1) from xadd (a := w) (b := 1) (by omega)]
        exact ih (by omega) (by omega)
      refine ob (r215 rfl (by omega)) (oi (p := !pdn (m.1 80) w) pB1 (fun a => ?_) (fun a => ?_))
      · rw [show pdn (m.1 80) w = false by simpa using a, if_neg (by decide)]
        unfold D277_118
        rw [show v ||| (0 : Int32) = v from Int32.or_zero]
        exact next
      · rw [show pdn (m.1 80) w = true by simpa using a, if_pos rfl]
        unfold D277_118
        exact next
theorem c96_5 (R : R32 s (m.1 10)) : ∀ (f : Nat) {k : Nat} {v : Int32}, k ≤ 36 → 36 - k < f → D96_9_5 F f v (Int32.ofNat (78 + k)) m = some (psu s k (36 - k) v, m) := by
  intro f
  induction f with
  | zero => intro k v _ l; omega
  | succ f ih =>
    intro k v hk l
    have ek := nJ (n := 78 + k) (by omega)
    unfold D96_9_5
    refine oi (p := decide ((114 : Int) ≤ (Int32.ofNat (78 + k)).toInt)) zc (fun h => ?_) (fun h => ?_)
    · have h := of_decide_eq_true h
      rw [show 36 - k = 0 by omega]
      rfl
    · have h := of_decide_eq_false h
      rw [show 36 - k = (36 - (k + 1)) + 1 by omega]
      show _ = some (psu s (k + 1) (36 - (k + 1)) (v + s (82 + k)), m)
      have e := R_h R (a := k / 6) (d := k % 6) (by omega) (by omega)
      rw [show 78 + 6 * (k / 6) + k % 6 = 78 + k by omega, show 82 + 6 * (k / 6) + k % 6 = 82 + k by omega] at e
      rw [if_pos (gxb ek (by omega)), gxn ek, e, show Int32.ofNat (78 + k) + Int32.ofInt 1 = Int32.ofNat (78 + (k + 1)) from xadd (a := 78 + k) (b := 1) (by omega)]
      exact ih (by omega) (by omega)
theorem r277_130 {v1 : Int32} : ∀ (f : Nat) {k : Nat} {v : Int32}, k ≤ 36 → 36 - k < f → D277_130 F f v1 v (Int32.ofNat k) m = some (psu (m.1 80) k (36 - k) v, m) := by
  intro f
  induction f with
  | zero => intro k v _ l; omega
  | succ f ih =>
    intro k v hk l
    have ek := nJ (n := k) (by omega)
    have i := ix1 (A := 82) (B := 82) (d := k) rfl (by decide) (by omega)
    unfold D277_130
    refine oi (p := decide ((36 : Int) ≤ (Int32.ofNat k).toInt)) zc (fun h => ?_) (fun h => ?_)
    · have h := of_decide_eq_true h
      rw [show 36 - k = 0 by omega]
      rfl
    · have h := of_decide_eq_false h
      rw [show 36 - k = (36 - (k + 1)) + 1 by omega]
      show _ = some (psu (m.1 80) (k + 1) (36 - (k + 1)) (v + m.1 80 (82 + k)), m)
      rw [if_pos (gxb i (by omega)), gxn i, show Int32.ofNat k + Int32.ofInt 1 = Int32.ofNat (k + 1) from xadd (a := k) (b := 1) (by omega)]
      exact ih (by omega) (by omega)
/-- what count answers: r, t: rules, bytes of the tape; h: acts; x -/
def pCt (s : Nat → Int32) (r t h x a : Int32) : Int32 := if a = 0 then s 0 else if a = 1 then s 1 else if a = 2 then s 2 else if a = 3 then s 3 else if a = 4 then r else if a = 5 then s 4 else if a = 6 then s 5 else if a = 7 then pbt s 0 (s 3).toInt.toNat 0 else if a = 8 then psu s 0 36 0 else if a = 9 then h else if a = 10 then x else if a = 11 then t else -1
theorem obe {α : Type} {a : Int32} {c : Int32} {x y r : Option α} (h1 : a = c → x = r) (h2 : ¬ a = c → y = r) : (if (a == c) = true then x else y) = r := by
  by_cases h : a = c
  · rw [if_pos (by rw [h]; exact beq_self_eq_true c)]
    exact h1 h
  · rw [if_neg (by simpa using h)]
    exact h2 h
theorem c154 {a : Int32} (hF : 500 ≤ F) (R : R32 s (m.1 10)) (I : vI s) : D154_0 F a m = some (pCt s (m.1 0 8) (m.1 0 1) (m.1 14 2) (m.1 43 0) a, m) := by
  have nw := I_nw I
  unfold D154_0
  refine obe (fun h => ?_) (fun h0 => obe (fun h => ?_) (fun h1 => obe (fun h => ?_) (fun h2 => obe (fun h => ?_) (fun h3 => obe (fun h => ?_) (fun h4 => obe (fun h => ?_) (fun h5 => obe (fun h => ?_) (fun h6 => obe (fun h => ?_) (fun h7 => obe (fun h => ?_) (fun h8 => obe (fun h => ?_) (fun h9 => obe (fun h => ?_) (fun h10 => obe (fun h => ?_) (fun h11 => ?_))))))))))))
  · subst h
    exact ob (c77_9 R) rfl
  · subst h
    exact ob (c78_9 R) rfl
  · subst h
    exact ob (c79_9 R) rfl
  · subst h
    exact ob (c80_9 R) rfl
  · subst h
    rfl
  · subst h
    exact ob (c81_9 R) rfl
  · subst h
    exact ob (c82_9 R) rfl
  · subst h
    have z := c110_4 (F := F) R I F (w := 0) (v := 0) (by omega) (by omega)
    rw [Nat.sub_zero] at z
    refine ob (a := pbt s 0 (s 3).toInt.toNat 0) (m := m) ?_ rfl
    unfold D110_9
    exact z
  · subst h
    have z := c96_5 (F := F) R F (k := 0) (v := 0) (by omega) (by omega)
    refine ob (a := psu s 0 36 0) (m := m) ?_ rfl
    unfold D96_9
    exact z
  · subst h
    exact ob rfl rfl
  · subst h
    rfl
  · subst h
    rfl
  · unfold pCt
    rw [if_neg h0, if_neg h1, if_neg h2, if_neg h3, if_neg h4, if_neg h5, if_neg h6, if_neg h7, if_neg h8, if_neg h9, if_neg h10, if_neg h11]
theorem r277 {a : Int32} (hF : 500 ≤ F) (I : vI (m.1 80)) : D277 F a m = some (pCt (m.1 80) (m.1 70 2) (m.1 70 1) (m.1 70 25) (m.1 70 23) a, m) := by
  have nw := I_nw I
  unfold D277
  refine obe (fun h => ?_) (fun h0 => obe (fun h => ?_) (fun h1 => obe (fun h => ?_) (fun h2 => obe (fun h => ?_) (fun h3 => obe (fun h => ?_) (fun h4 => obe (fun h => ?_) (fun h5 => obe (fun h => ?_) (fun h6 => obe (fun h => ?_) (fun h7 => obe (fun h => ?_) (fun h8 => obe (fun h => ?_) (fun h9 => obe (fun h => ?_) (fun h10 => obe (fun h => ?_) (fun h11 => ?_))))))))))))
  · subst h
    exact oT (by decide) rfl
  · subst h
    exact oT (by decide) rfl
  · subst h
    exact oT (by decide) rfl
  · subst h
    exact oT (by decide) rfl
  · subst h
    rfl
  · subst h
    rfl
  · subst h
    rfl
  · subst h
    have z := r277_92 (F := F) I F (v1 := 7) (w := 0) (v := 0) (by omega) (by omega)
    rw [Nat.sub_zero] at z
    exact z
  · subst h
    exact r277_130 (F := F) F (v1 := 8) (k := 0) (v := 0) (by omega) (by omega)
  · subst h
    rfl
  · subst h
    rfl
  · subst h
    rfl
  · unfold pCt
    rw [if_neg h0, if_neg h1, if_neg h2, if_neg h3, if_neg h4, if_neg h5, if_neg h6, if_neg h7, if_neg h8, if_neg h9, if_neg h10, if_neg h11]
theorem kq_28 {y1 : Int32} (hp : zHp) (hI : MI hp) : xP (D154_0 3000 y1 (xof hp)) (fun v1 m1 => ∀ m1', xrw m1 m1' → xT m1' → xP (D277 3000 y1 m1') (fun v2 m2 => (true = true → v1 = v2) ∧ rMx m2)) := by
  have M := hI.2
  have r0 := hI.1.2
  refine ⟨_, c154 (by decide) M.1.1 M.1.2.1, fun m1' w t1 => ?_⟩
  have M2 := rMx_w w M
  refine ⟨_, r277 (by decide) M2.1.2.1, fun _ => ?_, M2⟩
  obtain ⟨n, h, -, ⟨-, e2, e3⟩, -⟩ := M.2.1
  show pCt _ _ _ _ _ _ = pCt _ _ _ _ _ _
  have k1 : (xof hp).1 70 1 = (xof hp).1 0 1 := Int32.toInt_inj.mp r0.1
  have k2 : (xof hp).1 70 2 = (xof hp).1 0 8 := Int32.toInt_inj.mp r0.2.1
  rw [w.1 80 0 148 (by decide), w.2 70 11 1 (by decide), w.2 70 11 2 (by decide), w.2 70 11 25 (by decide), w.2 70 11 23 (by decide), k1, k2, e2, e3, M.2.2.2]
end PCNT
end
