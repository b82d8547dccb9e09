/-! The village that both hold: pure functions of it, and the methods that only look. s: the reference's row. -/
def sI (s : Nat → Int32) (j : Nat) : Int := (s j).toInt
def R32 (s c : Nat → Int32) : Prop := vR (sI s) c
def pB (b : Bool) : Int32 := if b = true then 1 else 0
/-- is it a tool's, work's, house's number (k: where how many there are stands) -/
def pin (s : Nat → Int32) (k : Nat) (v : Int32) : Bool := decide (0 ≤ v.toInt) && decide (v.toInt < (s k).toInt)
def phm (s : Nat → Int32) (t : Nat) : Bool := s (10 + 6 * t + 3) == s (10 + 6 * t)
def prs (s : Nat → Int32) (t : Nat) : Int32 := if phm s t = true ∨ (s (10 + 6 * t + 5) - s 1).toInt < 0 then 0 else s (10 + 6 * t + 5) - s 1
def psh0 (s : Nat → Int32) (t : Nat) (more : Int32) : Int32 := if (s (10 + 6 * t + 2) + s (10 + 6 * t + 4) + more - prs s t).toInt < 0 then 0 else s (10 + 6 * t + 2) + s (10 + 6 * t + 4) + more - prs s t
def psh (s : Nat → Int32) (t : Nat) (more : Int32) : Int32 := if more = 0 ∧ phm s t = true then 0 else psh0 s t more
def pdn (s : Nat → Int32) (w : Nat) : Bool := decide (0 ≤ (s (118 + w)).toInt)
def pfit (s : Nat → Int32) (w t : Nat) : Bool := s (10 + 6 * t + 1) == s (124 + 4 * w + 1) && (s (10 + 6 * t + 3) == s (124 + 4 * w) && decide ((s (124 + 4 * w + 2)).toInt ≤ (psh s t 0).toInt))
def pcd (s : Nat → Int32) (w : Nat) : Bool := !pdn s w && (List.range (s 2).toInt.toNat).any (pfit s w)
def ptr (s : Nat → Int32) (a d : Nat) : Bool := s (46 + 6 * a + d) == 1
/-- may it be lent there -/
def pcl (s : Nat → Int32) (t h : Nat) : Bool := !(s (10 + 6 * t + 3) == Int32.ofNat h) && (!(s (10 + 6 * t) == Int32.ofNat h) && ptr s (s (10 + 6 * t + 3)).toInt.toNat h)
/-- what holds of a village at all times: numbers, tools, works, trust and thanks -/
def vIa (s : Nat → Int32) : Prop := (((s 0).toInt = 0 ∨ 2 ≤ (s 0).toInt) ∧ (s 0).toInt ≤ 6) ∧ 0 ≤ (s 1).toInt ∧ (0 ≤ (s 2).toInt ∧ (s 2).toInt ≤ 6) ∧ (0 ≤ (s 3).toInt ∧ (s 3).toInt ≤ 6) ∧ (0 ≤ (s 4).toInt ∧ (s 4).toInt ≤ 2000)
def vIt (s : Nat → Int32) : Prop := ∀ t : Nat, (t : Int) < (s 2).toInt → (0 ≤ (s (10 + 6 * t)).toInt ∧ (s (10 + 6 * t)).toInt < (s 0).toInt) ∧ (0 ≤ (s (10 + 6 * t + 3)).toInt ∧ (s (10 + 6 * t + 3)).toInt < (s 0).toInt) ∧ (s (10 + 6 * t + 3) = s (10 + 6 * t) → s (10 + 6 * t + 4) = 0 ∧ s (10 + 6 * t + 5) = 0) ∧ (0 ≤ (s (10 + 6 * t + 5)).toInt ∧ (s (10 + 6 * t + 5)).toInt ≤ (s 4).toInt)
def vIw (s : Nat → Int32) : Prop := ∀ w : Nat, (w : Int) < (s 3).toInt → (0 ≤ (s (124 + 4 * w)).toInt ∧ (s (124 + 4 * w)).toInt < (s 0).toInt) ∧ -1 ≤ (s (118 + w)).toInt ∧ (0 ≤ (s (124 + 4 * w + 3)).toInt ∧ (s (124 + 4 * w + 3)).toInt ≤ 50)
def vIh (s : Nat → Int32) : Prop := (∀ a : Nat, a < 6 → s (46 + 6 * a + a) = 0 ∧ s (82 + 6 * a + a) = 0) ∧ (∀ a d : Nat, a < 6 → d < 6 → 0 ≤ (s (82 + 6 * a + d)).toInt ∧ (s (82 + 6 * a + d)).toInt ≤ 99)
def vI (s : Nat → Int32) : Prop := vIa s ∧ vIt s ∧ vIw s ∧ vIh s
theorem I_n6 {s : Nat → Int32} (I : vI s) : (s 0).toInt ≤ 6 := I.1.1.2
theorem I_n0 {s : Nat → Int32} (I : vI s) : (s 0).toInt = 0 ∨ 2 ≤ (s 0).toInt := I.1.1.1
theorem I_late {s : Nat → Int32} (I : vI s) : 0 ≤ (s 1).toInt := I.1.2.1
theorem I_nt {s : Nat → Int32} (I : vI s) : 0 ≤ (s 2).toInt ∧ (s 2).toInt ≤ 6 := I.1.2.2.1
theorem I_nw {s : Nat → Int32} (I : vI s) : 0 ≤ (s 3).toInt ∧ (s 3).toInt ≤ 6 := I.1.2.2.2.1
/-- and the day is one of the document's -/
def vI9 (s : Nat → Int32) : Prop := vI s ∧ (s 4).toInt ≤ 999
theorem I_day {s : Nat → Int32} (I : vI s) : 0 ≤ (s 4).toInt ∧ (s 4).toInt ≤ 2000 := I.1.2.2.2.2
theorem xP_bp {α β : Type} {o : Option (α × xS)} {f : α × xS → Option (β × xS)} {a : α} {m : xS} {Q : β → xS → Prop} (h : o = some (a, m)) (k : xP (f (a, m)) Q) : xP (o.bind f) Q := by
  rw [h]
  exact k
theorem ob {α β : Type} {o : Option (α × xS)} {f : α × xS → Option (β × xS)} {a : α} {m : xS} {r : Option (β × xS)} (h : o = some (a, m)) (k : f (a, m) = r) : o.bind f = r := by
  rw [h]
  exact k
theorem oi {α : Type} {c p : Bool} {a b r : Option α} (h : c = p) (h1 : p = true → a = r) (h2 : p = false → b = r) : (if c = true then a else b) = r := by
  subst h
  cases c with
  | true => exact h1 rfl
  | false => exact h2 rfl
theorem pB1 {b : Bool} : zcmp .eq (pB b) 0 = !b := by cases b <;> rfl
theorem pB2 {b : Bool} : zcmp .ne (pB b) 0 = b := by cases b <;> rfl
section GX
theorem gxn {e : Int32} {n : Nat} (h : e.toInt = (n : Int)) : e.toNatClampNeg = n := by show e.toInt.toNat = n; omega
theorem gxb {e : Int32} {n len : Nat} (h : e.toInt = (n : Int)) (l : n < len) : xib e len = true := xib_t (by omega) (by omega)
theorem nJ {n : Nat} (h : n < 2000) : (Int32.ofNat n).toInt = (n : Int) := xI (by omega)
theorem ix6 {A : Int32} {B a d : Nat} (hA : A.toInt = (B : Int)) (hB : B ≤ 1000) (ha : a < 7) (hd : d < 7) : (A + 6 * Int32.ofNat a + Int32.ofNat d).toInt = ((B + 6 * a + d : Nat) : Int) := ixH hA hB (nJ (by omega)) (nJ (by omega)) (by omega) (by omega)
theorem ix4 {a d : Nat} (ha : a < 7) (hd : d < 7) : ((124 : Int32) + 4 * Int32.ofNat a + Int32.ofNat d).toInt = ((124 + 4 * a + d : Nat) : Int) := ixp (ixW (nJ (by omega)) (by omega)) (nJ (by omega)) (by omega)
theorem ix1 {A : Int32} {B d : Nat} (hA : A.toInt = (B : Int)) (hB : B ≤ 1000) (hd : d < 200) : (A + Int32.ofNat d).toInt = ((B + d : Nat) : Int) := ixp hA (nJ (by omega)) (by omega)
theorem zc {x y : Int32} : zcmp .ge x y = decide (y.toInt ≤ x.toInt) := decide_eq_decide.mpr Int32.le_iff_toInt_le
theorem zcl {x y : Int32} : zcmp .lt x y = decide (x.toInt < y.toInt) := decide_eq_decide.mpr Int32.lt_iff_toInt_lt
theorem zcle {x y : Int32} : zcmp .le x y = decide (x.toInt ≤ y.toInt) := decide_eq_decide.mpr Int32.le_iff_toInt_le
theorem zcgt {x y : Int32} : zcmp .gt x y = decide (y.toInt < x.toInt) := decide_eq_decide.mpr Int32.lt_iff_toInt_lt
theorem zce {x y : Int32} : zcmp .eq x y = (x == y) := by
  show decide (x = y) = _
  by_cases h : x = y
  · subst h; simp
  · simp [h]
theorem zcn {x y : Int32} : zcmp .ne x y = !(x == y) := by
  show decide (¬ x = y) = _
  by_cases h : x = y
  · subst h; simp
  · simp [h]
/-- which bit: as class and checker ask -/
theorem tbq {x : Int32} {d : Nat} (h0 : 0 ≤ x.toInt) (h1 : x.toInt ≤ 63) (hd : d < 6) : zcmp .eq ((x >>> (Int32.ofNat d &&& 31)) &&& 1) 0 = !tbt x d := by
  have key : (List.range 64).all (fun x => (List.range 6).all (fun d => zcmp .eq ((Int32.ofNat x >>> (Int32.ofNat d &&& 31)) &&& 1) 0 == !tbt (Int32.ofNat x) d)) = true := by decide +kernel
  have e : x = Int32.ofNat x.toInt.toNat := i32n (by omega)
  have k1 := List.all_eq_true.mp (List.all_eq_true.mp key x.toInt.toNat (List.mem_range.mpr (by omega))) d (List.mem_range.mpr hd)
  rw [← e] at k1
  exact eq_of_beq k1
end GX
section RX
variable {s c : Nat → Int32}
theorem R_j (R : R32 s c) {j : Nat} (h : j < 6) : c j = s j := Int32.toInt_inj.mp (R.1 j h)
theorem R_t (R : R32 s c) {t w : Nat} (ht : t < 6) (hw : w < 6) : c (6 + 6 * w + t) = s (10 + 6 * t + w) := Int32.toInt_inj.mp (R.2.1 t w ht hw)
theorem R_w (R : R32 s c) {w k : Nat} (hw : w < 6) (hk : k < 4) : c (42 + 6 * k + w) = s (124 + 4 * w + k) := Int32.toInt_inj.mp (R.2.2.1 w k hw hk)
theorem R_d (R : R32 s c) {w : Nat} (hw : w < 6) (h : (w : Int) < (s 3).toInt) : c (66 + w) = s (118 + w) := Int32.toInt_inj.mp (R.2.2.2.1 w hw h)
theorem R_tr (R : R32 s c) {a d : Nat} (ha : a < 6) (hd : d < 6) : tbt (c (72 + a)) d = ptr s a d := by
  have h : (s (46 + 6 * a + d)).toInt = (if tbt (c (72 + a)) d = true then 1 else 0) := R.2.2.2.2.1 a d ha hd
  unfold ptr
  cases e : tbt (c (72 + a)) d with
  | true =>
    rw [e] at h
    have : s (46 + 6 * a + d) = 1 := Int32.toInt_inj.mp h
    rw [this]
    rfl
  | false =>
    rw [e] at h
    have : s (46 + 6 * a + d) = 0 := Int32.toInt_inj.mp h
    rw [this]
    rfl
theorem R_h (R : R32 s c) {a d : Nat} (ha : a < 6) (hd : d < 6) : c (78 + 6 * a + d) = s (82 + 6 * a + d) := Int32.toInt_inj.mp (R.2.2.2.2.2 a d ha hd)
end RX
theorem pin_iff {s : Nat → Int32} {k : Nat} {v : Int32} : pin s k v = true ↔ 0 ≤ v.toInt ∧ v.toInt < (s k).toInt := by
  unfold pin
  simp only [Bool.and_eq_true, decide_eq_true_eq]
theorem pin_n {s : Nat → Int32} {k : Nat} {v : Int32} (h : pin s k v = true) : ∃ t : Nat, v = Int32.ofNat t ∧ (t : Int) < (s k).toInt := by
  have h := pin_iff.mp h
  exact ⟨v.toInt.toNat, i32n (by omega), by omega⟩
/-- the class's bits stay small -/
theorem b63 {m : xS} (hT : xT m) {r a : Nat} (hr : yty r = (1, 0, 114, 1, [])) (r88 : r < 88) (ha : a < 6) : 0 ≤ (m.1 r (72 + a)).toInt ∧ (m.1 r (72 + a)).toInt ≤ 63 := by
  have e0 : xbn r (72 + a) = some (yel 1 (72 + a)) := xbn_a (k := 0) (n := 114) (ec := 1) r88 hr (by decide) (by omega)
  have e2 : yel 1 (72 + a) = (0, 63) := by
    have e : yel 1 (72 + a) = if 72 + a = 0 ∨ 72 + a = 2 ∨ 72 + a = 3 then (0, 6) else if (6 ≤ 72 + a ∧ 72 + a < 12) ∨ (24 ≤ 72 + a ∧ 72 + a < 30) ∨ (42 ≤ 72 + a ∧ 72 + a < 48) then (0, 5) else if 72 ≤ 72 + a ∧ 72 + a < 78 then (0, 63) else (-2147483648, 2147483647) := rfl
    rw [e, if_neg (by omega), if_neg (by omega), if_pos (by omega)]
  rw [e2] at e0
  exact hT r (72 + a) _ e0
