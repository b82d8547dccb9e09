section
/-! What runs of the printed functions come to. -/
def xP {α : Type} (o : Option (α × xS)) (Q : α → xS → Prop) : Prop := ∃ x, o = some x ∧ Q x.1 x.2
section XHOA
variable {α β : Type}
theorem xP_r {v : α} {m : xS} {Q : α → xS → Prop} (h : Q v m) : xP (some (v, m)) Q := ⟨_, rfl, h⟩
theorem xP_i {c : Bool} {a b : Option (α × xS)} {Q : α → xS → Prop} (h1 : c = true → xP a Q) (h2 : c = false → xP b Q) : xP (if c = true then a else b) Q := by
  cases c with
  | true => rw [if_pos rfl]; exact h1 rfl
  | false => rw [if_neg (by decide)]; exact h2 rfl
theorem xP_g {c : Bool} {a : Option (α × xS)} {Q : α → xS → Prop} (hc : c = true) (h : xP a Q) : xP (if c = true then a else none) Q := by
  rw [if_pos hc]
  exact h
theorem xP_b {o : Option (α × xS)} {f : α × xS → Option (β × xS)} {R : α → xS → Prop} {Q : β → xS → Prop} (h : xP o R) (k : ∀ v m, R v m → xP (f (v, m)) Q) : xP (o.bind f) Q := by
  obtain ⟨x, e, hx⟩ := h
  rw [e]
  exact k x.1 x.2 hx
theorem xP_m {o : Option (α × xS)} {R Q : α → xS → Prop} (h : xP o R) (k : ∀ v m, R v m → Q v m) : xP o Q := by
  obtain ⟨x, e, hx⟩ := h
  exact ⟨x, e, k _ _ hx⟩
end XHOA
theorem zt {c : _root_.Jvm.ClassFile.Cond} {x y : Int32} (h : zcmp c x y = true) : yhl c x.toInt y.toInt := (yhl_cmp c x y).mp h
theorem zf {c : _root_.Jvm.ClassFile.Cond} {x y : Int32} (h : zcmp c x y = false) : ¬ yhl c x.toInt y.toInt := fun k => by rw [(yhl_cmp c x y).mpr k] at h; cases h
theorem zne {x y : Int32} (h : zcmp .ne x y = false) : x = y := Decidable.not_not.mp (of_decide_eq_false h)
theorem zeq {x y : Int32} (h : zcmp .eq x y = true) : x = y := of_decide_eq_true h
theorem zneq {x y : Int32} (h : zcmp .eq x y = false) : x ≠ y := of_decide_eq_false h
theorem znet {x y : Int32} (h : zcmp .ne x y = true) : x ≠ y := of_decide_eq_true h
theorem xib_t {e : Int32} {n : Nat} (h : 0 ≤ e.toInt) (h2 : e.toInt < (n : Int)) : xib e n = true := by
  refine decide_eq_true (fun z => ?_)
  rcases z with z | z
  · have z : e.toInt < (0 : Int) := Int32.lt_iff_toInt_lt.mp z
    omega
  · have z : n ≤ e.toInt.toNat := z
    omega
theorem xa1 {x y : Int32} (h1 : -2147483648 ≤ x.toInt + y.toInt) (h2 : x.toInt + y.toInt ≤ 2147483647) : (x + y).toInt = x.toInt + y.toInt := by
  rw [Int32.toInt_add]
  exact Int.bmod_eq_of_le_mul_two (by omega) (by omega)
theorem xs1 {x y : Int32} (h1 : -2147483648 ≤ x.toInt - y.toInt) (h2 : x.toInt - y.toInt ≤ 2147483647) : (x - y).toInt = x.toInt - y.toInt := by
  rw [Int32.toInt_sub]
  have := Int.bmod_eq_of_le_mul_two (x := x.toInt - y.toInt) (y := 2 ^ 32) (by omega) (by omega)
  omega
theorem xm1 {x y : Int32} (h1 : -2147483648 ≤ x.toInt * y.toInt) (h2 : x.toInt * y.toInt ≤ 2147483647) : (x * y).toInt = x.toInt * y.toInt := by
  rw [Int32.toInt_mul]
  exact Int.bmod_eq_of_le_mul_two (by omega) (by omega)
/-- bounds of places -/
def xbn (i j : Nat) : Option (Int × Int) := if i < 88 then (match (yty i).1 with
  | 0 => (match (yty i).2.2.2.2[j]? with
    | some t => if t.1 = 0 then some t.2 else none
    | none => none)
  | 1 => if (yty i).2.1 < 3 ∧ j < (yty i).2.2.1 then some (yel (yty i).2.2.2.1 j) else none
  | _ => none) else none
def xT (m : xS) : Prop := ∀ i j p, xbn i j = some p → p.1 ≤ (m.1 i j).toInt ∧ (m.1 i j).toInt ≤ p.2
theorem xu_s (m : xS) (i j : Nat) (v : Int32) : (xu m i j v).1 i j = v := if_pos ⟨rfl, rfl⟩
theorem xu_o {m : xS} {i j a b : Nat} {v : Int32} (h : ¬ (a = i ∧ b = j)) : (xu m i j v).1 a b = m.1 a b := if_neg h
theorem xu_id (m : xS) (i j : Nat) : xu m i j (m.1 i j) = m := by
  refine Prod.ext (funext fun a => funext fun b => ?_) rfl
  by_cases h : a = i ∧ b = j
  · rw [h.1, h.2, xu_s]
  · exact xu_o h
theorem xT_u {m : xS} (h : xT m) {i j : Nat} {v : Int32} (k : ∀ p, xbn i j = some p → p.1 ≤ v.toInt ∧ v.toInt ≤ p.2) : xT (xu m i j v) := by
  intro a b p hp
  by_cases e : a = i ∧ b = j
  · obtain ⟨rfl, rfl⟩ := e
    rw [xu_s]
    exact k p hp
  · rw [xu_o e]
    exact h a b p hp
theorem xT_c {m : xS} (h : xT m) {i j : Nat} {v : Int32} {lo hi : Int} (e : xbn i j = some (lo, hi)) (h1 : lo ≤ v.toInt) (h2 : v.toInt ≤ hi) : xT (xu m i j v) := xT_u h (fun p hp => by
  rw [e] at hp
  cases hp
  exact ⟨h1, h2⟩)
/-- nothing but these places has changed -/
def xfr (M : yM) (m m' : xS) : Prop := m'.2 = m.2 ∧ ∀ i j : Nat, yinM M i (j : Int) = false → m'.1 i j = m.1 i j
theorem xfr_r (M : yM) (m : xS) : xfr M m m := ⟨rfl, fun _ _ _ => rfl⟩
theorem xfr_t {M : yM} {a b c : xS} (h1 : xfr M a b) (h2 : xfr M b c) : xfr M a c := ⟨h2.1.trans h1.1, fun i j h => (h2.2 i j h).trans (h1.2 i j h)⟩
theorem xfr_l {M N : yM} (h : yleM M N = true) {a b : xS} (f : xfr M a b) : xfr N a b := ⟨f.1, fun i j k => f.2 i j (yleM_ok h k)⟩
theorem xfr_u {M : yM} {m : xS} {i j : Nat} {v : Int32} (h : yinM M i (j : Int) = true) : xfr M m (xu m i j v) := ⟨rfl, fun a b k => xu_o (fun e => by
  rw [e.1, e.2, h] at k
  cases k)⟩
abbrev xM8 : yM := [(70, 70, 8)]
abbrev xM9 : yM := [(70, 70, 9)]
abbrev xM3 : yM := [(70, 70, 8), (70, 70, 9), (70, 70, 10)]
/-- what the reader's fields are within -/
theorem xT8 {m : xS} (h : xT m) : (0 ≤ (m.1 70 8).toInt ∧ (m.1 70 8).toInt ≤ 400) ∧ (0 ≤ (m.1 70 1).toInt ∧ (m.1 70 1).toInt ≤ 400) := ⟨h 70 8 (0, 400) rfl, h 70 1 (0, 400) rfl⟩
section XLEAF
variable {F : Nat} {m : xS}
/-- see -/
theorem P164_38 (h : xT m) (h2 : (m.1 70 8).toInt ≤ (m.1 70 1).toInt) : xP (D164_38 F m) (fun v m' => m' = m ∧ ((v = -1 ∧ (m.1 70 8).toInt = (m.1 70 1).toInt) ∨ (v = m.1 71 (m.1 70 8).toNatClampNeg &&& 255 ∧ (m.1 70 8).toInt < (m.1 70 1).toInt))) := by
  have := xT8 h
  unfold D164_38
  refine xP_i (fun c => ?_) (fun c => ?_)
  · have c : (m.1 70 1).toInt ≤ (m.1 70 8).toInt := zt c
    exact xP_r ⟨rfl, Or.inl ⟨rfl, by omega⟩⟩
  · have c : ¬ (m.1 70 1).toInt ≤ (m.1 70 8).toInt := zf c
    exact xP_g (xib_t (by omega) (by omega)) (xP_r ⟨rfl, Or.inr ⟨rfl, by omega⟩⟩)
theorem P164_0 : ∀ (f : Nat) {m : xS}, xT m → (m.1 70 8).toInt ≤ (m.1 70 1).toInt → (m.1 70 1).toInt - (m.1 70 8).toInt < f → xP (D164_0 F f m) (fun v m' => xT m' ∧ xfr xM8 m m' ∧ (m.1 70 8).toInt ≤ (m'.1 70 8).toInt ∧ (m'.1 70 8).toInt ≤ (m.1 70 1).toInt ∧ ((v = -1 ∧ (m'.1 70 8).toInt = (m.1 70 1).toInt) ∨ (v = m.1 71 (m'.1 70 8).toNatClampNeg &&& 255 ∧ (m'.1 70 8).toInt < (m.1 70 1).toInt)))
  | 0, m, h, h2, h3 => by omega
  | f + 1, m, h, h2, h3 => by
    have b := xT8 h
    have stay : xP (D164_38 F m) (fun v m' => xT m' ∧ xfr xM8 m m' ∧ (m.1 70 8).toInt ≤ (m'.1 70 8).toInt ∧ (m'.1 70 8).toInt ≤ (m.1 70 1).toInt ∧ ((v = -1 ∧ (m'.1 70 8).toInt = (m.1 70 1).toInt) ∨ (v = m.1 71 (m'.1 70 8).toNatClampNeg &&& 255 ∧ (m'.1 70 8).toInt < (m.1 70 1).toInt))) :=
      xP_m (P164_38 h h2) (fun v m' q => by
        obtain ⟨rfl, q⟩ := q
        exact ⟨h, xfr_r _ _, Int.le_refl _, h2, q⟩)
    unfold D164_0
    refine xP_i (fun _ => stay) (fun c => ?_)
    have c : ¬ (m.1 70 1).toInt ≤ (m.1 70 8).toInt := zf c
    refine xP_g (xib_t (by omega) (by omega)) (xP_i (fun _ => stay) (fun _ => ?_))
    have e1 : (m.1 70 8 + 1).toInt = (m.1 70 8).toInt + 1 := xa1 (by show _ ≤ _ + (1 : Int); omega) (by show _ + (1 : Int) ≤ _; omega)
    have e2 : ((xu m 70 8 (m.1 70 8 + 1)).1 70 8).toInt = (m.1 70 8).toInt + 1 := by rw [xu_s]; exact e1
    have e3 : (xu m 70 8 (m.1 70 8 + 1)).1 70 1 = m.1 70 1 := rfl
    refine xP_m (P164_0 f (xT_c h (v := m.1 70 8 + 1) (i := 70) (j := 8) rfl (by omega) (by omega)) (by rw [e2, e3]; omega) (by rw [e2, e3]; omega)) (fun v m' q => ?_)
    obtain ⟨q1, q2, q3, q4, q5⟩ := q
    rw [e2] at q3
    exact ⟨q1, xfr_t (xfr_u (by decide)) q2, by omega, q4, q5⟩
theorem P164 (hF : 500 ≤ F) (h : xT m) (h2 : (m.1 70 8).toInt ≤ (m.1 70 1).toInt) : xP (D164 F m) (fun v m' => xT m' ∧ xfr xM8 m m' ∧ (m.1 70 8).toInt ≤ (m'.1 70 8).toInt ∧ (m'.1 70 8).toInt ≤ (m.1 70 1).toInt ∧ ((v = -1 ∧ (m'.1 70 8).toInt = (m.1 70 1).toInt) ∨ (v = m.1 71 (m'.1 70 8).toNatClampNeg &&& 255 ∧ (m'.1 70 8).toInt < (m.1 70 1).toInt))) := by
  have b := xT8 h
  exact P164_0 F h h2 (by omega)
/-- isLetter, isDigit -/
def xlt (m : xS) (lo hi : Int) (a : Int32) : Prop := a.toInt < (m.1 70 1).toInt ∧ lo ≤ (m.1 71 a.toNatClampNeg).toInt ∧ (m.1 71 a.toNatClampNeg).toInt ≤ hi
theorem P166 {a : Int32} (h : xT m) (ha : 0 ≤ a.toInt) : xP (D166 F a m) (fun v m' => m' = m ∧ ((v = 0 ∧ ¬ xlt m 97 122 a) ∨ (v = 1 ∧ xlt m 97 122 a))) := by
  have b := xT8 h
  unfold D166 D166_34
  refine xP_i (fun c => ?_) (fun c => ?_)
  · have c : (m.1 70 1).toInt ≤ a.toInt := zt c
    exact xP_r ⟨rfl, Or.inl ⟨rfl, fun z => by have := z.1; omega⟩⟩
  · have c : ¬ (m.1 70 1).toInt ≤ a.toInt := zf c
    have ib := xib_t (e := a) (n := 400) ha (by omega)
    refine xP_g ib (xP_i (fun c2 => ?_) (fun c2 => ?_))
    · have c2 : (m.1 71 a.toNatClampNeg).toInt < (97 : Int) := zt c2
      exact xP_r ⟨rfl, Or.inl ⟨rfl, fun z => by have := z.2.1; omega⟩⟩
    · have c2 : ¬ (m.1 71 a.toNatClampNeg).toInt < (97 : Int) := zf c2
      refine xP_g ib (xP_i (fun c3 => ?_) (fun c3 => ?_))
      · have c3 : (122 : Int) < (m.1 71 a.toNatClampNeg).toInt := zt c3
        exact xP_r ⟨rfl, Or.inl ⟨rfl, fun z => by have := z.2.2; omega⟩⟩
      · have c3 : ¬ (122 : Int) < (m.1 71 a.toNatClampNeg).toInt := zf c3
        exact xP_r ⟨rfl, Or.inr ⟨rfl, by omega, by omega, by omega⟩⟩
theorem P165 {a : Int32} (h : xT m) (ha : 0 ≤ a.toInt) : xP (D165 F a m) (fun v m' => m' = m ∧ ((v = 0 ∧ ¬ xlt m 48 57 a) ∨ (v = 1 ∧ xlt m 48 57 a))) := by
  have b := xT8 h
  unfold D165 D165_34
  refine xP_i (fun c => ?_) (fun c => ?_)
  · have c : (m.1 70 1).toInt ≤ a.toInt := zt c
    exact xP_r ⟨rfl, Or.inl ⟨rfl, fun z => by have := z.1; omega⟩⟩
  · have c : ¬ (m.1 70 1).toInt ≤ a.toInt := zf c
    have ib := xib_t (e := a) (n := 400) ha (by omega)
    refine xP_g ib (xP_i (fun c2 => ?_) (fun c2 => ?_))
    · have c2 : (m.1 71 a.toNatClampNeg).toInt < (48 : Int) := zt c2
      exact xP_r ⟨rfl, Or.inl ⟨rfl, fun z => by have := z.2.1; omega⟩⟩
    · have c2 : ¬ (m.1 71 a.toNatClampNeg).toInt < (48 : Int) := zf c2
      refine xP_g ib (xP_i (fun c3 => ?_) (fun c3 => ?_))
      · have c3 : (57 : Int) < (m.1 71 a.toNatClampNeg).toInt := zt c3
        exact xP_r ⟨rfl, Or.inl ⟨rfl, fun z => by have := z.2.2; omega⟩⟩
      · have c3 : ¬ (57 : Int) < (m.1 71 a.toNatClampNeg).toInt := zf c3
        exact xP_r ⟨rfl, Or.inr ⟨rfl, by omega, by omega, by omega⟩⟩
/-- fails -/
theorem P163 {k a : Int32} (h : xT m) (hk : 0 ≤ k.toInt ∧ k.toInt ≤ 4) (ha : 0 ≤ a.toInt ∧ a.toInt ≤ 400) : xP (D163 F k a m) (fun v m' => v = 0 ∧ xT m' ∧ xfr xM9 m m' ∧ 1 ≤ (m'.1 70 9).toInt) := by
  have b := h 70 9 (0, 4000) rfl
  have b1 : (0 : Int) ≤ (m.1 70 9).toInt := b.1
  unfold D163 D163_19
  refine xP_i (fun c => ?_) (fun c => ?_)
  · have c : (m.1 70 9).toInt ≠ (0 : Int) := zt c
    exact xP_r ⟨rfl, h, xfr_r _ _, by omega⟩
  · have e1 : (8 * a).toInt = 8 * a.toInt := xm1 (by show _ ≤ (8 : Int) * _; omega) (by show (8 : Int) * _ ≤ _; omega)
    have e2 : (1 + 8 * a).toInt = 1 + 8 * a.toInt := (xa1 (by show _ ≤ (1 : Int) + _; omega) (by show (1 : Int) + _ ≤ _; omega)).trans (by rw [e1]; rfl)
    have e3 : (1 + 8 * a + k).toInt = 1 + 8 * a.toInt + k.toInt := (xa1 (by omega) (by omega)).trans (by rw [e2])
    refine xP_r ⟨rfl, xT_c h (i := 70) (j := 9) rfl (by omega) (by omega), xfr_u (by decide), ?_⟩
    rw [xu_s, e3]
    omega
end XLEAF
end
section
/-! Words, numbers. -/
section XWRD
variable {F : Nat} {m : xS}
theorem x0 {v : Int32} (h : v.toInt = 0) : v = 0 := by
  rw [yofI h]
  rfl
theorem P167_10 {w : Int64} : ∀ (f : Nat) {v3 : Int64} {v5 : Int32} {m : xS}, xT m → 0 ≤ v5.toInt → (m.1 70 8).toInt + v5.toInt ≤ (m.1 70 1).toInt → (m.1 70 1).toInt - (m.1 70 8).toInt - v5.toInt < f → (0 < v5.toInt → xlt m 97 122 (m.1 70 8)) → xP (D167_10 F f w v3 v5 m) (fun v m' => m' = m ∧ (v = 0 ∨ (v = 1 ∧ xlt m 97 122 (m.1 70 8))))
  | 0, v3, v5, m, h, h1, h2, h3, h4 => by omega
  | f + 1, v3, v5, m, h, h1, h2, h3, h4 => by
    have b := xT8 h
    have e1 : (m.1 70 8 + v5).toInt = (m.1 70 8).toInt + v5.toInt := xa1 (by omega) (by omega)
    unfold D167_10 D167_50 D167_78
    refine xP_b (P166 (F := F) (a := m.1 70 8 + v5) h (by omega)) (fun v m1 q => ?_)
    obtain ⟨rfl, q⟩ := q
    dsimp only
    refine xP_i (fun c => ?_) (fun c => ?_)
    · refine xP_i (fun _ => xP_r ⟨rfl, Or.inl rfl⟩) (fun c2 => xP_i (fun _ => xP_r ⟨rfl, Or.inl rfl⟩) (fun _ => xP_i (fun _ => xP_r ⟨rfl, Or.inl rfl⟩) (fun _ => ?_)))
      have c2 : ¬ v5.toInt ≤ (0 : Int) := zf c2
      exact xP_r ⟨rfl, Or.inr ⟨rfl, h4 (by omega)⟩⟩
    · have c : v ≠ 0 := zneq c
      have q : xlt m1 97 122 (m1.1 70 8 + v5) := by
        rcases q with q | q
        · exact absurd q.1 c
        · exact q.2
      have lt : (m1.1 70 8).toInt + v5.toInt < (m1.1 70 1).toInt := by have := q.1; omega
      have e2 : (v5 + Int32.ofInt 1).toInt = v5.toInt + 1 := xa1 (by show _ ≤ _ + (1 : Int); omega) (by show _ + (1 : Int) ≤ _; omega)
      have fst : 0 < (v5 + Int32.ofInt 1).toInt → xlt m1 97 122 (m1.1 70 8) := by
        intro _
        by_cases z : 0 < v5.toInt
        · exact h4 z
        · have z : v5 = 0 := x0 (by omega)
          subst z
          have e : m1.1 70 8 + 0 = m1.1 70 8 := Int32.add_zero _
          rw [e] at q
          exact q
      refine xP_i (fun _ => ?_) (fun _ => xP_g (xib_t (by omega) (by omega)) ?_)
      · exact P167_10 f h (by omega) (by omega) (by omega) fst
      · exact P167_10 f h (by omega) (by omega) (by omega) fst
abbrev xWp (m : xS) (m' : xS) : Prop := xT m' ∧ xfr xM8 m m' ∧ (m.1 70 8).toInt ≤ (m'.1 70 8).toInt ∧ (m'.1 70 8).toInt ≤ (m.1 70 1).toInt
/-- isWord -/
theorem P167 {w : Int64} (hF : 500 ≤ F) (h : xT m) (h2 : (m.1 70 8).toInt ≤ (m.1 70 1).toInt) : xP (D167 F w m) (fun v m' => xWp m m' ∧ (v = 0 ∨ (v = 1 ∧ xlt m' 97 122 (m'.1 70 8)))) := by
  unfold D167
  refine xP_b (P164 hF h h2) (fun v m1 q => ?_)
  obtain ⟨q1, q2, q3, q4, -⟩ := q
  have e : m1.1 70 1 = m.1 70 1 := q2.2 70 1 (by decide)
  have b := xT8 q1
  dsimp only
  refine xP_m (P167_10 F q1 (Int.le_refl (0 : Int)) (by rw [e]; show _ + (0 : Int) ≤ _; omega) (by show _ - (0 : Int) < _; omega) (fun z => absurd z (by decide))) (fun v2 m2 q => ?_)
  obtain ⟨rfl, q⟩ := q
  exact ⟨⟨q1, q2, q3, q4⟩, q⟩
/-- passWord -/
theorem P168_0 : ∀ (f : Nat) {m : xS}, xT m → (m.1 70 8).toInt ≤ (m.1 70 1).toInt → (m.1 70 1).toInt - (m.1 70 8).toInt < f → xP (D168_0 F f m) (fun _ m' => xWp m m' ∧ (xlt m 97 122 (m.1 70 8) → (m.1 70 8).toInt < (m'.1 70 8).toInt))
  | 0, m, h, h2, h3 => by omega
  | f + 1, m, h, h2, h3 => by
    have b := xT8 h
    unfold D168_0
    refine xP_b (P166 (F := F) (a := m.1 70 8) h (by omega)) (fun v m1 q => ?_)
    obtain ⟨rfl, q⟩ := q
    dsimp only
    refine xP_i (fun c => ?_) (fun c => ?_)
    · have c : v = 0 := zeq c
      refine xP_r ⟨⟨h, xfr_r _ _, Int.le_refl _, h2⟩, fun z => ?_⟩
      rcases q with q | q
      · exact absurd z q.2
      · rw [c] at q
        exact absurd q.1 (by decide)
    · have c : v ≠ 0 := zneq c
      have q : xlt m1 97 122 (m1.1 70 8) := by
        rcases q with q | q
        · exact absurd q.1 c
        · exact q.2
      have lt := q.1
      have e1 : (m1.1 70 8 + 1).toInt = (m1.1 70 8).toInt + 1 := xa1 (by show _ ≤ _ + (1 : Int); omega) (by show _ + (1 : Int) ≤ _; omega)
      have e2 : ((xu m1 70 8 (m1.1 70 8 + 1)).1 70 8).toInt = (m1.1 70 8).toInt + 1 := by rw [xu_s]; exact e1
      have e3 : (xu m1 70 8 (m1.1 70 8 + 1)).1 70 1 = m1.1 70 1 := rfl
      refine xP_m (P168_0 f (xT_c h (v := m1.1 70 8 + 1) (i := 70) (j := 8) rfl (by omega) (by omega)) (by rw [e2, e3]; omega) (by rw [e2, e3]; omega)) (fun v m' q => ?_)
      obtain ⟨⟨q1, q2, q3, q4⟩, -⟩ := q
      rw [e2] at q3
      exact ⟨⟨q1, xfr_t (xfr_u (by decide)) q2, by omega, q4⟩, fun _ => by omega⟩
theorem P168 (hF : 500 ≤ F) (h : xT m) (h2 : (m.1 70 8).toInt ≤ (m.1 70 1).toInt) : xP (D168 F m) (fun _ m' => xWp m m' ∧ (xlt m 97 122 (m.1 70 8) → (m.1 70 8).toInt < (m'.1 70 8).toInt)) := by
  have b := xT8 h
  exact P168_0 F h h2 (by omega)
/-- takesWord -/
theorem P169 {w : Int64} (hF : 500 ≤ F) (h : xT m) (h2 : (m.1 70 8).toInt ≤ (m.1 70 1).toInt) : xP (D169 F w m) (fun v m' => xWp m m' ∧ (v = 0 ∨ v = 1)) := by
  unfold D169
  refine xP_b (P167 hF h h2) (fun v m1 q => ?_)
  obtain ⟨⟨q1, q2, q3, q4⟩, -⟩ := q
  have e : m1.1 70 1 = m.1 70 1 := q2.2 70 1 (by decide)
  dsimp only
  refine xP_i (fun c => ?_) (fun c => xP_r ⟨⟨q1, q2, q3, q4⟩, Or.inl rfl⟩)
  refine xP_b (P168 hF q1 (by rw [e]; exact q4)) (fun v m2 q => ?_)
  obtain ⟨⟨r1, r2, r3, r4⟩, -⟩ := q
  rw [e] at r4
  dsimp only
  exact xP_r ⟨⟨r1, xfr_t q2 r2, by omega, r4⟩, Or.inr rfl⟩
/-- numberHere -/
theorem P158 {a b c : Int64} : xP (D158 F a b c m) (fun v m' => m' = m ∧ (v = 0 ∨ v = 1)) := by
  unfold D158 D158_17
  exact xP_i (fun _ => xP_r ⟨rfl, Or.inl rfl⟩) (fun _ => xP_i (fun _ => xP_r ⟨rfl, Or.inl rfl⟩) (fun _ => xP_r ⟨rfl, Or.inr rfl⟩))
abbrev xNp (m : xS) (m' : xS) : Prop := xT m' ∧ xfr xM3 m m' ∧ (m.1 70 8).toInt ≤ (m'.1 70 8).toInt ∧ (m'.1 70 8).toInt ≤ (m.1 70 1).toInt
theorem P170_117 {a b c d : Int32} (h : xT m) (h2 : (m.1 70 8).toInt ≤ (m.1 70 1).toInt) (hc : 0 ≤ c.toInt ∧ c.toInt ≤ 400) : xP (D170_117 F a b c d m) (fun v m' => xNp m m' ∧ (m'.1 70 8).toInt = (m.1 70 8).toInt ∧ v = 0 ∧ 1 ≤ (m'.1 70 9).toInt) := by
  unfold D170_117 D170_126
  refine xP_b (P163 (F := F) (k := 1) (a := c) h ⟨by decide, by decide⟩ hc) (fun v m1 q => ?_)
  obtain ⟨q1, q2, q3, q4⟩ := q
  have e : m1.1 70 8 = m.1 70 8 := q3.2 70 8 (by decide)
  dsimp only
  refine xP_i (fun _ => xP_r ⟨⟨q2, xfr_l (by decide) q3, by rw [e]; exact Int.le_refl _, by rw [e]; exact h2⟩, by rw [e], rfl, q4⟩) (fun c2 => absurd q1 (zneq c2))
theorem P170_34 {lo hi v3 : Int32} : ∀ (f : Nat) {v4 : Int32} {m : xS}, xT m → (m.1 70 8).toInt ≤ (m.1 70 1).toInt → (m.1 70 1).toInt - (m.1 70 8).toInt < f → 0 ≤ v3.toInt → v3.toInt ≤ (m.1 70 8).toInt → 0 ≤ v4.toInt → v4.toInt < 100000 → ((m.1 70 8).toInt - v3.toInt = 0 → v4.toInt < 1) → ((m.1 70 8).toInt - v3.toInt = 1 → v4.toInt < 10) → ((m.1 70 8).toInt - v3.toInt = 2 → v4.toInt < 100) → ((m.1 70 8).toInt - v3.toInt = 3 → v4.toInt < 1000) → ((m.1 70 8).toInt - v3.toInt = 4 → v4.toInt < 10000) →
    xP (D170_34 F f lo hi v3 v4 m) (fun v m' => xNp m m' ∧ (xlt m 48 57 (m.1 70 8) → (m.1 70 8).toInt < (m'.1 70 8).toInt) ∧ ((v = 0 ∧ 1 ≤ (m'.1 70 9).toInt) ∨ v = 1))
  | 0, v4, m, h, h2, h3, g1, g2, g3, g4, k0, k1, k2, k3, k4 => by omega
  | f + 1, v4, m, h, h2, h3, g1, g2, g3, g4, k0, k1, k2, k3, k4 => by
    have b := xT8 h
    have es : (m.1 70 8 - v3).toInt = (m.1 70 8).toInt - v3.toInt := xs1 (by omega) (by omega)
    unfold D170_34 D170_126
    refine xP_b (P165 (F := F) (a := m.1 70 8) h (by omega)) (fun v m1 q => ?_)
    obtain ⟨rfl, q⟩ := q
    dsimp only
    refine xP_i (fun c => ?_) (fun c => ?_)
    · have c : v = 0 := zeq c
      have no : ¬ xlt m1 48 57 (m1.1 70 8) := by
        rcases q with q | q
        · exact q.2
        · rw [c] at q
          exact absurd q.1 (by decide)
      have hT : xT (xu m1 70 10 v4) := xT_c h (i := 70) (j := 10) rfl (by omega) (by show _ ≤ (99999 : Int); omega)
      have e8 : (xu m1 70 10 v4).1 70 8 = m1.1 70 8 := rfl
      have e1 : (xu m1 70 10 v4).1 70 1 = m1.1 70 1 := rfl
      have bad : xP (D170_117 F lo hi v3 v4 (xu m1 70 10 v4)) (fun v m' => xNp m1 m' ∧ (xlt m1 48 57 (m1.1 70 8) → (m1.1 70 8).toInt < (m'.1 70 8).toInt) ∧ ((v = 0 ∧ 1 ≤ (m'.1 70 9).toInt) ∨ v = 1)) := by
        refine xP_m (P170_117 hT (by rw [e8, e1]; exact h2) ⟨g1, by omega⟩) (fun v m' q => ?_)
        obtain ⟨⟨q1, q2, q3, q4⟩, -, q6, q7⟩ := q
        exact ⟨⟨q1, xfr_t (xfr_u (by decide)) q2, q3, q4⟩, fun z => absurd z no, Or.inl ⟨q6, q7⟩⟩
      refine xP_i (fun _ => bad) (fun _ => ?_)
      refine xP_b P158 (fun v5 m2 q5 => ?_)
      obtain ⟨rfl, q5⟩ := q5
      dsimp only
      refine xP_i (fun _ => xP_r ⟨⟨hT, xfr_u (by decide), Int.le_refl _, h2⟩, fun z => absurd z no, Or.inr rfl⟩) (fun _ => bad)
    · have c : v ≠ 0 := zneq c
      have q : xlt m1 48 57 (m1.1 70 8) := by
        rcases q with q | q
        · exact absurd q.1 c
        · exact q.2
      obtain ⟨lt, d1, d2⟩ := q
      have e1 : (m1.1 70 8 + 1).toInt = (m1.1 70 8).toInt + 1 := xa1 (by show _ ≤ _ + (1 : Int); omega) (by show _ + (1 : Int) ≤ _; omega)
      have e2 : ((xu m1 70 8 (m1.1 70 8 + 1)).1 70 8).toInt = (m1.1 70 8).toInt + 1 := by rw [xu_s]; exact e1
      have e3 : (xu m1 70 8 (m1.1 70 8 + 1)).1 70 1 = m1.1 70 1 := rfl
      have hT : xT (xu m1 70 8 (m1.1 70 8 + 1)) := xT_c h (v := m1.1 70 8 + 1) (i := 70) (j := 8) rfl (by omega) (by omega)
      have fin : ∀ {v : Int32} {m' : xS}, xNp (xu m1 70 8 (m1.1 70 8 + 1)) m' ∧ (xlt (xu m1 70 8 (m1.1 70 8 + 1)) 48 57 ((xu m1 70 8 (m1.1 70 8 + 1)).1 70 8) → ((xu m1 70 8 (m1.1 70 8 + 1)).1 70 8).toInt < (m'.1 70 8).toInt) ∧ ((v = 0 ∧ 1 ≤ (m'.1 70 9).toInt) ∨ v = 1) → xNp m1 m' ∧ (xlt m1 48 57 (m1.1 70 8) → (m1.1 70 8).toInt < (m'.1 70 8).toInt) ∧ ((v = 0 ∧ 1 ≤ (m'.1 70 9).toInt) ∨ v = 1) := by
        intro v m' q
        obtain ⟨⟨q1, q2, q3, q4⟩, -, q6⟩ := q
        rw [e2] at q3
        exact ⟨⟨q1, xfr_t (xfr_u (by decide)) q2, by omega, q4⟩, fun _ => by omega, q6⟩
      refine xP_i (fun c5 => ?_) (fun c5 => xP_g (xib_t (by omega) (by omega)) ?_)
      · have c5 : (5 : Int) ≤ (m1.1 70 8 - v3).toInt := zt c5
        unfold D170_75
        exact xP_m (P170_34 f hT (by rw [e2, e3]; omega) (by rw [e2, e3]; omega) g1 (by rw [e2]; omega) g3 g4 (by rw [e2]; omega) (by rw [e2]; omega) (by rw [e2]; omega) (by rw [e2]; omega) (by rw [e2]; omega)) (fun v m' q => fin q)
      · have c5 : ¬ (5 : Int) ≤ (m1.1 70 8 - v3).toInt := zf c5
        have hd : v4.toInt < 10000 := by omega
        have t1 : (10 * v4).toInt = 10 * v4.toInt := xm1 (by show _ ≤ (10 : Int) * _; omega) (by show (10 : Int) * _ ≤ _; omega)
        have t2 : (10 * v4 + m1.1 71 (m1.1 70 8).toNatClampNeg).toInt = 10 * v4.toInt + (m1.1 71 (m1.1 70 8).toNatClampNeg).toInt := (xa1 (by omega) (by omega)).trans (by rw [t1])
        have t3 : (10 * v4 + m1.1 71 (m1.1 70 8).toNatClampNeg - 48).toInt = 10 * v4.toInt + (m1.1 71 (m1.1 70 8).toNatClampNeg).toInt - 48 := (xs1 (by show _ ≤ _ - (48 : Int); omega) (by show _ - (48 : Int) ≤ _; omega)).trans (by rw [t2]; rfl)
        unfold D170_75
        refine xP_m (P170_34 f hT (by rw [e2, e3]; omega) (by rw [e2, e3]; omega) g1 (by rw [e2]; omega) ?_ ?_ ?_ ?_ ?_ ?_ ?_) (fun v m' q => fin q)
        · rw [t3]; omega
        · rw [t3]; omega
        · rw [t3, e2]; omega
        · rw [t3, e2]; omega
        · rw [t3, e2]; omega
        · rw [t3, e2]; omega
        · rw [t3, e2]; omega
theorem P170 {lo hi : Int32} (hF : 500 ≤ F) (h : xT m) (h2 : (m.1 70 8).toInt ≤ (m.1 70 1).toInt) : xP (D170 F lo hi m) (fun v m' => xNp m m' ∧ ((v = 0 ∧ 1 ≤ (m'.1 70 9).toInt) ∨ (v = 1 ∧ (m.1 70 8).toInt < (m'.1 70 8).toInt))) := by
  unfold D170
  refine xP_b (P164 hF h h2) (fun v m1 q => ?_)
  obtain ⟨q1, q2, q3, q4, -⟩ := q
  have e : m1.1 70 1 = m.1 70 1 := q2.2 70 1 (by decide)
  have b := xT8 q1
  have q2 : xfr xM3 m m1 := xfr_l (by decide) q2
  dsimp only
  refine xP_b (P165 (F := F) (a := m1.1 70 8) q1 (by omega)) (fun v2 m2 q => ?_)
  obtain ⟨rfl, q⟩ := q
  dsimp only
  refine xP_i (fun c => ?_) (fun c => ?_)
  · have c : v2 ≠ 0 := znet c
    have q : xlt m2 48 57 (m2.1 70 8) := by
      rcases q with q | q
      · exact absurd q.1 c
      · exact q.2
    refine xP_m (P170_34 F (v4 := 0) q1 (by rw [e]; exact q4) (by omega) (by omega) (Int.le_refl _) (Int.le_refl (0 : Int)) (by decide) (fun _ => by decide) (fun _ => by decide) (fun _ => by decide) (fun _ => by decide) (fun _ => by decide)) (fun v m' r => ?_)
    obtain ⟨⟨r1, r2, r3, r4⟩, r5, r6⟩ := r
    have r5 := r5 q
    rw [e] at r4
    exact ⟨⟨r1, xfr_t q2 r2, by omega, r4⟩, r6.imp_right (fun z => ⟨z, by omega⟩)⟩
  · refine xP_b (P163 (F := F) (k := 0) (a := m2.1 70 8) q1 ⟨by decide, by decide⟩ ⟨by omega, by omega⟩) (fun v m3 r => ?_)
    obtain ⟨r1, r2, r3, r4⟩ := r
    have e8 : m3.1 70 8 = m2.1 70 8 := r3.2 70 8 (by decide)
    dsimp only
    rw [r1]
    exact xP_g (by decide) (xP_r ⟨⟨r2, xfr_t q2 (xfr_l (by decide) r3), by rw [e8]; exact q3, by rw [e8]; exact q4⟩, Or.inl ⟨rfl, r4⟩⟩)
end XWRD
end
section
/-! Codes: how deep the stack is behind them; values, terms, sums, comparisons. -/
def zs0 (c : Int32) (k : Nat) : Option Nat :=
  if c.toInt % 16 = 0 then (if k < 64 then some (k + 1) else none) else
  if c.toInt % 16 = 1 then (if 0 ≤ c.toInt / 16 ∧ c.toInt / 16 ≤ 12 ∧ k < 64 then some (k + 1) else none) else
  if c.toInt % 16 = 11 then (if 1 ≤ k then some k else none) else (if 2 ≤ k then some (k - 1) else none)
/-- valid codes alone -/
def zst (c : Int32) (k : Nat) : Option Nat := if 0 ≤ c.toInt ∧ c.toInt % 16 ≠ 15 then zs0 c k else none
def zdp (f : Nat → Int32) (a : Nat) : Nat → Option Nat
  | 0 => some 0
  | n + 1 => (zdp f a n).bind (zst (f (a + n)))
theorem zdp_c {f g : Nat → Int32} {a : Nat} : ∀ {n : Nat}, (∀ j, a ≤ j → j < a + n → g j = f j) → zdp g a n = zdp f a n
  | 0, _ => rfl
  | n + 1, h => by
    show (zdp g a n).bind (zst (g (a + n))) = (zdp f a n).bind (zst (f (a + n)))
    rw [zdp_c (fun j h1 h2 => h j h1 (by omega)), h (a + n) (by omega) (by omega)]
def xg (t b D : Nat) (m : xS) : Prop := (b : Int) ≤ (m.1 73 t).toInt ∧ zdp (m.1 72) (400 * t + b) (((m.1 73 t).toInt).toNat - b) = some D ∧ (D : Int) ≤ (m.1 70 12).toInt
def xq (t : Nat) (M : yM) (m m' : xS) : Prop := xT m' ∧ xfr M m m' ∧ (m.1 70 8).toInt ≤ (m'.1 70 8).toInt ∧ (m'.1 70 8).toInt ≤ (m.1 70 1).toInt ∧ (m.1 73 t).toInt ≤ (m'.1 73 t).toInt ∧ (m.1 70 12).toInt ≤ (m'.1 70 12).toInt ∧ ∀ j : Nat, ((j : Int) < 400 * t + (m.1 73 t).toInt ∨ 400 * t + 400 ≤ j) → m'.1 72 j = m.1 72 j
abbrev xMS : yM := [(70, 70, 8), (70, 70, 9), (70, 70, 10), (70, 70, 12), (72, 72, 1000), (73, 73, 1000)]
abbrev xMP : yM := [(72, 72, 1000), (73, 73, 1000)]
abbrev xMK : yM := [(70, 70, 9), (70, 70, 12)]
theorem xbn_a {i j k n ec : Nat} {fl : List (Nat × Int × Int)} (hi : i < 88) (e : yty i = (1, k, n, ec, fl)) (hk : k < 3) (hj : j < n) : xbn i j = some (yel ec j) := by
  unfold xbn
  rw [if_pos hi, e]
  exact if_pos ⟨hk, hj⟩
section XCOD
variable {F t b D : Nat} {m m' m2 : xS} {K : Int} {M : yM}
theorem xq_t (h1 : yinM M 70 1 = false) (a : xq t M m m') (c : xq t M m' m2) : xq t M m m2 := by
  obtain ⟨a1, a2, a3, a4, a5, a6, a7⟩ := a
  obtain ⟨c1, c2, c3, c4, c5, c6, c7⟩ := c
  have e : m'.1 70 1 = m.1 70 1 := a2.2 70 1 h1
  have c4 : (m2.1 70 8).toInt ≤ (m'.1 70 1).toInt := c4
  rw [e] at c4
  exact ⟨c1, xfr_t a2 c2, by omega, c4, by omega, by omega, fun j hj => (c7 j (by omega)).trans (a7 j hj)⟩
theorem xq_l {N : yM} (h : yleM M N = true) (a : xq t M m m') : xq t N m m' := ⟨a.1, xfr_l h a.2.1, a.2.2⟩
theorem xq_o {N : yM} (h : xT m') (f : xfr N m m') (h1 : (m.1 70 8).toInt ≤ (m'.1 70 8).toInt) (h2 : (m'.1 70 8).toInt ≤ (m.1 70 1).toInt) (hl : yleM N M = true) (h3 : ∀ j : Nat, yinM N 73 (j : Int) = false ∧ yinM N 72 (j : Int) = false) (h4 : yinM N 70 12 = false) : xq t M m m' :=
  ⟨h, xfr_l hl f, h1, h2, by show (m.1 73 t).toInt ≤ (m'.1 73 t).toInt; rw [f.2 73 t (h3 t).1]; exact Int.le_refl _, by show (m.1 70 12).toInt ≤ (m'.1 70 12).toInt; rw [f.2 70 12 h4]; exact Int.le_refl _, fun j _ => f.2 72 j (h3 j).2⟩
theorem xq_w (h : xWp m m') : xq t xMS m m' := xq_o h.1 h.2.1 h.2.2.1 h.2.2.2 (by decide) (fun _ => ⟨rfl, rfl⟩) rfl
theorem xq_n (h : xNp m m') : xq t xMS m m' := xq_o h.1 h.2.1 h.2.2.1 h.2.2.2 (by decide) (fun _ => ⟨rfl, rfl⟩) rfl
theorem xq_9 (hn : (m.1 70 8).toInt ≤ (m.1 70 1).toInt) (h : xT m') (f : xfr xM9 m m') : xq t xMS m m' := xq_o h f (by show (m.1 70 8).toInt ≤ (m'.1 70 8).toInt; rw [f.2 70 8 (by decide)]; exact Int.le_refl _) (by show (m'.1 70 8).toInt ≤ _; rw [f.2 70 8 (by decide)]; exact hn) (by decide) (fun _ => ⟨rfl, rfl⟩) rfl
theorem xq_r (h : xT m) (hn : (m.1 70 8).toInt ≤ (m.1 70 1).toInt) : xq t M m m := ⟨h, xfr_r _ _, Int.le_refl _, hn, Int.le_refl _, Int.le_refl _, fun _ _ => rfl⟩
theorem xg_f {N : yM} (f : xfr N m m') (h3 : ∀ j : Nat, yinM N 73 (j : Int) = false ∧ yinM N 72 (j : Int) = false) (h4 : (m.1 70 12).toInt ≤ (m'.1 70 12).toInt) (g : xg t b D m) : xg t b D m' := by
  obtain ⟨g1, g2, g3⟩ := g
  have e1 : m'.1 73 t = m.1 73 t := f.2 73 t (h3 t).1
  have e2 : m'.1 72 = m.1 72 := funext fun j => f.2 72 j (h3 j).2
  unfold xg
  show (b : Int) ≤ (m'.1 73 t).toInt ∧ zdp (m'.1 72) (400 * t + b) ((m'.1 73 t).toInt.toNat - b) = some D ∧ _
  rw [e1, e2]
  exact ⟨g1, g2, Int.le_trans g3 h4⟩
/-- where a value, a term, a sum may begin -/
def xpr (t b D : Nat) (K : Int) (m : xS) : Prop := t < 6 ∧ xT m ∧ (m.1 70 8).toInt ≤ (m.1 70 1).toInt ∧ (m.1 70 11).toInt = (t : Int) ∧ 0 ≤ K ∧ (m.1 73 t).toInt + K ≤ (m.1 70 8).toInt ∧ xg t b D m
def xV (t b : Nat) (M : yM) (m : xS) (D : Nat) (K : Int) (v : Int32) (m' : xS) : Prop := xq t M m m' ∧ ((v = 0 ∧ 1 ≤ (m'.1 70 9).toInt) ∨ (v = 1 ∧ xg t b D m' ∧ (m'.1 73 t).toInt + K ≤ (m'.1 70 8).toInt))
theorem xpr_f {N : yM} (h : xpr t b D K m) (hT : xT m') (f : xfr N m m') (h1 : (m.1 70 8).toInt ≤ (m'.1 70 8).toInt) (h2 : (m'.1 70 8).toInt ≤ (m.1 70 1).toInt) (h3 : ∀ j : Nat, yinM N 73 (j : Int) = false ∧ yinM N 72 (j : Int) = false) (h4 : (m.1 70 12).toInt ≤ (m'.1 70 12).toInt) (h5 : yinM N 70 11 = false) (h6 : yinM N 70 1 = false) : xpr t b D K m' := by
  obtain ⟨p1, p2, p3, p4, p5, p6, p7⟩ := h
  have e1 : m'.1 73 t = m.1 73 t := f.2 73 t (h3 t).1
  refine ⟨p1, hT, ?_, ?_, p5, ?_, xg_f f h3 h4 p7⟩
  · show _ ≤ (m'.1 70 1).toInt
    rw [f.2 70 1 h6]
    exact h2
  · rw [f.2 70 11 h5]
    exact p4
  · show (m'.1 73 t).toInt + K ≤ _
    rw [e1]
    exact Int.le_trans p6 h1
theorem xpr_w (h : xpr t b D K m) (w : xWp m m') : xpr t b D K m' := xpr_f h w.1 w.2.1 w.2.2.1 w.2.2.2 (fun _ => ⟨rfl, rfl⟩) (by show (m.1 70 12).toInt ≤ (m'.1 70 12).toInt; rw [w.2.1.2 70 12 (by decide)]; exact Int.le_refl _) rfl rfl
theorem xpr_n (h : xpr t b D K m) (w : xNp m m') : xpr t b D K m' := xpr_f h w.1 w.2.1 w.2.2.1 w.2.2.2 (fun _ => ⟨rfl, rfl⟩) (by show (m.1 70 12).toInt ≤ (m'.1 70 12).toInt; rw [w.2.1.2 70 12 (by decide)]; exact Int.le_refl _) rfl rfl
/-- behind a good part -/
theorem xpr_q {D2 : Nat} {K2 : Int} (h : xpr t b D K m) (h1 : yinM M 70 1 = false) (h2 : yinM M 70 11 = false) (hK : 0 ≤ K2) (q : xq t M m m') (g : xg t b D2 m') (l : (m'.1 73 t).toInt + K2 ≤ (m'.1 70 8).toInt) : xpr t b D2 K2 m' := by
  obtain ⟨p1, p2, p3, p4, p5, p6, p7⟩ := h
  obtain ⟨a1, a2, a3, a4, -⟩ := q
  refine ⟨p1, a1, ?_, ?_, hK, l, g⟩
  · show _ ≤ (m'.1 70 1).toInt
    rw [a2.2 70 1 h1]
    exact a4
  · rw [a2.2 70 11 h2]
    exact p4
/-- puts -/
theorem P172 {D2 : Nat} {c w : Int32} (p : xpr t b D (K + 1) m) (hK : 0 ≤ K) (hs : zst (c + 16 * w) D = some D2) (hD : (D2 : Int) ≤ (m.1 70 12).toInt) : xP (D172 F c w m) (fun _ m' => xq t xMP m m' ∧ xg t b D2 m' ∧ (m'.1 73 t).toInt + K ≤ (m'.1 70 8).toInt) := by
  obtain ⟨p1, p2, p3, p4, p5, p6, p7⟩ := p
  have bb := xT8 p2
  have et : (m.1 70 11).toNatClampNeg = t := by show (m.1 70 11).toInt.toNat = t; omega
  have bl : 0 ≤ (m.1 73 t).toInt ∧ (m.1 73 t).toInt ≤ 400 := p2 73 t (0, 400) (by
    have : t = 0 ∨ t = 1 ∨ t = 2 ∨ t = 3 ∨ t = 4 ∨ t = 5 := by omega
    rcases this with rfl | rfl | rfl | rfl | rfl | rfl <;> rfl)
  have p6 : (m.1 73 t).toInt + (K + 1) ≤ (m.1 70 8).toInt := p6
  have e1 : (400 * m.1 70 11).toInt = 400 * (t : Int) := (xm1 (by show _ ≤ (400 : Int) * _; omega) (by show (400 : Int) * _ ≤ _; omega)).trans (by rw [p4]; rfl)
  have e2 : (400 * m.1 70 11 + m.1 73 t).toInt = 400 * (t : Int) + (m.1 73 t).toInt := (xa1 (by omega) (by omega)).trans (by rw [e1])
  have e3 : (400 * m.1 70 11 + m.1 73 t).toNatClampNeg = 400 * t + (m.1 73 t).toInt.toNat := by show (400 * m.1 70 11 + m.1 73 t).toInt.toNat = _; omega
  have e4 : (m.1 73 t + 1).toInt = (m.1 73 t).toInt + 1 := xa1 (by show _ ≤ _ + (1 : Int); omega) (by show _ + (1 : Int) ≤ _; omega)
  have i7 : xib (m.1 70 11) 7 = true := xib_t (by omega) (by omega)
  unfold D172
  rw [et]
  refine xP_g i7 (xP_g (xib_t (by omega) (by omega)) (xP_g i7 (xP_g i7 (xP_r ?_))))
  rw [e3]
  have b2 : xbn 73 t = some (0, 400) := by
    have : t = 0 ∨ t = 1 ∨ t = 2 ∨ t = 3 ∨ t = 4 ∨ t = 5 := by omega
    rcases this with rfl | rfl | rfl | rfl | rfl | rfl <;> rfl
  have hT : xT (xu (xu m 72 (400 * t + (m.1 73 t).toInt.toNat) (c + 16 * w)) 73 t (m.1 73 t + 1)) := by
    refine xT_c (xT_u p2 (fun q hq => ?_)) b2 (by omega) (by omega)
    have : xbn 72 (400 * t + (m.1 73 t).toInt.toNat) = some (-2147483648, 2147483647) := xbn_a (k := 0) (n := 2400) (ec := 0) (by decide) rfl (by decide) (by omega)
    rw [this] at hq
    cases hq
    have := y32 (c + 16 * w)
    exact ⟨this.1, by show _ ≤ (2147483647 : Int); omega⟩
  have l2 : (xu (xu m 72 (400 * t + (m.1 73 t).toInt.toNat) (c + 16 * w)) 73 t (m.1 73 t + 1)).1 73 t = m.1 73 t + 1 := xu_s _ _ _ _
  have s2 : ∀ j, j ≠ 400 * t + (m.1 73 t).toInt.toNat → (xu (xu m 72 (400 * t + (m.1 73 t).toInt.toNat) (c + 16 * w)) 73 t (m.1 73 t + 1)).1 72 j = m.1 72 j := fun j hj => (xu_o (fun z => by omega)).trans (xu_o (fun z => hj z.2))
  have s3 : (xu (xu m 72 (400 * t + (m.1 73 t).toInt.toNat) (c + 16 * w)) 73 t (m.1 73 t + 1)).1 72 (400 * t + (m.1 73 t).toInt.toNat) = c + 16 * w := (xu_o (fun z => by omega)).trans (xu_s _ _ _ _)
  have fr : xfr xMP m (xu (xu m 72 (400 * t + (m.1 73 t).toInt.toNat) (c + 16 * w)) 73 t (m.1 73 t + 1)) := xfr_t (xfr_u rfl) (xfr_u rfl)
  refine ⟨⟨hT, fr, Int.le_refl _, p3, ?_, Int.le_refl _, fun j hj => s2 j ?_⟩, ⟨?_, ?_, hD⟩, ?_⟩
  · show (m.1 73 t).toInt ≤ _
    rw [l2, e4]
    omega
  · have hj : (j : Int) < 400 * (t : Int) + (m.1 73 t).toInt ∨ 400 * t + 400 ≤ j := hj
    omega
  · show (b : Int) ≤ _
    rw [l2, e4]
    have : (b : Int) ≤ (m.1 73 t).toInt := p7.1
    omega
  · have g1 : (b : Int) ≤ (m.1 73 t).toInt := p7.1
    rw [l2, e4, show ((m.1 73 t).toInt + 1).toNat - b = ((m.1 73 t).toInt.toNat - b) + 1 by omega]
    show (zdp _ _ _).bind _ = _
    rw [zdp_c (f := m.1 72) (fun j h1 h2 => s2 j (by omega)), p7.2.1, show 400 * t + b + ((m.1 73 t).toInt.toNat - b) = 400 * t + (m.1 73 t).toInt.toNat by omega, s3]
    exact hs
  · skip
    rw [l2, e4]
    show _ ≤ (m.1 70 8).toInt
    omega
/-- makes -/
theorem P173 {a : Int32} (h : xT m) (ha : 0 ≤ a.toInt ∧ a.toInt ≤ 400) : xP (D173 F a m) (fun v m' => xT m' ∧ xfr xMK m m' ∧ ((v = 0 ∧ 1 ≤ (m'.1 70 9).toInt ∧ (m'.1 70 12).toInt = (m.1 70 12).toInt) ∨ (v = 1 ∧ (m'.1 70 12).toInt = (m.1 70 12).toInt + 1))) := by
  have b := h 70 12 (0, 60) rfl
  have b1 : (0 : Int) ≤ (m.1 70 12).toInt := b.1
  have b2 : (m.1 70 12).toInt ≤ 60 := b.2
  unfold D173
  refine xP_i (fun c => ?_) (fun c => ?_)
  · have c : (m.1 70 12).toInt ≠ (60 : Int) := zt c
    have e : (m.1 70 12 + 1).toInt = (m.1 70 12).toInt + 1 := xa1 (by show _ ≤ _ + (1 : Int); omega) (by show _ + (1 : Int) ≤ _; omega)
    refine xP_r ⟨xT_c h (i := 70) (j := 12) rfl (by omega) (by omega), xfr_u (by decide), Or.inr ⟨rfl, ?_⟩⟩
    show ((xu m 70 12 (m.1 70 12 + 1)).1 70 12).toInt = _
    rw [xu_s]
    exact e
  · refine xP_b (P163 (F := F) (k := 3) (a := a) h ⟨by decide, by decide⟩ ha) (fun v m1 q => ?_)
    obtain ⟨q1, q2, q3, q4⟩ := q
    dsimp only
    rw [q1]
    refine xP_g (by decide) (xP_r ⟨q2, xfr_l (by decide) q3, Or.inl ⟨rfl, q4, ?_⟩⟩)
    show (m1.1 70 12).toInt = _
    rw [q3.2 70 12 (by decide)]
theorem xmk (hn : (m.1 70 8).toInt ≤ (m.1 70 1).toInt) (h : xT m') (f : xfr xMK m m') (hm : (m.1 70 12).toInt ≤ (m'.1 70 12).toInt) : xq t xMS m m' ∧ (∀ {b D K}, xpr t b D K m → xpr t b D K m') := by
  have e8 : m'.1 70 8 = m.1 70 8 := f.2 70 8 (by decide)
  have n1 : (m.1 70 8).toInt ≤ (m'.1 70 8).toInt := by show (m.1 70 8).toInt ≤ (m'.1 70 8).toInt; rw [e8]; exact Int.le_refl _
  have n2 : (m'.1 70 8).toInt ≤ (m.1 70 1).toInt := by show (m'.1 70 8).toInt ≤ _; rw [e8]; exact hn
  refine ⟨⟨h, xfr_l (by decide) f, n1, n2, ?_, hm, fun j _ => f.2 72 j rfl⟩, fun p => xpr_f p h f n1 n2 (fun _ => ⟨rfl, rfl⟩) hm rfl rfl⟩
  show (m.1 73 t).toInt ≤ (m'.1 73 t).toInt
  rw [f.2 73 t rfl]
  exact Int.le_refl _
theorem xlt_f {N : yM} {lo hi : Int} {a : Int32} (f : xfr N m m') (h1 : yinM N 70 1 = false) (h2 : ∀ j : Nat, yinM N 71 (j : Int) = false) (h : xlt m lo hi a) : xlt m' lo hi a := by
  unfold xlt
  rw [f.2 70 1 h1, f.2 71 _ (h2 _)]
  exact h
/-- wordHere -/
theorem P171 (hF : 500 ≤ F) (h : xT m) (h2 : (m.1 70 8).toInt ≤ (m.1 70 1).toInt) : xP (D171 F m) (fun v m' => xWp m m' ∧ (v = -1 ∨ (0 ≤ v.toInt ∧ v.toInt ≤ 12 ∧ xlt m' 97 122 (m'.1 70 8)))) := by
  have st : ∀ {w : Int64} {m1 : xS}, xWp m m1 → xP (D167 F w m1) (fun v m' => xWp m m' ∧ (v = 0 ∨ (v = 1 ∧ xlt m' 97 122 (m'.1 70 8)))) := by
    intro w m1 q
    obtain ⟨q1, q2, q3, q4⟩ := q
    have e : m1.1 70 1 = m.1 70 1 := q2.2 70 1 (by decide)
    refine xP_m (P167 hF q1 (by rw [e]; exact q4)) (fun v m' r => ?_)
    obtain ⟨⟨r1, r2, r3, r4⟩, r5⟩ := r
    rw [e] at r4
    exact ⟨⟨r1, xfr_t q2 r2, by omega, r4⟩, r5⟩
  have ok : ∀ {k v : Int32} {m1 : xS}, xWp m m1 → (v = 0 ∨ (v = 1 ∧ xlt m1 97 122 (m1.1 70 8))) → zcmp .eq v 0 = false → 0 ≤ k.toInt → k.toInt ≤ 12 → xWp m m1 ∧ (k = -1 ∨ (0 ≤ k.toInt ∧ k.toInt ≤ 12 ∧ xlt m1 97 122 (m1.1 70 8))) := by
    intro k v m1 q r c k1 k2
    refine ⟨q, Or.inr ⟨k1, k2, ?_⟩⟩
    rcases r with r | r
    · exact absurd r (zneq c)
    · exact r.2
  have w0 : xWp m m := ⟨h, xfr_r _ _, Int.le_refl _, h2⟩
  unfold D171
  refine xP_b (st w0) (fun v0 m0 r0 => ?_)
  dsimp only
  refine xP_i (fun c0 => ?_) (fun c0 => xP_r (ok r0.1 r0.2 c0 (by decide) (by decide)))
  refine xP_b (st r0.1) (fun v1 m1 r1 => ?_)
  dsimp only
  refine xP_i (fun c1 => ?_) (fun c1 => xP_r (ok r1.1 r1.2 c1 (by decide) (by decide)))
  refine xP_b (st r1.1) (fun v2 m2 r2 => ?_)
  dsimp only
  refine xP_i (fun c2 => ?_) (fun c2 => xP_r (ok r2.1 r2.2 c2 (by decide) (by decide)))
  refine xP_b (st r2.1) (fun v3 m3 r3 => ?_)
  dsimp only
  refine xP_i (fun c3 => ?_) (fun c3 => xP_r (ok r3.1 r3.2 c3 (by decide) (by decide)))
  refine xP_b (st r3.1) (fun v4 m4 r4 => ?_)
  dsimp only
  refine xP_i (fun c4 => ?_) (fun c4 => xP_r (ok r4.1 r4.2 c4 (by decide) (by decide)))
  refine xP_b (st r4.1) (fun v5 m5 r5 => ?_)
  dsimp only
  refine xP_i (fun c5 => ?_) (fun c5 => xP_r (ok r5.1 r5.2 c5 (by decide) (by decide)))
  refine xP_b (st r5.1) (fun v6 m6 r6 => ?_)
  dsimp only
  refine xP_i (fun c6 => ?_) (fun c6 => xP_r (ok r6.1 r6.2 c6 (by decide) (by decide)))
  refine xP_b (st r6.1) (fun v7 m7 r7 => ?_)
  dsimp only
  refine xP_i (fun c7 => ?_) (fun c7 => xP_r (ok r7.1 r7.2 c7 (by decide) (by decide)))
  refine xP_b (st r7.1) (fun v8 m8 r8 => ?_)
  dsimp only
  refine xP_i (fun c8 => ?_) (fun c8 => xP_r (ok r8.1 r8.2 c8 (by decide) (by decide)))
  refine xP_b (st r8.1) (fun v9 m9 r9 => ?_)
  dsimp only
  refine xP_i (fun c9 => ?_) (fun c9 => xP_r (ok r9.1 r9.2 c9 (by decide) (by decide)))
  refine xP_b (st r9.1) (fun v10 m10 r10 => ?_)
  dsimp only
  refine xP_i (fun c10 => ?_) (fun c10 => xP_r (ok r10.1 r10.2 c10 (by decide) (by decide)))
  refine xP_b (st r10.1) (fun v11 m11 r11 => ?_)
  dsimp only
  refine xP_i (fun c11 => ?_) (fun c11 => xP_r (ok r11.1 r11.2 c11 (by decide) (by decide)))
  refine xP_b (st r11.1) (fun v12 m12 r12 => ?_)
  dsimp only
  exact xP_i (fun _ => xP_r ⟨r12.1, Or.inl rfl⟩) (fun c => xP_r (ok r12.1 r12.2 c (by decide) (by decide)))
theorem zst_b {c : Int32} {k : Nat} (h0 : c.toInt % 16 ≠ 0) (h1 : c.toInt % 16 ≠ 1) (h2 : c.toInt % 16 ≠ 11) (h3 : 0 ≤ c.toInt ∧ c.toInt % 16 ≠ 15) (hk : 2 ≤ k) : zst c k = some (k - 1) := by
  unfold zst zs0
  rw [if_pos h3, if_neg h0, if_neg h1, if_neg h2, if_pos hk]
/-- value -/
theorem P177 (hF : 500 ≤ F) (p : xpr t b D K m) : xP (D177 F m) (xV t b xMS m (D + 1) K) := by
  have p0 := p
  obtain ⟨p1, p2, p3, p4, p5, p6, p7⟩ := p
  have bm : (m.1 70 12).toInt ≤ 60 := (p2 70 12 (0, 60) rfl).2
  unfold D177 D177_39
  refine xP_b (P164 hF p2 p3) (fun v0 m1 q => ?_)
  obtain ⟨q1, q2, q3, q4, -⟩ := q
  have w1 : xWp m m1 := ⟨q1, q2, q3, q4⟩
  have pr1 := xpr_w p0 w1
  have b1 := xT8 q1
  have e1 : m1.1 70 1 = m.1 70 1 := q2.2 70 1 (by decide)
  dsimp only
  refine xP_b (P165 (F := F) (a := m1.1 70 8) q1 (by omega)) (fun v1 mx q => ?_)
  obtain ⟨rfl, dg⟩ := q
  dsimp only
  refine xP_i (fun c => ?_) (fun c => ?_)
  · refine xP_b (P171 hF q1 pr1.2.2.1) (fun v2 m2 q => ?_)
    obtain ⟨w2, r⟩ := q
    have pr2 := xpr_w pr1 w2
    have x2 : xq t xMS m m2 := xq_t rfl (xq_w w1) (xq_w w2)
    dsimp only
    refine xP_i (fun c2 => ?_) (fun c2 => ?_)
    · have c2 : (0 : Int) ≤ v2.toInt := zt c2
      obtain ⟨r1, r2, r3⟩ : 0 ≤ v2.toInt ∧ v2.toInt ≤ 12 ∧ xlt m2 97 122 (m2.1 70 8) := by
        rcases r with r | r
        · rw [r] at c2
          exact absurd c2 (by decide)
        · exact r
      refine xP_b (P173 (F := F) (a := mx.1 70 8) w2.1 ⟨by omega, by omega⟩) (fun v3 m3 q => ?_)
      obtain ⟨s1, s2, s3⟩ := q
      have mm : (m2.1 70 12).toInt ≤ (m3.1 70 12).toInt := by rcases s3 with s3 | s3 <;> omega
      obtain ⟨y1, y2⟩ := xmk (t := t) pr2.2.2.1 s1 s2 mm
      have pr3 := y2 pr2
      have x3 := xq_t rfl x2 y1
      dsimp only
      refine xP_i (fun c3 => ?_) (fun c3 => ?_)
      · have c3 : v3 ≠ 0 := znet c3
        have s4 : (m3.1 70 12).toInt = (m2.1 70 12).toInt + 1 := by
          rcases s3 with s3 | s3
          · exact absurd s3.1 c3
          · exact s3.2
        refine xP_b (P168 hF s1 pr3.2.2.1) (fun v4 m4 q => ?_)
        obtain ⟨w4, u⟩ := q
        have r4 : xlt m3 97 122 (m3.1 70 8) := by
          rw [s2.2 70 8 (by decide)]
          exact xlt_f s2 rfl (fun _ => rfl) r3
        have u := u r4
        have pr4 := xpr_w pr3 w4
        have x4 := xq_t rfl x3 (xq_w w4)
        have g2 : (D : Int) ≤ (m2.1 70 12).toInt := pr2.2.2.2.2.2.2.2.2
        have b3 : (m3.1 70 12).toInt ≤ 60 := (s1 70 12 (0, 60) rfl).2
        have e4 : m4.1 70 12 = m3.1 70 12 := w4.2.1.2 70 12 (by decide)
        have l4 : (m4.1 73 t).toInt + (K + 1) ≤ (m4.1 70 8).toInt := by
          have := pr3.2.2.2.2.2.1
          have e : m4.1 73 t = m3.1 73 t := w4.2.1.2 73 t rfl
          show (m4.1 73 t).toInt + (K + 1) ≤ (m4.1 70 8).toInt
          rw [e]
          omega
        dsimp only
        have ec : (1 + 16 * v2).toInt = 1 + 16 * v2.toInt := by
          have a1 : (16 * v2).toInt = 16 * v2.toInt := xm1 (by show _ ≤ (16 : Int) * _; omega) (by show (16 : Int) * _ ≤ _; omega)
          exact (xa1 (by show _ ≤ (1 : Int) + _; omega) (by show (1 : Int) + _ ≤ _; omega)).trans (by rw [a1]; rfl)
        refine xP_b (P172 (F := F) (D2 := D + 1) (xpr_q pr4 (M := xMS) rfl rfl (by omega) (xq_r pr4.2.1 pr4.2.2.1) pr4.2.2.2.2.2.2 l4) p5 ?_ ?_) (fun v5 m5 q => ?_)
        · unfold zst zs0
          rw [ec, if_pos ⟨by omega, by omega⟩, if_neg (by omega), if_pos (by omega), if_pos ⟨by omega, by omega, by omega⟩]
        · show ((D + 1 : Nat) : Int) ≤ (m4.1 70 12).toInt
          rw [e4]
          omega
        · obtain ⟨z1, z2, z3⟩ := q
          exact xP_r ⟨xq_t rfl x4 (xq_l (by decide) z1), Or.inr ⟨rfl, z2, z3⟩⟩
      · have c3 : v3 = 0 := zne c3
        refine xP_r ⟨x3, Or.inl ⟨rfl, ?_⟩⟩
        rcases s3 with s3 | s3
        · exact s3.2.1
        · rw [c3] at s3
          exact absurd s3.1 (by decide)
    · refine xP_b (P163 (F := F) (k := 0) (a := mx.1 70 8) w2.1 ⟨by decide, by decide⟩ ⟨by omega, by omega⟩) (fun v3 m3 q => ?_)
      obtain ⟨s1, s2, s3, s4⟩ := q
      dsimp only
      rw [s1]
      exact xP_g (by decide) (xP_r ⟨xq_t rfl x2 (xq_9 pr2.2.2.1 s2 s3), Or.inl ⟨rfl, s4⟩⟩)
  · refine xP_b (P170 (lo := 0) (hi := 99999) hF q1 pr1.2.2.1) (fun v2 m2 q => ?_)
    obtain ⟨w2, r⟩ := q
    have pr2 := xpr_n pr1 w2
    have x2 : xq t xMS m m2 := xq_t rfl (xq_w w1) (xq_n w2)
    dsimp only
    refine xP_i (fun c2 => ?_) (fun c2 => ?_)
    · have c2 : v2 = 0 := zeq c2
      refine xP_r ⟨x2, Or.inl ⟨rfl, ?_⟩⟩
      rcases r with r | r
      · exact r.2
      · rw [c2] at r
        exact absurd r.1 (by decide)
    · have c2 : v2 ≠ 0 := zneq c2
      have r : (mx.1 70 8).toInt < (m2.1 70 8).toInt := by
        rcases r with r | r
        · exact absurd r.1 c2
        · exact r.2
      refine xP_b (P173 (F := F) (a := mx.1 70 8) w2.1 ⟨by omega, by omega⟩) (fun v3 m3 q => ?_)
      obtain ⟨s1, s2, s3⟩ := q
      have mm : (m2.1 70 12).toInt ≤ (m3.1 70 12).toInt := by rcases s3 with s3 | s3 <;> omega
      obtain ⟨y1, y2⟩ := xmk (t := t) pr2.2.2.1 s1 s2 mm
      have pr3 := y2 pr2
      have x3 := xq_t rfl x2 y1
      dsimp only
      refine xP_i (fun c3 => ?_) (fun c3 => ?_)
      · have c3 : v3 ≠ 0 := znet c3
        have s4 : (m3.1 70 12).toInt = (m2.1 70 12).toInt + 1 := by
          rcases s3 with s3 | s3
          · exact absurd s3.1 c3
          · exact s3.2
        have g2 : (D : Int) ≤ (m2.1 70 12).toInt := pr2.2.2.2.2.2.2.2.2
        have b3 : (m3.1 70 12).toInt ≤ 60 := (s1 70 12 (0, 60) rfl).2
        have bn : 0 ≤ (m3.1 70 10).toInt ∧ (m3.1 70 10).toInt ≤ 99999 := s1 70 10 (0, 99999) rfl
        have l3 : (m3.1 73 t).toInt + (K + 1) ≤ (m3.1 70 8).toInt := by
          have := pr1.2.2.2.2.2.1
          have e : m3.1 73 t = m2.1 73 t := s2.2 73 t rfl
          have e' : m2.1 73 t = mx.1 73 t := w2.2.1.2 73 t rfl
          have e8 : m3.1 70 8 = m2.1 70 8 := s2.2 70 8 (by decide)
          have l1 : (mx.1 73 t).toInt + K ≤ (mx.1 70 8).toInt := this
          show (m3.1 73 t).toInt + (K + 1) ≤ (m3.1 70 8).toInt
          rw [e, e', e8]
          omega
        have ec : (0 + 16 * m3.1 70 10).toInt = 16 * (m3.1 70 10).toInt := by
          have a1 : (16 * m3.1 70 10).toInt = 16 * (m3.1 70 10).toInt := xm1 (by show _ ≤ (16 : Int) * _; omega) (by show (16 : Int) * _ ≤ _; omega)
          exact (xa1 (by show _ ≤ (0 : Int) + _; omega) (by show (0 : Int) + _ ≤ _; omega)).trans (by rw [a1]; show (0 : Int) + _ = _; omega)
        refine xP_b (P172 (F := F) (D2 := D + 1) (xpr_q pr3 (M := xMS) rfl rfl (by omega) (xq_r pr3.2.1 pr3.2.2.1) pr3.2.2.2.2.2.2 l3) p5 ?_ ?_) (fun v5 m5 q => ?_)
        · unfold zst zs0
          rw [ec, if_pos ⟨by omega, by omega⟩, if_pos (by omega), if_pos (by omega)]
        · omega
        · obtain ⟨z1, z2, z3⟩ := q
          exact xP_r ⟨xq_t rfl x3 (xq_l (by decide) z1), Or.inr ⟨rfl, z2, z3⟩⟩
      · have c3 : v3 = 0 := zne c3
        refine xP_r ⟨x3, Or.inl ⟨rfl, ?_⟩⟩
        rcases s3 with s3 | s3
        · exact s3.2.1
        · rw [c3] at s3
          exact absurd s3.1 (by decide)
end XCOD
end
section
/-! Terms, sums, comparisons. -/
section XTRM
variable {F t b D : Nat} {m m' : xS} {K : Int}
/-- a byte is passed -/
theorem xpass (p : xpr t b D K m) (lt : (m.1 70 8).toInt < (m.1 70 1).toInt) : xWp m (xu m 70 8 (m.1 70 8 + 1)) ∧ ((xu m 70 8 (m.1 70 8 + 1)).1 70 8).toInt = (m.1 70 8).toInt + 1 ∧ xpr t b D (K + 1) (xu m 70 8 (m.1 70 8 + 1)) := by
  have bb := xT8 p.2.1
  have e1 : (m.1 70 8 + 1).toInt = (m.1 70 8).toInt + 1 := xa1 (by show _ ≤ _ + (1 : Int); omega) (by show _ + (1 : Int) ≤ _; omega)
  have e2 : ((xu m 70 8 (m.1 70 8 + 1)).1 70 8).toInt = (m.1 70 8).toInt + 1 := by rw [xu_s]; exact e1
  have w : xWp m (xu m 70 8 (m.1 70 8 + 1)) := ⟨xT_c p.2.1 (v := m.1 70 8 + 1) (i := 70) (j := 8) rfl (by omega) (by omega), xfr_u (by decide), by omega, by omega⟩
  have pr := xpr_w p w
  refine ⟨w, e2, xpr_q pr (M := xMS) rfl rfl (by have := p.2.2.2.2.1; omega) (xq_r pr.2.1 pr.2.2.1) pr.2.2.2.2.2.2 ?_⟩
  have l : (m.1 73 t).toInt + K ≤ (m.1 70 8).toInt := p.2.2.2.2.2.1
  show (m.1 73 t).toInt + (K + 1) ≤ _
  omega
theorem P178_74 {g : xS → Option (Int32 × xS)} {w : Int32} (hF : 500 ≤ F) (p : xpr t b D K m) (hD : 1 ≤ D) (lt : (m.1 70 8).toInt < (m.1 70 1).toInt) (hw : ∀ k, 2 ≤ k → zst (w + 16 * 0) k = some (k - 1)) (hg : ∀ m', xpr t b D K m' → (m.1 70 8).toInt < (m'.1 70 8).toInt → (m'.1 70 1).toInt = (m.1 70 1).toInt → xP (g m') (xV t b xMS m' D K)) : xP (D178_74 F g w m) (xV t b xMS m D K) := by
  obtain ⟨w1, e1, p1⟩ := xpass p lt
  unfold D178_74
  refine xP_b (P177 hF p1) (fun v m2 q => ?_)
  obtain ⟨q1, q2⟩ := q
  have x2 : xq t xMS m m2 := xq_t rfl (xq_w w1) q1
  dsimp only
  refine xP_i (fun c => ?_) (fun c => ?_)
  · have c : v ≠ 0 := znet c
    obtain ⟨q3, q4⟩ : xg t b (D + 1) m2 ∧ (m2.1 73 t).toInt + (K + 1) ≤ (m2.1 70 8).toInt := by
      rcases q2 with q2 | q2
      · exact absurd q2.1 c
      · exact q2.2
    have p2 : xpr t b (D + 1) (K + 1) m2 := xpr_q p1 rfl rfl p1.2.2.2.2.1 q1 q3 q4
    refine xP_b (P172 (F := F) (D2 := D) p2 p.2.2.2.2.1 (hw (D + 1) (by omega)) ?_) (fun v3 m3 q => ?_)
    · have : ((D + 1 : Nat) : Int) ≤ (m2.1 70 12).toInt := q3.2.2
      omega
    · obtain ⟨z1, z2, z3⟩ := q
      have z1 : xq t xMS m2 m3 := xq_l (by decide) z1
      have x3 := xq_t rfl x2 z1
      have p3 : xpr t b D K m3 := xpr_q p rfl rfl p.2.2.2.2.1 x3 z2 z3
      have et : m3.1 70 1 = m.1 70 1 := x3.2.1.2 70 1 rfl
      have n3 : (m.1 70 8).toInt < (m3.1 70 8).toInt := by
        have h1 : ((xu m 70 8 (m.1 70 8 + 1)).1 70 8).toInt ≤ (m2.1 70 8).toInt := q1.2.2.1
        have h2 : (m2.1 70 8).toInt ≤ (m3.1 70 8).toInt := z1.2.2.1
        omega
      dsimp only
      refine xP_m (hg m3 p3 n3 (by rw [et])) (fun v4 m4 q => ?_)
      exact ⟨xq_t rfl x3 q.1, q.2⟩
  · have c : v = 0 := zne c
    refine xP_r ⟨x2, Or.inl ⟨rfl, ?_⟩⟩
    rcases q2 with q2 | q2
    · exact q2.2
    · rw [c] at q2
      exact absurd q2.1 (by decide)
theorem zst_k {w : Int32} (h : (decide ((w + 16 * 0).toInt % 16 ≠ 0) && (decide ((w + 16 * 0).toInt % 16 ≠ 1) && (decide ((w + 16 * 0).toInt % 16 ≠ 11) && (decide (0 ≤ (w + 16 * 0).toInt) && decide ((w + 16 * 0).toInt % 16 ≠ 15))))) = true) : ∀ k, 2 ≤ k → zst (w + 16 * 0) k = some (k - 1) := by
  simp only [Bool.and_eq_true, decide_eq_true_eq] at h
  exact fun k hk => zst_b h.1 h.2.1 h.2.2.1 h.2.2.2 hk
theorem P178_36 {g : xS → Option (Int32 × xS)} (hF : 500 ≤ F) (p : xpr t b D K m) (hD : 1 ≤ D) (lt : (m.1 70 8).toInt < (m.1 70 1).toInt) (hg : ∀ m', xpr t b D K m' → (m.1 70 8).toInt < (m'.1 70 8).toInt → (m'.1 70 1).toInt = (m.1 70 1).toInt → xP (g m') (xV t b xMS m' D K)) : xP (D178_36 F g m) (xV t b xMS m D K) := by
  have bb := xT8 p.2.1
  have ib : xib (m.1 70 8) 400 = true := xib_t (by omega) (by omega)
  unfold D178_36
  exact xP_g ib (xP_i (fun _ => xP_g ib (xP_i (fun _ => P178_74 hF p hD lt (zst_k (by decide)) hg) (fun _ => P178_74 hF p hD lt (zst_k (by decide)) hg))) (fun _ => P178_74 hF p hD lt (zst_k (by decide)) hg))
/-- what see says of where it stands -/
theorem xsee {v c : Int32} {m1 : xS} (q : (v = -1 ∧ (m1.1 70 8).toInt = (m.1 70 1).toInt) ∨ (v = m.1 71 (m1.1 70 8).toNatClampNeg &&& 255 ∧ (m1.1 70 8).toInt < (m.1 70 1).toInt)) (h : v = c) (hc : c ≠ -1) : (m1.1 70 8).toInt < (m.1 70 1).toInt := by
  rcases q with q | q
  · exact absurd (h.symm.trans q.1) hc
  · exact q.2
theorem P178_9 (hF : 500 ≤ F) : ∀ (f : Nat) {m : xS}, xpr t b D K m → 1 ≤ D → (m.1 70 1).toInt - (m.1 70 8).toInt < f → xP (D178_9 F f m) (xV t b xMS m D K)
  | 0, m, p, hD, hf => by have := p.2.2.1; omega
  | f + 1, m, p, hD, hf => by
    have again : ∀ {m0 : xS}, xWp m m0 → (m0.1 70 8).toInt < (m0.1 70 1).toInt → xP (D178_36 F (D178_9 F f) m0) (xV t b xMS m D K) := by
      intro m0 w lt
      have p0 := xpr_w p w
      have et : m0.1 70 1 = m.1 70 1 := w.2.1.2 70 1 rfl
      have n0 := w.2.2.1
      refine xP_m (P178_36 hF p0 hD lt (fun m' p' h1 h2 => P178_9 hF f p' hD ?_)) (fun v m' q => ⟨xq_t rfl (xq_w w) q.1, q.2⟩)
      rw [h2, et]
      omega
    unfold D178_9
    refine xP_b (P164 hF p.2.1 p.2.2.1) (fun v1 m1 q => ?_)
    obtain ⟨q1, q2, q3, q4, q5⟩ := q
    have w1 : xWp m m1 := ⟨q1, q2, q3, q4⟩
    have et1 : m1.1 70 1 = m.1 70 1 := q2.2 70 1 rfl
    dsimp only
    refine xP_i (fun c => again w1 ?_) (fun _ => ?_)
    · rw [et1]
      exact xsee q5 (zeq c) (by decide)
    refine xP_b (P164 hF q1 (by rw [et1]; exact q4)) (fun v2 m2 r => ?_)
    obtain ⟨r1, r2, r3, r4, r5⟩ := r
    have et2 : m2.1 70 1 = m1.1 70 1 := r2.2 70 1 rfl
    have w2 : xWp m m2 := ⟨r1, xfr_t q2 r2, by omega, by rw [et1] at r4; exact r4⟩
    dsimp only
    refine xP_i (fun c => again w2 ?_) (fun _ => ?_)
    · rw [et2]
      exact xsee r5 (zeq c) (by decide)
    refine xP_b (P164 hF r1 (by rw [et2]; exact r4)) (fun v3 m3 s => ?_)
    obtain ⟨s1, s2, s3, s4, s5⟩ := s
    have et3 : m3.1 70 1 = m2.1 70 1 := s2.2 70 1 rfl
    have w3 : xWp m m3 := ⟨s1, xfr_t (xfr_t q2 r2) s2, by omega, by rw [et2, et1] at s4; exact s4⟩
    have p3 := xpr_w p w3
    dsimp only
    refine xP_i (fun c => xP_r ⟨xq_w w3, Or.inr ⟨rfl, p3.2.2.2.2.2.2, p3.2.2.2.2.2.1⟩⟩) (fun c => again w3 ?_)
    rw [et3]
    exact xsee s5 (zne c) (by decide)
/-- term -/
theorem P178 (hF : 500 ≤ F) (p : xpr t b D K m) : xP (D178 F m) (xV t b xMS m (D + 1) K) := by
  unfold D178
  refine xP_b (P177 hF p) (fun v m1 q => ?_)
  obtain ⟨q1, q2⟩ := q
  dsimp only
  refine xP_i (fun c => ?_) (fun c => ?_)
  · have c : v ≠ 0 := znet c
    obtain ⟨q3, q4⟩ : xg t b (D + 1) m1 ∧ (m1.1 73 t).toInt + K ≤ (m1.1 70 8).toInt := by
      rcases q2 with q2 | q2
      · exact absurd q2.1 c
      · exact q2.2
    have p1 : xpr t b (D + 1) K m1 := xpr_q p rfl rfl p.2.2.2.2.1 q1 q3 q4
    have bb := xT8 p1.2.1
    exact xP_m (P178_9 hF F p1 (by omega) (by omega)) (fun v m' q => ⟨xq_t rfl q1 q.1, q.2⟩)
  · have c : v = 0 := zne c
    refine xP_r ⟨q1, Or.inl ⟨rfl, ?_⟩⟩
    rcases q2 with q2 | q2
    · exact q2.2
    · rw [c] at q2
      exact absurd q2.1 (by decide)
theorem P179_46 {g : xS → Option (Int32 × xS)} {w : Int32} (hF : 500 ≤ F) (p : xpr t b D K m) (hD : 1 ≤ D) (lt : (m.1 70 8).toInt < (m.1 70 1).toInt) (hw : ∀ k, 2 ≤ k → zst (w + 16 * 0) k = some (k - 1)) (hg : ∀ m', xpr t b D K m' → (m.1 70 8).toInt < (m'.1 70 8).toInt → (m'.1 70 1).toInt = (m.1 70 1).toInt → xP (g m') (xV t b xMS m' D K)) : xP (D179_46 F g w m) (xV t b xMS m D K) := by
  obtain ⟨w1, e1, p1⟩ := xpass p lt
  unfold D179_46
  refine xP_b (P178 hF p1) (fun v m2 q => ?_)
  obtain ⟨q1, q2⟩ := q
  have x2 : xq t xMS m m2 := xq_t rfl (xq_w w1) q1
  dsimp only
  refine xP_i (fun c => ?_) (fun c => ?_)
  · have c : v ≠ 0 := znet c
    obtain ⟨q3, q4⟩ : xg t b (D + 1) m2 ∧ (m2.1 73 t).toInt + (K + 1) ≤ (m2.1 70 8).toInt := by
      rcases q2 with q2 | q2
      · exact absurd q2.1 c
      · exact q2.2
    have p2 : xpr t b (D + 1) (K + 1) m2 := xpr_q p1 rfl rfl p1.2.2.2.2.1 q1 q3 q4
    refine xP_b (P172 (F := F) (D2 := D) p2 p.2.2.2.2.1 (hw (D + 1) (by omega)) ?_) (fun v3 m3 q => ?_)
    · have : ((D + 1 : Nat) : Int) ≤ (m2.1 70 12).toInt := q3.2.2
      omega
    · obtain ⟨z1, z2, z3⟩ := q
      have z1 : xq t xMS m2 m3 := xq_l (by decide) z1
      have x3 := xq_t rfl x2 z1
      have p3 : xpr t b D K m3 := xpr_q p rfl rfl p.2.2.2.2.1 x3 z2 z3
      have et : m3.1 70 1 = m.1 70 1 := x3.2.1.2 70 1 rfl
      have n3 : (m.1 70 8).toInt < (m3.1 70 8).toInt := by
        have h1 : ((xu m 70 8 (m.1 70 8 + 1)).1 70 8).toInt ≤ (m2.1 70 8).toInt := q1.2.2.1
        have h2 : (m2.1 70 8).toInt ≤ (m3.1 70 8).toInt := z1.2.2.1
        omega
      dsimp only
      refine xP_m (hg m3 p3 n3 (by rw [et])) (fun v4 m4 q => ?_)
      exact ⟨xq_t rfl x3 q.1, q.2⟩
  · have c : v = 0 := zne c
    refine xP_r ⟨x2, Or.inl ⟨rfl, ?_⟩⟩
    rcases q2 with q2 | q2
    · exact q2.2
    · rw [c] at q2
      exact absurd q2.1 (by decide)
theorem P179_27 {g : xS → Option (Int32 × xS)} (hF : 500 ≤ F) (p : xpr t b D K m) (hD : 1 ≤ D) (lt : (m.1 70 8).toInt < (m.1 70 1).toInt) (hg : ∀ m', xpr t b D K m' → (m.1 70 8).toInt < (m'.1 70 8).toInt → (m'.1 70 1).toInt = (m.1 70 1).toInt → xP (g m') (xV t b xMS m' D K)) : xP (D179_27 F g m) (xV t b xMS m D K) := by
  have bb := xT8 p.2.1
  have ib : xib (m.1 70 8) 400 = true := xib_t (by omega) (by omega)
  unfold D179_27
  exact xP_g ib (xP_i (fun _ => P179_46 hF p hD lt (zst_k (by decide)) hg) (fun _ => P179_46 hF p hD lt (zst_k (by decide)) hg))
theorem P179_9 (hF : 500 ≤ F) : ∀ (f : Nat) {m : xS}, xpr t b D K m → 1 ≤ D → (m.1 70 1).toInt - (m.1 70 8).toInt < f → xP (D179_9 F f m) (xV t b xMS m D K)
  | 0, m, p, hD, hf => by have := p.2.2.1; omega
  | f + 1, m, p, hD, hf => by
    have again : ∀ {m0 : xS}, xWp m m0 → (m0.1 70 8).toInt < (m0.1 70 1).toInt → xP (D179_27 F (D179_9 F f) m0) (xV t b xMS m D K) := by
      intro m0 w lt
      have p0 := xpr_w p w
      have et : m0.1 70 1 = m.1 70 1 := w.2.1.2 70 1 rfl
      have n0 := w.2.2.1
      refine xP_m (P179_27 hF p0 hD lt (fun m' p' h1 h2 => P179_9 hF f p' hD ?_)) (fun v m' q => ⟨xq_t rfl (xq_w w) q.1, q.2⟩)
      rw [h2, et]
      omega
    unfold D179_9
    refine xP_b (P164 hF p.2.1 p.2.2.1) (fun v1 m1 q => ?_)
    obtain ⟨q1, q2, q3, q4, q5⟩ := q
    have w1 : xWp m m1 := ⟨q1, q2, q3, q4⟩
    have et1 : m1.1 70 1 = m.1 70 1 := q2.2 70 1 rfl
    dsimp only
    refine xP_i (fun c => again w1 ?_) (fun _ => ?_)
    · rw [et1]
      exact xsee q5 (zeq c) (by decide)
    refine xP_b (P164 hF q1 (by rw [et1]; exact q4)) (fun v2 m2 r => ?_)
    obtain ⟨r1, r2, r3, r4, r5⟩ := r
    have et2 : m2.1 70 1 = m1.1 70 1 := r2.2 70 1 rfl
    have w2 : xWp m m2 := ⟨r1, xfr_t q2 r2, by omega, by rw [et1] at r4; exact r4⟩
    have p2 := xpr_w p w2
    dsimp only
    refine xP_i (fun c => xP_r ⟨xq_w w2, Or.inr ⟨rfl, p2.2.2.2.2.2.2, p2.2.2.2.2.2.1⟩⟩) (fun c => again w2 ?_)
    rw [et2]
    exact xsee r5 (zne c) (by decide)
/-- sum -/
theorem P179 (hF : 500 ≤ F) (p : xpr t b D K m) : xP (D179 F m) (xV t b xMS m (D + 1) K) := by
  unfold D179
  refine xP_b (P178 hF p) (fun v m1 q => ?_)
  obtain ⟨q1, q2⟩ := q
  dsimp only
  refine xP_i (fun c => ?_) (fun c => ?_)
  · have c : v ≠ 0 := znet c
    obtain ⟨q3, q4⟩ : xg t b (D + 1) m1 ∧ (m1.1 73 t).toInt + K ≤ (m1.1 70 8).toInt := by
      rcases q2 with q2 | q2
      · exact absurd q2.1 c
      · exact q2.2
    have p1 : xpr t b (D + 1) K m1 := xpr_q p rfl rfl p.2.2.2.2.1 q1 q3 q4
    have bb := xT8 p1.2.1
    exact xP_m (P179_9 hF F p1 (by omega) (by omega)) (fun v m' q => ⟨xq_t rfl q1 q.1, q.2⟩)
  · have c : v = 0 := zne c
    refine xP_r ⟨q1, Or.inl ⟨rfl, ?_⟩⟩
    rcases q2 with q2 | q2
    · exact q2.2
    · rw [c] at q2
      exact absurd q2.1 (by decide)
/-- compare -/
theorem xfail {v : Int32} {m2 : xS} {D2 D3 : Nat} {K2 K3 : Int} {M : yM} (h1 : yinM M 70 1 = false) (x : xq t M m m') (q : xV t b M m' D2 K2 v m2) (c : v = 0) : xV t b M m D3 K3 0 m2 := by
  refine ⟨xq_t h1 x q.1, Or.inl ⟨rfl, ?_⟩⟩
  rcases q.2 with z | z
  · exact z.2
  · rw [c] at z
    exact absurd z.1 (by decide)
theorem xgood {v : Int32} {m2 : xS} {D2 : Nat} {K2 : Int} {M : yM} (q : xV t b M m' D2 K2 v m2) (c : v ≠ 0) : xg t b D2 m2 ∧ (m2.1 73 t).toInt + K2 ≤ (m2.1 70 8).toInt := by
  rcases q.2 with z | z
  · exact absurd z.1 c
  · exact z.2
theorem P180_152 {a1 a2 a3 w : Int32} (hF : 500 ≤ F) (p : xpr t b (D + 1) (K + 1) m) (hK : 0 ≤ K) (hw : ∀ k, 2 ≤ k → zst (6 + w + 16 * 0) k = some (k - 1)) : xP (D180_152 F a1 a2 a3 w m) (xV t b xMS m (D + 1) K) := by
  unfold D180_152
  refine xP_b (P179 hF p) (fun v m1 q => ?_)
  dsimp only
  refine xP_i (fun c => ?_) (fun c => xP_r (xfail rfl (xq_r p.2.1 p.2.2.1) q (zne c)))
  obtain ⟨q3, q4⟩ := xgood q (znet c)
  have p1 : xpr t b (D + 1 + 1) (K + 1) m1 := xpr_q p rfl rfl p.2.2.2.2.1 q.1 q3 q4
  refine xP_b (P172 (F := F) (D2 := D + 1) p1 hK (hw (D + 1 + 1) (by omega)) ?_) (fun v3 m3 z => ?_)
  · have : ((D + 1 + 1 : Nat) : Int) ≤ (m1.1 70 12).toInt := q3.2.2
    omega
  · obtain ⟨z1, z2, z3⟩ := z
    exact xP_r ⟨xq_t rfl q.1 (xq_l (by decide) z1), Or.inr ⟨rfl, z2, z3⟩⟩
theorem P180_105 {a1 a2 a3 : Int32} (hF : 500 ≤ F) (p : xpr t b (D + 1) (K + 1) m) (hK : 0 ≤ K) (ha : 0 ≤ a2.toInt ∧ a2.toInt ≤ 400) : xP (D180_105 F a1 a2 a3 m) (xV t b xMS m (D + 1) K) := by
  unfold D180_105
  refine xP_b (P173 (F := F) (a := a2) p.2.1 ha) (fun v m1 q => ?_)
  obtain ⟨s1, s2, s3⟩ := q
  have mm : (m.1 70 12).toInt ≤ (m1.1 70 12).toInt := by rcases s3 with s3 | s3 <;> omega
  obtain ⟨y1, y2⟩ := xmk (t := t) p.2.2.1 s1 s2 mm
  have p1 := y2 p
  have go : ∀ {w : Int32}, (∀ k, 2 ≤ k → zst (6 + w + 16 * 0) k = some (k - 1)) → xP (D180_152 F a1 a2 a3 w m1) (xV t b xMS m (D + 1) K) := fun hw => xP_m (P180_152 hF p1 hK hw) (fun v m' q => ⟨xq_t rfl y1 q.1, q.2⟩)
  dsimp only
  refine xP_i (fun c => ?_) (fun c => ?_)
  · exact xP_i (fun _ => xP_i (fun _ => xP_i (fun _ => go (zst_k (w := 6 + 4) (by decide))) (fun _ => go (zst_k (w := 6 + 3) (by decide)))) (fun _ => go (zst_k (w := 6 + 2) (by decide)))) (fun _ => xP_i (fun _ => go (zst_k (w := 6 + 0) (by decide))) (fun _ => go (zst_k (w := 6 + 1) (by decide))))
  · have c : v = 0 := zne c
    refine xP_r ⟨y1, Or.inl ⟨rfl, ?_⟩⟩
    rcases s3 with s3 | s3
    · exact s3.2.1
    · rw [c] at s3
      exact absurd s3.1 (by decide)
theorem P180_90 {a1 a2 w : Int32} (hF : 500 ≤ F) (p : xpr t b (D + 1) (K + 1) m) (hK : 0 ≤ K) (ha : 0 ≤ a2.toInt ∧ a2.toInt ≤ 400) (lt : w ≠ 0 → (m.1 70 8).toInt < (m.1 70 1).toInt) : xP (D180_90 F a1 a2 w m) (xV t b xMS m (D + 1) K) := by
  unfold D180_90
  refine xP_i (fun _ => P180_105 hF p hK ha) (fun c => ?_)
  obtain ⟨w1, -, -⟩ := xpass p (lt (zneq c))
  exact xP_m (P180_105 hF (xpr_w p w1) hK ha) (fun v m' q => ⟨xq_t rfl (xq_w w1) q.1, q.2⟩)
theorem P180_44 {a1 a2 : Int32} (hF : 500 ≤ F) (p : xpr t b (D + 1) K m) (lt : (m.1 70 8).toInt < (m.1 70 1).toInt) (ha : 0 ≤ a2.toInt ∧ a2.toInt ≤ 400) : xP (D180_44 F a1 a2 m) (xV t b xMS m (D + 1) K) := by
  have bb := xT8 p.2.1
  obtain ⟨w1, e1, p1⟩ := xpass p lt
  have e2 : (m.1 70 8 + 1).toInt = (m.1 70 8).toInt + 1 := by rw [xu_s] at e1; exact e1
  have z0 : xP (D180_90 F a1 a2 0 (xu m 70 8 (m.1 70 8 + 1))) (xV t b xMS m (D + 1) K) := xP_m (P180_90 hF p1 p.2.2.2.2.1 ha (fun z => absurd rfl z)) (fun v m' q => ⟨xq_t rfl (xq_w w1) q.1, q.2⟩)
  unfold D180_44 D180_89
  refine xP_i (fun _ => z0) (fun _ => xP_i (fun _ => z0) (fun c => ?_))
  have c : ¬ (m.1 70 1).toInt ≤ (m.1 70 8 + 1).toInt := zf c
  refine xP_g (xib_t (by omega) (by omega)) (xP_i (fun _ => z0) (fun _ => ?_))
  refine xP_m (P180_90 hF p1 p.2.2.2.2.1 ha (fun _ => ?_)) (fun v m' q => ⟨xq_t rfl (xq_w w1) q.1, q.2⟩)
  rw [e1]
  show _ < (m.1 70 1).toInt
  omega
theorem P180 (hF : 500 ≤ F) (p : xpr t b D K m) : xP (D180 F m) (xV t b xMS m (D + 1) K) := by
  unfold D180
  refine xP_b (P179 hF p) (fun v m1 q => ?_)
  dsimp only
  refine xP_i (fun c => ?_) (fun c => xP_r (xfail rfl (xq_r p.2.1 p.2.2.1) q (zne c)))
  obtain ⟨q3, q4⟩ := xgood q (znet c)
  have p1 : xpr t b (D + 1) K m1 := xpr_q p rfl rfl p.2.2.2.2.1 q.1 q3 q4
  refine xP_b (P164 hF p1.2.1 p1.2.2.1) (fun v2 m2 r => ?_)
  obtain ⟨r1, r2, r3, r4, r5⟩ := r
  have w2 : xWp m1 m2 := ⟨r1, r2, r3, r4⟩
  have p2 := xpr_w p1 w2
  have bb := xT8 r1
  have et : m2.1 70 1 = m1.1 70 1 := r2.2 70 1 rfl
  have x2 : xq t xMS m m2 := xq_t rfl q.1 (xq_w w2)
  have go : ∀ {k : Int32}, v2 = k → k ≠ -1 → xP (D180_44 F v2 (m2.1 70 8) m2) (xV t b xMS m (D + 1) K) := fun h1 h2 => xP_m (P180_44 hF p2 (by rw [et]; exact xsee r5 h1 h2) ⟨by omega, by omega⟩) (fun v m' q => ⟨xq_t rfl x2 q.1, q.2⟩)
  dsimp only
  refine xP_i (fun c => go (zeq c) (by decide)) (fun _ => xP_i (fun c => go (zeq c) (by decide)) (fun _ => xP_i (fun c => go (zeq c) (by decide)) (fun _ => ?_)))
  refine xP_b (P163 (F := F) (k := 0) (a := m2.1 70 8) r1 ⟨by decide, by decide⟩ ⟨by omega, by omega⟩) (fun v3 m3 s => ?_)
  obtain ⟨s1, s2, s3, s4⟩ := s
  dsimp only
  rw [s1]
  exact xP_g (by decide) (xP_r ⟨xq_t rfl x2 (xq_9 p2.2.2.1 s2 s3), Or.inl ⟨rfl, s4⟩⟩)
end XTRM
end
section
/-! Tests: what waits. -/
def zbc (f : Nat → Int32) : Nat → Nat
  | 0 => 0
  | n + 1 => zbc f n + (if f n = 12 ∨ f n = 13 then 1 else 0)
theorem zbc_c {f g : Nat → Int32} : ∀ {n : Nat}, (∀ j, j < n → g j = f j) → zbc g n = zbc f n
  | 0, _ => rfl
  | n + 1, h => by
    show zbc g n + _ = zbc f n + _
    rw [zbc_c (fun j hj => h j (by omega)), h n (by omega)]
def xB (m : xS) : Nat := zbc (m.1 77) ((m.1 70 16).toInt).toNat
def zsn (c : Int32) : Int32 := if c = 13 then 1 else if c = 12 then 2 else if c = 11 then 3 else 0
abbrev xMT : yM := [(70, 70, 8), (70, 70, 9), (70, 70, 10), (70, 70, 12), (70, 70, 13), (70, 70, 16), (72, 72, 1000), (73, 73, 1000), (77, 77, 1000)]
abbrev xME : yM := [(70, 70, 13), (70, 70, 16), (72, 72, 1000), (73, 73, 1000)]
abbrev xMO : yM := [(70, 70, 9), (70, 70, 13), (70, 70, 16), (77, 77, 1000)]
section XTST
variable {F t b D : Nat} {m m' : xS} {K : Int}
theorem xT16 (h : xT m) : 0 ≤ (m.1 70 16).toInt ∧ (m.1 70 16).toInt ≤ 400 := h 70 16 (0, 400) rfl
theorem xB_f {N : yM} (f : xfr N m m') (h1 : ∀ j : Nat, yinM N 77 (j : Int) = false) (h2 : yinM N 70 16 = false) : xB m' = xB m ∧ (m'.1 70 16).toInt = (m.1 70 16).toInt := by
  have e1 : m'.1 77 = m.1 77 := funext fun j => f.2 77 j (h1 j)
  unfold xB
  rw [e1, f.2 70 16 h2]
  exact ⟨rfl, rfl⟩
/-- strength -/
theorem P175 {c : Int32} : D175 F c m = some (zsn c, m) := by
  unfold D175 zsn
  by_cases h1 : c = 13
  · subst h1; rfl
  · by_cases h2 : c = 12
    · subst h2; rfl
    · by_cases h3 : c = 11
      · subst h3; rfl
      · have a1 : zcmp .ne c 13 = true := decide_eq_true h1
        have a2 : zcmp .ne c 12 = true := decide_eq_true h2
        have a3 : zcmp .ne c 11 = true := decide_eq_true h3
        rw [if_neg h1, if_neg h2, if_neg h3, if_pos a1, if_pos a2, if_pos a3]
theorem zsn_1 {c l : Int32} (h : ¬ (zsn c).toInt < l.toInt) (hl : 1 ≤ l.toInt) : c = 11 ∨ c = 12 ∨ c = 13 := by
  unfold zsn at h
  split at h
  · next e => exact Or.inr (Or.inr e)
  · split at h
    · next e => exact Or.inr (Or.inl e)
    · split at h
      · next e => exact Or.inl e
      · have h : ¬ (0 : Int) < l.toInt := h
        omega
/-- settles -/
theorem P176_0 {l : Int32} (hl : 1 ≤ l.toInt) (hK : 0 ≤ K) : ∀ (f : Nat) {m : xS}, xpr t b (xB m + 1) ((m.1 70 16).toInt + K) m → (m.1 70 16).toInt < f → xP (D176_0 F f l m) (fun _ m' => xq t xME m m' ∧ (m'.1 70 8).toInt = (m.1 70 8).toInt ∧ xpr t b (xB m' + 1) ((m'.1 70 16).toInt + K) m' ∧ (∀ k : Nat, (k : Int) < (m.1 70 16).toInt → m.1 77 k = 91 → (k : Int) < (m'.1 70 16).toInt) ∧ ((m'.1 70 16).toInt ≤ 0 ∨ (zsn (m.1 77 (((m'.1 70 16).toInt).toNat - 1))).toInt < l.toInt))
  | 0, m, p, hf => by have := xT16 p.2.1; omega
  | f + 1, m, p, hf => by
    have bo := xT16 p.2.1
    unfold D176_0
    refine xP_i (fun c => ?_) (fun c => ?_)
    · have c : (m.1 70 16).toInt ≤ (0 : Int) := zt c
      exact xP_r ⟨xq_r p.2.1 p.2.2.1, rfl, p, fun _ h _ => h, Or.inl c⟩
    · have c : ¬ (m.1 70 16).toInt ≤ (0 : Int) := zf c
      have e1 : (m.1 70 16 - 1).toInt = (m.1 70 16).toInt - 1 := xs1 (by show _ ≤ _ - (1 : Int); omega) (by show _ - (1 : Int) ≤ _; omega)
      have e2 : (m.1 70 16 - 1).toNatClampNeg = ((m.1 70 16).toInt).toNat - 1 := by show (m.1 70 16 - 1).toInt.toNat = _; omega
      have ib : xib (m.1 70 16 - 1) 400 = true := xib_t (by omega) (by omega)
      refine xP_g ib ?_
      rw [P175, e2]
      show xP (if zcmp .lt (zsn (m.1 77 (((m.1 70 16).toInt).toNat - 1))) l = true then _ else _) _
      refine xP_i (fun c2 => ?_) (fun c2 => xP_g ib ?_)
      · have c2 : (zsn (m.1 77 (((m.1 70 16).toInt).toNat - 1))).toInt < l.toInt := zt c2
        exact xP_r ⟨xq_r p.2.1 p.2.2.1, rfl, p, fun _ h _ => h, Or.inr c2⟩
      · have c2 : ¬ (zsn (m.1 77 (((m.1 70 16).toInt).toNat - 1))).toInt < l.toInt := zf c2
        have cc := zsn_1 c2 hl
        dsimp only
        rw [e2]
        have hT1 : xT (xu m 70 16 (m.1 70 16 - 1)) := xT_c p.2.1 (i := 70) (j := 16) rfl (by omega) (by omega)
        have f1 : xfr xME m (xu m 70 16 (m.1 70 16 - 1)) := xfr_u rfl
        have o1 : ((xu m 70 16 (m.1 70 16 - 1)).1 70 16).toInt = (m.1 70 16).toInt - 1 := by rw [xu_s]; exact e1
        have g1 : xg t b (xB m + 1) (xu m 70 16 (m.1 70 16 - 1)) := p.2.2.2.2.2.2
        have p1 : xpr t b (xB m + 1) (((m.1 70 16).toInt - 1 + K) + 1) (xu m 70 16 (m.1 70 16 - 1)) := ⟨p.1, hT1, p.2.2.1, p.2.2.2.1, by omega, (by
          have h : (m.1 73 t).toInt + ((m.1 70 16).toInt + K) ≤ (m.1 70 8).toInt := p.2.2.2.2.2.1
          show (m.1 73 t).toInt + ((m.1 70 16).toInt - 1 + K + 1) ≤ (m.1 70 8).toInt
          omega), g1⟩
        have bs : xB m = zbc (m.1 77) (((m.1 70 16).toInt).toNat - 1) + (if m.1 77 (((m.1 70 16).toInt).toNat - 1) = 12 ∨ m.1 77 (((m.1 70 16).toInt).toNat - 1) = 13 then 1 else 0) := by
          unfold xB
          rw [show ((m.1 70 16).toInt).toNat = (((m.1 70 16).toInt).toNat - 1) + 1 by omega]
          rfl
        have gm : ((xB m + 1 : Nat) : Int) ≤ (m.1 70 12).toInt := p.2.2.2.2.2.2.2.2
        have st : zst (m.1 77 (((m.1 70 16).toInt).toNat - 1) + 16 * 0) (xB m + 1) = some (zbc (m.1 77) (((m.1 70 16).toInt).toNat - 1) + 1) := by
          rcases cc with cc | cc | cc
          · rw [cc] at bs ⊢
            rw [if_neg (by decide)] at bs
            unfold zst zs0
            rw [if_pos (by decide), if_neg (by decide), if_neg (by decide), if_pos (by decide), if_pos (by omega), bs]
          · rw [cc] at bs ⊢
            rw [if_pos (by decide)] at bs
            rw [zst_b (by decide) (by decide) (by decide) (by decide) (by omega), bs]
            rfl
          · rw [cc] at bs ⊢
            rw [if_pos (by decide)] at bs
            rw [zst_b (by decide) (by decide) (by decide) (by decide) (by omega), bs]
            rfl
        have gd : ((zbc (m.1 77) (((m.1 70 16).toInt).toNat - 1) + 1 : Nat) : Int) ≤ ((xu m 70 16 (m.1 70 16 - 1)).1 70 12).toInt := by
          show _ ≤ (m.1 70 12).toInt
          omega
        refine xP_b (P172 (F := F) (K := (m.1 70 16).toInt - 1 + K) p1 (by omega) st gd) (fun _ m2 q => ?_)
        obtain ⟨q1, q2, q3⟩ := q
        have x1 : xq t xME m (xu m 70 16 (m.1 70 16 - 1)) := ⟨hT1, f1, Int.le_refl _, p.2.2.1, Int.le_refl _, Int.le_refl _, fun _ _ => rfl⟩
        have x2 : xq t xME m m2 := xq_t rfl x1 (xq_l (by decide) q1)
        have o2 : (m2.1 70 16).toInt = (m.1 70 16).toInt - 1 := by rw [q1.2.1.2 70 16 rfl]; exact o1
        have a2 : m2.1 77 = m.1 77 := funext fun j => x2.2.1.2 77 j rfl
        have n2 : m2.1 70 8 = m.1 70 8 := x2.2.1.2 70 8 rfl
        have B2 : xB m2 = zbc (m.1 77) (((m.1 70 16).toInt).toNat - 1) := by
          unfold xB
          rw [a2, o2]
          congr 1
          omega
        have p2 : xpr t b (xB m2 + 1) ((m2.1 70 16).toInt + K) m2 := xpr_q p rfl rfl (by omega) x2 (by rw [B2]; exact q2) (by rw [o2]; exact q3)
        have fin : ∀ {m3 : xS}, xq t xME m m3 → (m3.1 70 8).toInt = (m.1 70 8).toInt → m3.1 77 = m.1 77 → (m3.1 70 16).toInt = (m.1 70 16).toInt - 1 → xpr t b (xB m3 + 1) ((m3.1 70 16).toInt + K) m3 → xP (D176_0 F f l m3) (fun _ m' => xq t xME m m' ∧ (m'.1 70 8).toInt = (m.1 70 8).toInt ∧ xpr t b (xB m' + 1) ((m'.1 70 16).toInt + K) m' ∧ (∀ k : Nat, (k : Int) < (m.1 70 16).toInt → m.1 77 k = 91 → (k : Int) < (m'.1 70 16).toInt) ∧ ((m'.1 70 16).toInt ≤ 0 ∨ (zsn (m.1 77 (((m'.1 70 16).toInt).toNat - 1))).toInt < l.toInt)) := by
          intro m3 x3 n3 a3 o3 p3
          refine xP_m (P176_0 hl hK f p3 (by omega)) (fun _ m4 q => ?_)
          obtain ⟨r1, r2, r3, r4, r5⟩ := q
          rw [a3] at r4 r5
          refine ⟨xq_t rfl x3 r1, by omega, r3, fun k h1 h2 => r4 k ?_ h2, r5⟩
          by_cases z : (k : Int) < (m3.1 70 16).toInt
          · exact z
          · exfalso
            have z2 : k = ((m.1 70 16).toInt).toNat - 1 := by omega
            rw [← z2, h2] at cc
            exact absurd cc (by decide)
        dsimp only
        refine xP_g (xib_t (by omega) (by omega)) (xP_i (fun _ => fin x2 (by rw [n2]) a2 o2 p2) (fun _ => ?_))
        have hT3 : xT (xu m2 70 13 (m2.1 70 13 - 1)) := xT_c p2.2.1 (i := 70) (j := 13) (lo := -2147483648) (hi := 2147483647) rfl (y32 _).1 (by have := (y32 (m2.1 70 13 - 1)).2; omega)
        have x3 : xq t xME m2 (xu m2 70 13 (m2.1 70 13 - 1)) := ⟨hT3, xfr_u rfl, Int.le_refl _, p2.2.2.1, Int.le_refl _, Int.le_refl _, fun _ _ => rfl⟩
        refine fin (xq_t rfl x2 x3) (by show (m2.1 70 8).toInt = (m.1 70 8).toInt; rw [n2]) (by show m2.1 77 = m.1 77; exact a2) (by show (m2.1 70 16).toInt = _; exact o2) ⟨p2.1, hT3, p2.2.2.1, p2.2.2.2.1, p2.2.2.2.2.1, p2.2.2.2.2.2.1, p2.2.2.2.2.2.2⟩
theorem P176 {l : Int32} (hF : 500 ≤ F) (hl : 1 ≤ l.toInt) (hK : 0 ≤ K) (p : xpr t b (xB m + 1) ((m.1 70 16).toInt + K) m) : xP (D176 F l m) (fun _ m' => xq t xME m m' ∧ (m'.1 70 8).toInt = (m.1 70 8).toInt ∧ xpr t b (xB m' + 1) ((m'.1 70 16).toInt + K) m' ∧ (∀ k : Nat, (k : Int) < (m.1 70 16).toInt → m.1 77 k = 91 → (k : Int) < (m'.1 70 16).toInt) ∧ ((m'.1 70 16).toInt ≤ 0 ∨ (zsn (m.1 77 (((m'.1 70 16).toInt).toNat - 1))).toInt < l.toInt)) := by
  have bo := xT16 p.2.1
  exact P176_0 hl hK F p (by omega)
/-- opens -/
theorem P174 {w : Int32} (p : xpr t b D ((m.1 70 16).toInt) m) (lt : (m.1 70 8).toInt < (m.1 70 1).toInt) (hw : ¬ (w = 12 ∨ w = 13)) : xP (D174 F w m) (fun v m' => xT m' ∧ xfr xMO m m' ∧ ((v = 0 ∧ 1 ≤ (m'.1 70 9).toInt) ∨ (v = 1 ∧ xB m' = xB m ∧ (m'.1 70 16).toInt = (m.1 70 16).toInt + 1))) := by
  have bb := xT8 p.2.1
  have bo := xT16 p.2.1
  have sl : (m.1 73 t).toInt + (m.1 70 16).toInt ≤ (m.1 70 8).toInt := p.2.2.2.2.2.1
  have bl : 0 ≤ (m.1 73 t).toInt := (p.2.1 73 t _ (xbn_a (k := 0) (n := 7) (ec := 11) (by decide) rfl (by decide) (by have := p.1; omega))).1
  unfold D174
  refine xP_i (fun _ => xP_g (xib_t (by omega) (by omega)) ?_) (fun _ => ?_)
  · have e1 : (m.1 70 16 + 1).toInt = (m.1 70 16).toInt + 1 := xa1 (by show _ ≤ _ + (1 : Int); omega) (by show _ + (1 : Int) ≤ _; omega)
    have e2 : (m.1 70 16).toNatClampNeg = ((m.1 70 16).toInt).toNat := rfl
    rw [e2]
    have h1 : xT (xu m 70 13 (m.1 70 13 + 1)) := xT_c p.2.1 (i := 70) (j := 13) (lo := -2147483648) (hi := 2147483647) rfl (y32 _).1 (by have := (y32 (m.1 70 13 + 1)).2; omega)
    have h2 : xT (xu (xu m 70 13 (m.1 70 13 + 1)) 77 ((m.1 70 16).toInt).toNat w) := xT_c h1 (lo := -2147483648) (hi := 2147483647) (xbn_a (k := 0) (n := 400) (ec := 0) (by decide) rfl (by decide) (by omega)) (y32 _).1 (by have := (y32 w).2; omega)
    have h3 : xT (xu (xu (xu m 70 13 (m.1 70 13 + 1)) 77 ((m.1 70 16).toInt).toNat w) 70 16 (m.1 70 16 + 1)) := xT_c h2 (i := 70) (j := 16) rfl (by omega) (by omega)
    have o3 : ((xu (xu (xu m 70 13 (m.1 70 13 + 1)) 77 ((m.1 70 16).toInt).toNat w) 70 16 (m.1 70 16 + 1)).1 70 16).toInt = (m.1 70 16).toInt + 1 := by rw [xu_s]; exact e1
    refine xP_r ⟨h3, xfr_t (xfr_t (xfr_u rfl) (xfr_u rfl)) (xfr_u rfl), Or.inr ⟨rfl, ?_, o3⟩⟩
    unfold xB
    rw [o3, show ((m.1 70 16).toInt + 1).toNat = ((m.1 70 16).toInt).toNat + 1 by omega]
    have a3 : ∀ j, (xu (xu (xu m 70 13 (m.1 70 13 + 1)) 77 ((m.1 70 16).toInt).toNat w) 70 16 (m.1 70 16 + 1)).1 77 j = if j = ((m.1 70 16).toInt).toNat then w else m.1 77 j := fun j => by
      refine (xu_o (fun z => by omega)).trans ?_
      by_cases z : j = ((m.1 70 16).toInt).toNat
      · rw [if_pos z, z, xu_s]
      · rw [if_neg z]
        exact (xu_o (fun y => z y.2)).trans (xu_o (fun y => by omega))
    show zbc _ _ + _ = _
    rw [a3, if_pos rfl, if_neg hw]
    exact zbc_c (fun j hj => by rw [a3, if_neg (by omega)])
  · refine xP_b (P163 (F := F) (k := 2) (a := m.1 70 8) p.2.1 ⟨by decide, by decide⟩ ⟨by omega, by omega⟩) (fun v m1 q => ?_)
    obtain ⟨q1, q2, q3, q4⟩ := q
    dsimp only
    rw [q1]
    exact xP_g (by decide) (xP_r ⟨q2, xfr_l (by decide) q3, Or.inl ⟨rfl, q4⟩⟩)
/-- where no blank stands, see stays -/
theorem P164i (h : xT m) (hF : 1 ≤ F) (lt : (m.1 70 8).toInt < (m.1 70 1).toInt) (nb : m.1 71 (m.1 70 8).toNatClampNeg ≠ 32) : ∃ v, D164 F m = some (v, m) := by
  have bb := xT8 h
  obtain ⟨f, rfl⟩ : ∃ f, F = f + 1 := ⟨F - 1, by omega⟩
  have c1 : zcmp .ge (m.1 70 8) (m.1 70 1) = false := by
    cases hz : zcmp .ge (m.1 70 8) (m.1 70 1) with
    | false => rfl
    | true =>
      have z : (m.1 70 1).toInt ≤ (m.1 70 8).toInt := zt hz
      omega
  have c2 : zcmp .ne (m.1 71 (m.1 70 8).toNatClampNeg) 32 = true := decide_eq_true nb
  have ib : xib (m.1 70 8) 400 = true := xib_t (by omega) (by omega)
  refine ⟨m.1 71 (m.1 70 8).toNatClampNeg &&& 255, ?_⟩
  show D164_0 (f + 1) (f + 1) m = _
  unfold D164_0
  rw [if_neg (by rw [c1]; decide), if_pos ib, if_pos c2]
  unfold D164_38
  rw [if_neg (by rw [c1]; decide), if_pos ib]
theorem P167i {w : Int64} (hF : 500 ≤ F) (h : xT m) (lt : (m.1 70 8).toInt < (m.1 70 1).toInt) (nb : m.1 71 (m.1 70 8).toNatClampNeg ≠ 32) : xP (D167 F w m) (fun v m' => m' = m ∧ (v = 0 ∨ (v = 1 ∧ xlt m 97 122 (m.1 70 8)))) := by
  have bb := xT8 h
  obtain ⟨v, e⟩ := P164i (F := F) h (by omega) lt nb
  unfold D167
  rw [e]
  show xP (D167_10 F F w 0 0 m) _
  exact P167_10 F h (Int.le_refl (0 : Int)) (by show _ + (0 : Int) ≤ _; omega) (by show _ - (0 : Int) < _; omega) (fun z => absurd z (by decide))
theorem xlt_nb (h : xlt m 97 122 (m.1 70 8)) : m.1 71 (m.1 70 8).toNatClampNeg ≠ 32 := fun z => by
  have := h.2.1
  rw [z] at this
  exact absurd this (by decide)
/-- isInside -/
theorem P182_2 : ∀ (f : Nat) {k : Int32} {m : xS}, xT m → 0 ≤ k.toInt → k.toInt ≤ (m.1 70 16).toInt → (m.1 70 16).toInt - k.toInt < f → xP (D182_2 F f k m) (fun v m' => m' = m ∧ (v = 0 ∨ (v = 1 ∧ ∃ j : Nat, (j : Int) < (m.1 70 16).toInt ∧ m.1 77 j = 91)))
  | 0, k, m, h, h1, h2, h3 => by omega
  | f + 1, k, m, h, h1, h2, h3 => by
    have bo := xT16 h
    unfold D182_2
    refine xP_i (fun _ => xP_r ⟨rfl, Or.inl rfl⟩) (fun c => ?_)
    have c : ¬ (m.1 70 16).toInt ≤ k.toInt := zf c
    have e1 : (k + Int32.ofInt 1).toInt = k.toInt + 1 := xa1 (by show _ ≤ _ + (1 : Int); omega) (by show _ + (1 : Int) ≤ _; omega)
    refine xP_g (xib_t h1 (by omega)) (xP_i (fun _ => P182_2 f h (by omega) (by omega) (by omega)) (fun c2 => xP_r ⟨rfl, Or.inr ⟨rfl, k.toNatClampNeg, ?_, zne c2⟩⟩))
    show (k.toInt.toNat : Int) < _
    omega
theorem P182 (hF : 500 ≤ F) (h : xT m) : xP (D182 F m) (fun v m' => m' = m ∧ (v = 0 ∨ (v = 1 ∧ ∃ j : Nat, (j : Int) < (m.1 70 16).toInt ∧ m.1 77 j = 91))) := by
  have bo := xT16 h
  exact P182_2 F h (Int.le_refl (0 : Int)) bo.1 (by show _ - (0 : Int) < _; omega)
/-- fact -/
def xVT (t b : Nat) (m : xS) (v : Int32) (m' : xS) : Prop := xq t xMT m m' ∧ ((v = 0 ∧ 1 ≤ (m'.1 70 9).toInt) ∨ (v = 1 ∧ xpr t b (xB m' + 1) ((m'.1 70 16).toInt) m'))
theorem xopn {w : Int32} {g : xS → Option (Int32 × xS)} (p : xpr t b (xB m) ((m.1 70 16).toInt) m) (lt : (m.1 70 8).toInt < (m.1 70 1).toInt) (hw : ¬ (w = 12 ∨ w = 13)) (hg : ∀ m1, xT m1 → xfr xMO m m1 → xpr t b (xB m1) ((m1.1 70 16).toInt - 1) m1 → (m1.1 70 8).toInt = (m.1 70 8).toInt → xP (g m1) (xVT t b m)) : xP ((D174 F w m).bind fun q => if zcmp .ne q.1 0 = true then g q.2 else some (0, q.2)) (xVT t b m) := by
  refine xP_b (P174 p lt hw) (fun v m1 q => ?_)
  obtain ⟨q1, q2, q3⟩ := q
  have e8 : m1.1 70 8 = m.1 70 8 := q2.2 70 8 rfl
  have e1 : m1.1 70 1 = m.1 70 1 := q2.2 70 1 rfl
  have x1 : xq t xMT m m1 := xq_o q1 q2 (by rw [e8]; exact Int.le_refl _) (by rw [e8]; exact p.2.2.1) (by decide) (fun _ => ⟨rfl, rfl⟩) rfl
  dsimp only
  refine xP_i (fun c => ?_) (fun c => ?_)
  · have c : v ≠ 0 := znet c
    obtain ⟨q4, q5⟩ : xB m1 = xB m ∧ (m1.1 70 16).toInt = (m.1 70 16).toInt + 1 := by
      rcases q3 with q3 | q3
      · exact absurd q3.1 c
      · exact q3.2
    refine hg m1 q1 q2 ?_ (by rw [e8])
    have p1 : xpr t b (xB m) ((m.1 70 16).toInt) m1 := xpr_f p q1 q2 (by rw [e8]; exact Int.le_refl _) (by rw [e8]; exact p.2.2.1) (fun _ => ⟨rfl, rfl⟩) (by rw [q2.2 70 12 rfl]; exact Int.le_refl _) rfl rfl
    rw [q4, q5, show (m.1 70 16).toInt + 1 - 1 = (m.1 70 16).toInt by omega]
    exact p1
  · have c : v = 0 := zne c
    refine xP_r ⟨x1, Or.inl ⟨rfl, ?_⟩⟩
    rcases q3 with q3 | q3
    · exact q3.2
    · rw [c] at q3
      exact absurd q3.1 (by decide)
theorem xVT_t {v : Int32} {m2 : xS} (x : xq t xMT m m') (q : xVT t b m' v m2) : xVT t b m v m2 := ⟨xq_t rfl x q.1, q.2⟩
theorem P181_2 (hF : 500 ≤ F) : ∀ (f : Nat) {k : Int32} {m : xS}, xpr t b (xB m) ((m.1 70 16).toInt) m → (k = 0 ∨ k = 1) → (m.1 70 1).toInt - (m.1 70 8).toInt + k.toInt < f → xP (D181_2 F f k m) (xVT t b m)
  | 0, k, m, p, hk, hf => by
    have := p.2.2.1
    rcases hk with rfl | rfl
    · have hf : (m.1 70 1).toInt - (m.1 70 8).toInt + (0 : Int) < 0 := hf
      omega
    · have hf : (m.1 70 1).toInt - (m.1 70 8).toInt + (1 : Int) < 0 := hf
      omega
  | f + 1, k, m, p, hk, hf => by
    unfold D181_2 D181_72
    refine xP_i (fun c => ?_) (fun c => ?_)
    · refine xP_b (P180 hF p) (fun v m1 q => ?_)
      obtain ⟨q1, q2⟩ := q
      obtain ⟨b1, b2⟩ := xB_f q1.2.1 (fun _ => rfl) rfl
      have x1 : xq t xMT m m1 := xq_l (by decide) q1
      dsimp only
      rcases q2 with q2 | q2
      · rw [q2.1]
        exact xP_g (by decide) (xP_r ⟨x1, Or.inl ⟨rfl, q2.2⟩⟩)
      · rw [q2.1]
        refine xP_g (by decide) (xP_r ⟨x1, Or.inr ⟨rfl, ?_⟩⟩)
        rw [b1, b2]
        exact xpr_q p rfl rfl p.2.2.2.2.1 q1 q2.2.1 q2.2.2
    · have k1 : k = 1 := hk.resolve_left (zneq c)
      subst k1
      have hf : (m.1 70 1).toInt - (m.1 70 8).toInt + (1 : Int) < ((f + 1 : Nat) : Int) := hf
      refine xP_b (P164 hF p.2.1 p.2.2.1) (fun v1 m1 q => ?_)
      obtain ⟨q1, q2, q3, q4, q5⟩ := q
      have w1 : xWp m m1 := ⟨q1, q2, q3, q4⟩
      have p1 := xpr_w p w1
      have et1 : m1.1 70 1 = m.1 70 1 := q2.2 70 1 rfl
      obtain ⟨b1, b2⟩ := xB_f q2 (fun _ => rfl) rfl
      dsimp only
      have step : ∀ {v2 : Int32} {m2 : xS}, xWp m1 m2 → (v2 = 0 ∨ (v2 = 1 ∧ xlt m2 97 122 (m2.1 70 8))) → (v1 = 91 → m2 = m1) → xP (if zcmp .eq v2 0 = true then (if zcmp .ne v1 91 = true then D181_2 F f 0 m2 else (D174 F 91 m2).bind fun q52 => if zcmp .ne q52.1 0 = true then D181_2 F f 1 (xu q52.2 70 8 (q52.2.1 70 8 + 1)) else some (0, q52.2)) else (D174 F 11 m2).bind fun q26 => if zcmp .ne q26.1 0 = true then ((D168 F q26.2).bind fun q35 => D181_2 F f 1 q35.2) else some (0, q26.2)) (xVT t b m) := by
        intro v2 m2 w2 r hv
        have p2 := xpr_w p1 w2
        have et2 : m2.1 70 1 = m1.1 70 1 := w2.2.1.2 70 1 rfl
        obtain ⟨b3, b4⟩ := xB_f w2.2.1 (fun _ => rfl) rfl
        have x2 : xq t xMT m m2 := xq_t rfl (xq_l (by decide) (xq_w w1)) (xq_l (by decide) (xq_w w2))
        have pB : xpr t b (xB m2) ((m2.1 70 16).toInt) m2 := by
          rw [b3, b4, b1, b2]
          exact p2
        have n2 := w2.2.2.1
        refine xP_i (fun c2 => xP_i (fun c3 => ?_) (fun c3 => ?_)) (fun c2 => ?_)
        · refine xP_m (P181_2 hF f pB (Or.inl rfl) ?_) (fun v m' q => xVT_t x2 q)
          show (m2.1 70 1).toInt - (m2.1 70 8).toInt + (0 : Int) < f
          rw [et2, et1]
          omega
        · have e91 : v1 = 91 := zne c3
          have em := hv e91
          subst em
          have lt : (m2.1 70 8).toInt < (m2.1 70 1).toInt := by
            rw [et1]
            exact xsee q5 e91 (by decide)
          refine xP_m (xopn (F := F) (w := 91) (g := fun mm => D181_2 F f 1 (xu mm 70 8 (mm.1 70 8 + 1))) pB lt (by decide) (fun m3 s1 s2 s3 s4 => ?_)) (fun v m' q => xVT_t x2 q)
          have et3 : m3.1 70 1 = m2.1 70 1 := s2.2 70 1 rfl
          obtain ⟨w4, e4, p4⟩ := xpass s3 (by rw [et3, s4]; exact lt)
          have x3 : xq t xMT m2 m3 := xq_o s1 s2 (by omega) (by rw [s4]; exact pB.2.2.1) (by decide) (fun _ => ⟨rfl, rfl⟩) rfl
          have x4 : xq t xMT m2 (xu m3 70 8 (m3.1 70 8 + 1)) := xq_t rfl x3 (xq_l (by decide) (xq_w w4))
          have p5 : xpr t b (xB (xu m3 70 8 (m3.1 70 8 + 1))) ((xu m3 70 8 (m3.1 70 8 + 1)).1 70 16).toInt (xu m3 70 8 (m3.1 70 8 + 1)) := by
            have h : (m3.1 70 16).toInt - 1 + 1 = (m3.1 70 16).toInt := by omega
            rw [h] at p4
            exact p4
          refine xP_m (P181_2 hF f p5 (Or.inr rfl) ?_) (fun v m' q => xVT_t x4 q)
          rw [e4]
          show (m3.1 70 1).toInt - ((m3.1 70 8).toInt + 1) + (1 : Int) < f
          rw [et3, et1]
          omega
        · have v21 : v2 ≠ 0 := zneq c2
          have le : xlt m2 97 122 (m2.1 70 8) := by
            rcases r with r | r
            · exact absurd r v21
            · exact r.2
          have lt : (m2.1 70 8).toInt < (m2.1 70 1).toInt := le.1
          refine xP_m (xopn (F := F) (w := 11) (g := fun mm => (D168 F mm).bind fun q35 => D181_2 F f 1 q35.2) pB lt (by decide) (fun m3 s1 s2 s3 s4 => ?_)) (fun v m' q => xVT_t x2 q)
          have et3 : m3.1 70 1 = m2.1 70 1 := s2.2 70 1 rfl
          have le3 : xlt m3 97 122 (m3.1 70 8) := by
            rw [s2.2 70 8 rfl]
            exact xlt_f s2 rfl (fun _ => rfl) le
          refine xP_b (P168 hF s1 s3.2.2.1) (fun _ m4 u => ?_)
          obtain ⟨w4, u2⟩ := u
          have u2 := u2 le3
          have x3 : xq t xMT m2 m3 := xq_o s1 s2 (by omega) (by rw [s4]; exact pB.2.2.1) (by decide) (fun _ => ⟨rfl, rfl⟩) rfl
          have x4 : xq t xMT m2 m4 := xq_t rfl x3 (xq_l (by decide) (xq_w w4))
          obtain ⟨b5, b6⟩ := xB_f w4.2.1 (fun _ => rfl) rfl
          have et4 : m4.1 70 1 = m3.1 70 1 := w4.2.1.2 70 1 rfl
          have p4 := xpr_w s3 w4
          have p5 : xpr t b (xB m4) ((m4.1 70 16).toInt) m4 := by
            rw [b5, b6]
            refine xpr_q p4 (M := xMT) rfl rfl (by have := (xT16 s1).1; omega) (xq_r p4.2.1 p4.2.2.1) p4.2.2.2.2.2.2 ?_
            have l3 : (m3.1 73 t).toInt + ((m3.1 70 16).toInt - 1) ≤ (m3.1 70 8).toInt := s3.2.2.2.2.2.1
            have e73 : m4.1 73 t = m3.1 73 t := w4.2.1.2 73 t rfl
            rw [e73]
            omega
          dsimp only
          refine xP_m (P181_2 hF f p5 (Or.inr rfl) ?_) (fun v m' q => xVT_t x4 q)
          show (m4.1 70 1).toInt - (m4.1 70 8).toInt + (1 : Int) < f
          rw [et4, et3, et2, et1]
          omega
      by_cases h91 : v1 = 91
      · have lt : (m1.1 70 8).toInt < (m1.1 70 1).toInt := by
          rw [et1]
          exact xsee q5 h91 (by decide)
        have nb : m1.1 71 (m1.1 70 8).toNatClampNeg ≠ 32 := by
          rw [q2.2 71 _ rfl]
          intro z
          rcases q5 with q5 | q5
          · rw [et1] at lt
            have := q5.2
            omega
          · rw [z] at q5
            exact absurd (h91.symm.trans q5.1) (by decide)
        refine xP_b (P167i hF q1 lt nb) (fun v2 m2 r => ?_)
        obtain ⟨rfl, r⟩ := r
        exact step ⟨q1, xfr_r _ _, Int.le_refl _, p1.2.2.1⟩ r (fun _ => rfl)
      · refine xP_b (P167 hF q1 p1.2.2.1) (fun v2 m2 r => ?_)
        exact step r.1 r.2 (fun z => absurd z h91)
theorem P181 (hF : 500 ≤ F) (p : xpr t b (xB m) ((m.1 70 16).toInt) m) : xP (D181 F m) (xVT t b m) := by
  have bb := xT8 p.2.1
  exact P181_2 hF F p (Or.inr rfl) (by show _ + (1 : Int) < _; omega)
end XTST
end
section
/-! Closing brackets; whole tests. -/
section XCLO
variable {F t b D : Nat} {m m' : xS} {K : Int}
theorem x0K (p : xpr t b D ((m.1 70 16).toInt) m) : xpr t b D ((m.1 70 16).toInt + 0) m := by
  rw [Int.add_zero]
  exact p
theorem zsn_l {c : Int32} (h : (zsn c).toInt < 1) : ¬ (c = 12 ∨ c = 13) := fun z => by
  rcases z with rfl | rfl
  · exact absurd h (by decide)
  · exact absurd h (by decide)
theorem xB_top (h : 0 < (m.1 70 16).toInt) : xB m = zbc (m.1 77) (((m.1 70 16).toInt).toNat - 1) + (if m.1 77 (((m.1 70 16).toInt).toNat - 1) = 12 ∨ m.1 77 (((m.1 70 16).toInt).toNat - 1) = 13 then 1 else 0) := by
  unfold xB
  rw [show ((m.1 70 16).toInt).toNat = (((m.1 70 16).toInt).toNat - 1) + 1 by omega]
  rfl
theorem P183_5 (hF : 500 ≤ F) : ∀ (f : Nat) {m : xS}, xpr t b (xB m + 1) ((m.1 70 16).toInt) m → (m.1 70 1).toInt - (m.1 70 8).toInt < f → xP (D183_5 F f m) (fun _ m' => xq t xMT m m' ∧ xpr t b (xB m' + 1) ((m'.1 70 16).toInt) m')
  | 0, m, p, hf => by have := p.2.2.1; omega
  | f + 1, m, p, hf => by
    unfold D183_5
    refine xP_b (P164 hF p.2.1 p.2.2.1) (fun v1 m1 q => ?_)
    obtain ⟨q1, q2, q3, q4, q5⟩ := q
    have w1 : xWp m m1 := ⟨q1, q2, q3, q4⟩
    obtain ⟨b1, b2⟩ := xB_f q2 (fun _ => rfl) rfl
    have p1 : xpr t b (xB m1 + 1) ((m1.1 70 16).toInt) m1 := by
      rw [b1, b2]
      exact xpr_w p w1
    have x1 : xq t xMT m m1 := xq_l (by decide) (xq_w w1)
    have et1 : m1.1 70 1 = m.1 70 1 := q2.2 70 1 rfl
    dsimp only
    refine xP_i (fun _ => xP_r ⟨x1, p1⟩) (fun c => ?_)
    have lt : (m1.1 70 8).toInt < (m.1 70 1).toInt := xsee q5 (zne c) (by decide)
    refine xP_b (P182 hF q1) (fun v2 mx r => ?_)
    obtain ⟨rfl, r⟩ := r
    dsimp only
    refine xP_i (fun _ => xP_r ⟨x1, p1⟩) (fun c2 => ?_)
    obtain ⟨j, j1, j2⟩ : ∃ j : Nat, (j : Int) < (mx.1 70 16).toInt ∧ mx.1 77 j = 91 := by
      rcases r with r | r
      · exact absurd r (zneq c2)
      · exact r.2
    refine xP_b (P176 (l := 1) (K := 0) hF (Int.le_refl (1 : Int)) (Int.le_refl _) (x0K p1)) (fun _ m2 s => ?_)
    obtain ⟨s1, s2, s3, s4, s5⟩ := s
    have s4 := s4 j j1 j2
    have a2 : m2.1 77 = mx.1 77 := funext fun k => s1.2.1.2 77 k rfl
    have tp' : ¬ (m2.1 77 (((m2.1 70 16).toInt).toNat - 1) = 12 ∨ m2.1 77 (((m2.1 70 16).toInt).toNat - 1) = 13) := by
      rw [a2]
      rcases s5 with s5 | s5
      · omega
      · exact zsn_l s5
    have B2 := xB_top (m := m2) (by omega)
    rw [if_neg tp'] at B2
    have bo := xT16 s3.2.1
    have bb := xT8 s3.2.1
    have et2 : m2.1 70 1 = mx.1 70 1 := s1.2.1.2 70 1 rfl
    have e16 : (m2.1 70 16 - 1).toInt = (m2.1 70 16).toInt - 1 := xs1 (by show _ ≤ _ - (1 : Int); omega) (by show _ - (1 : Int) ≤ _; omega)
    have e8 : (m2.1 70 8 + 1).toInt = (m2.1 70 8).toInt + 1 := xa1 (by show _ ≤ _ + (1 : Int); omega) (by show _ + (1 : Int) ≤ _; omega)
    have l3 : (m2.1 70 8).toInt + 1 ≤ (m2.1 70 1).toInt := by
      rw [et2, et1]
      omega
    have hT3 : xT (xu (xu (xu m2 70 16 (m2.1 70 16 - 1)) 70 13 (m2.1 70 13 - 1)) 70 8 (m2.1 70 8 + 1)) := xT_c (xT_c (xT_c s3.2.1 (i := 70) (j := 16) rfl (by omega) (by omega)) (i := 70) (j := 13) (lo := -2147483648) (hi := 2147483647) rfl (y32 _).1 (by have := (y32 (m2.1 70 13 - 1)).2; omega)) (i := 70) (j := 8) rfl (by omega) (by omega)
    have n3 : ((xu (xu (xu m2 70 16 (m2.1 70 16 - 1)) 70 13 (m2.1 70 13 - 1)) 70 8 (m2.1 70 8 + 1)).1 70 8).toInt = (m2.1 70 8).toInt + 1 := by rw [xu_s]; exact e8
    have o3 : ((xu (xu (xu m2 70 16 (m2.1 70 16 - 1)) 70 13 (m2.1 70 13 - 1)) 70 8 (m2.1 70 8 + 1)).1 70 16).toInt = (m2.1 70 16).toInt - 1 := e16
    have f3 : xfr xMT m2 (xu (xu (xu m2 70 16 (m2.1 70 16 - 1)) 70 13 (m2.1 70 13 - 1)) 70 8 (m2.1 70 8 + 1)) := xfr_t (xfr_t (xfr_u rfl) (xfr_u rfl)) (xfr_u rfl)
    have x3 : xq t xMT m2 (xu (xu (xu m2 70 16 (m2.1 70 16 - 1)) 70 13 (m2.1 70 13 - 1)) 70 8 (m2.1 70 8 + 1)) := ⟨hT3, f3, by omega, by omega, Int.le_refl _, Int.le_refl _, fun _ _ => rfl⟩
    have B3 : xB (xu (xu (xu m2 70 16 (m2.1 70 16 - 1)) 70 13 (m2.1 70 13 - 1)) 70 8 (m2.1 70 8 + 1)) = xB m2 := by
      rw [B2]
      unfold xB
      rw [o3]
      show zbc (m2.1 77) _ = _
      congr 1
      omega
    have p3 : xpr t b (xB (xu (xu (xu m2 70 16 (m2.1 70 16 - 1)) 70 13 (m2.1 70 13 - 1)) 70 8 (m2.1 70 8 + 1)) + 1) ((xu (xu (xu m2 70 16 (m2.1 70 16 - 1)) 70 13 (m2.1 70 13 - 1)) 70 8 (m2.1 70 8 + 1)).1 70 16).toInt (xu (xu (xu m2 70 16 (m2.1 70 16 - 1)) 70 13 (m2.1 70 13 - 1)) 70 8 (m2.1 70 8 + 1)) := by
      rw [B3, o3]
      refine xpr_q s3 (M := xMT) rfl rfl (by omega) x3 s3.2.2.2.2.2.2 ?_
      have l : (m2.1 73 t).toInt + ((m2.1 70 16).toInt + 0) ≤ (m2.1 70 8).toInt := s3.2.2.2.2.2.1
      rw [n3]
      show (m2.1 73 t).toInt + ((m2.1 70 16).toInt - 1) ≤ _
      omega
    have x2 : xq t xMT m m2 := xq_t rfl x1 (xq_l (by decide) s1)
    have x4 := xq_t rfl x2 x3
    dsimp only
    refine xP_b (P176 (l := 3) (K := 0) hF (by decide) (Int.le_refl _) (x0K p3)) (fun _ m5 u => ?_)
    obtain ⟨u1, u2, u3, -, -⟩ := u
    have x5 : xq t xMT m m5 := xq_t rfl x4 (xq_l (by decide) u1)
    have et5 : m5.1 70 1 = m.1 70 1 := x5.2.1.2 70 1 rfl
    rw [Int.add_zero] at u3
    dsimp only
    refine xP_m (P183_5 hF f u3 ?_) (fun _ m6 z => ⟨xq_t rfl x5 z.1, z.2⟩)
    rw [et5, u2, n3]
    omega
theorem P183 (hF : 500 ≤ F) (p : xpr t b (xB m + 1) ((m.1 70 16).toInt) m) : xP (D183 F m) (fun _ m' => xq t xMT m m' ∧ xpr t b (xB m' + 1) ((m'.1 70 16).toInt) m') := by
  unfold D183
  refine xP_b (P176 (l := 3) (K := 0) hF (by decide) (Int.le_refl _) (x0K p)) (fun _ m1 u => ?_)
  obtain ⟨u1, u2, u3, -, -⟩ := u
  rw [Int.add_zero] at u3
  have bb := xT8 u3.2.1
  have x1 : xq t xMT m m1 := xq_l (by decide) u1
  dsimp only
  exact xP_m (P183_5 hF F u3 (by omega)) (fun _ m6 z => ⟨xq_t rfl x1 z.1, z.2⟩)
/-- tested -/
def xVE (t b : Nat) (m : xS) (v : Int32) (m' : xS) : Prop := xq t xMT m m' ∧ ((v = 0 ∧ 1 ≤ (m'.1 70 9).toInt) ∨ (v = 1 ∧ (∃ D, 1 ≤ D ∧ xg t b D m') ∧ (m'.1 73 t).toInt ≤ (m'.1 70 8).toInt))
theorem xVE_t {v : Int32} {m2 : xS} (x : xq t xMT m m') (q : xVE t b m' v m2) : xVE t b m v m2 := ⟨xq_t rfl x q.1, q.2⟩
theorem P175p {c : Int32} : xP (D175 F c m) (fun v m' => v = zsn c ∧ m' = m) := ⟨_, P175, rfl, rfl⟩
theorem P184_76 {g : Int32 → xS → Option (Int32 × xS)} {v w : Int32} (hF : 500 ≤ F) (p : xpr t b (xB m + 1) ((m.1 70 16).toInt) m) (le : xlt m 97 122 (m.1 70 8)) (hw : w = 12 ∨ w = 13) (hl : 1 ≤ (zsn w).toInt) (hg : ∀ m', xpr t b (xB m') ((m'.1 70 16).toInt) m' → (m.1 70 8).toInt < (m'.1 70 8).toInt → (m'.1 70 1).toInt = (m.1 70 1).toInt → xP (g v m') (xVE t b m')) : xP (D184_76 F g v w m) (xVE t b m) := by
  unfold D184_76
  refine xP_b (P168 hF p.2.1 p.2.2.1) (fun _ m1 u => ?_)
  obtain ⟨w1, u2⟩ := u
  have u2 := u2 le
  obtain ⟨b1, b2⟩ := xB_f w1.2.1 (fun _ => rfl) rfl
  have p0 := xpr_w p w1
  have bo := xT16 p0.2.1
  have p1 : xpr t b (xB m1 + 1) ((m1.1 70 16).toInt + 1) m1 := by
    rw [b1, b2]
    refine xpr_q p0 (M := xMT) rfl rfl (by have := p.2.2.2.2.1; omega) (xq_r p0.2.1 p0.2.2.1) p0.2.2.2.2.2.2 ?_
    have l : (m.1 73 t).toInt + (m.1 70 16).toInt ≤ (m.1 70 8).toInt := p.2.2.2.2.2.1
    rw [w1.2.1.2 73 t rfl]
    omega
  have x1 : xq t xMT m m1 := xq_l (by decide) (xq_w w1)
  dsimp only
  refine xP_b P175p (fun vs mx q => ?_)
  obtain ⟨rfl, rfl⟩ := q
  dsimp only
  refine xP_b (P176 (l := zsn w) (K := 1) hF hl (by decide) p1) (fun _ m2 s => ?_)
  obtain ⟨s1, s2, s3, -, -⟩ := s
  have bo2 := xT16 s3.2.1
  have bb := xT8 s3.2.1
  have l2 : (m2.1 73 t).toInt + ((m2.1 70 16).toInt + 1) ≤ (m2.1 70 8).toInt := s3.2.2.2.2.2.1
  have n2 : (m2.1 70 8).toInt ≤ (m2.1 70 1).toInt := s3.2.2.1
  have bl : 0 ≤ (m2.1 73 t).toInt := (s3.2.1 73 t _ (xbn_a (k := 0) (n := 7) (ec := 11) (by decide) rfl (by decide) (by have := p.1; omega))).1
  have e16 : (m2.1 70 16 + 1).toInt = (m2.1 70 16).toInt + 1 := xa1 (by show _ ≤ _ + (1 : Int); omega) (by show _ + (1 : Int) ≤ _; omega)
  have e2 : (m2.1 70 16).toNatClampNeg = ((m2.1 70 16).toInt).toNat := rfl
  dsimp only
  rw [e2]
  refine xP_g (xib_t (by omega) (by omega)) ?_
  have hT3 : xT (xu (xu m2 77 ((m2.1 70 16).toInt).toNat w) 70 16 (m2.1 70 16 + 1)) := xT_c (xT_c s3.2.1 (lo := -2147483648) (hi := 2147483647) (xbn_a (k := 0) (n := 400) (ec := 0) (by decide) rfl (by decide) (by omega)) (y32 _).1 (by have := (y32 w).2; omega)) (i := 70) (j := 16) rfl (by omega) (by omega)
  have o3 : ((xu (xu m2 77 ((m2.1 70 16).toInt).toNat w) 70 16 (m2.1 70 16 + 1)).1 70 16).toInt = (m2.1 70 16).toInt + 1 := by rw [xu_s]; exact e16
  have x3 : xq t xMT m2 (xu (xu m2 77 ((m2.1 70 16).toInt).toNat w) 70 16 (m2.1 70 16 + 1)) := ⟨hT3, xfr_t (xfr_u rfl) (xfr_u rfl), Int.le_refl _, n2, Int.le_refl _, Int.le_refl _, fun _ _ => rfl⟩
  have a3 : ∀ j, (xu (xu m2 77 ((m2.1 70 16).toInt).toNat w) 70 16 (m2.1 70 16 + 1)).1 77 j = if j = ((m2.1 70 16).toInt).toNat then w else m2.1 77 j := fun j => by
    refine (xu_o (fun z => by omega)).trans ?_
    by_cases z : j = ((m2.1 70 16).toInt).toNat
    · rw [if_pos z, z, xu_s]
    · rw [if_neg z]
      exact xu_o (fun y => z y.2)
  have B3 : xB (xu (xu m2 77 ((m2.1 70 16).toInt).toNat w) 70 16 (m2.1 70 16 + 1)) = xB m2 + 1 := by
    unfold xB
    rw [o3, show ((m2.1 70 16).toInt + 1).toNat = ((m2.1 70 16).toInt).toNat + 1 by omega]
    show zbc _ _ + _ = _
    rw [a3, if_pos rfl, if_pos hw, zbc_c (f := m2.1 77) (fun j hj => by rw [a3, if_neg (by omega)])]
  have p3 : xpr t b (xB (xu (xu m2 77 ((m2.1 70 16).toInt).toNat w) 70 16 (m2.1 70 16 + 1))) ((xu (xu m2 77 ((m2.1 70 16).toInt).toNat w) 70 16 (m2.1 70 16 + 1)).1 70 16).toInt (xu (xu m2 77 ((m2.1 70 16).toInt).toNat w) 70 16 (m2.1 70 16 + 1)) := by
    rw [B3, o3]
    exact ⟨s3.1, hT3, s3.2.2.1, s3.2.2.2.1, by omega, l2, s3.2.2.2.2.2.2⟩
  have x2 : xq t xMT m m2 := xq_t rfl x1 (xq_l (by decide) s1)
  have x4 := xq_t rfl x2 x3
  refine xP_m (hg _ p3 ?_ ?_) (fun v4 m4 z => xVE_t x4 z)
  · show (m.1 70 8).toInt < (m2.1 70 8).toInt
    omega
  · exact congrArg Int32.toInt (x4.2.1.2 70 1 rfl)
theorem P184_54 {g : Int32 → xS → Option (Int32 × xS)} {v : Int32} (hF : 500 ≤ F) (p : xpr t b (xB m + 1) ((m.1 70 16).toInt) m) (le : xlt m 97 122 (m.1 70 8)) (hg : ∀ m', xpr t b (xB m') ((m'.1 70 16).toInt) m' → (m.1 70 8).toInt < (m'.1 70 8).toInt → (m'.1 70 1).toInt = (m.1 70 1).toInt → xP (g 1 m') (xVE t b m')) : xP (D184_54 F g v 1 m) (xVE t b m) := by
  unfold D184_54
  refine xP_i (fun c => absurd (zeq c) (by decide)) (fun _ => ?_)
  refine xP_b (P167i hF p.2.1 le.1 (xlt_nb le)) (fun v2 m2 r => ?_)
  obtain ⟨rfl, r⟩ := r
  dsimp only
  exact xP_i (fun _ => P184_76 hF p le (Or.inr rfl) (by decide) hg) (fun _ => P184_76 hF p le (Or.inl rfl) (by decide) hg)
theorem P184_12 (hF : 500 ≤ F) : ∀ (f : Nat) {k : Int32} {m : xS}, ((k = 1 ∧ xpr t b (xB m) ((m.1 70 16).toInt) m) ∨ (k = 0 ∧ xpr t b (xB m + 1) ((m.1 70 16).toInt) m)) → (m.1 70 1).toInt - (m.1 70 8).toInt + k.toInt < f → xP (D184_12 F f k m) (xVE t b m)
  | 0, k, m, p, hf => by
    rcases p with ⟨rfl, p⟩ | ⟨rfl, p⟩
    · have := p.2.2.1
      have hf : (m.1 70 1).toInt - (m.1 70 8).toInt + (1 : Int) < 0 := hf
      omega
    · have := p.2.2.1
      have hf : (m.1 70 1).toInt - (m.1 70 8).toInt + (0 : Int) < 0 := hf
      omega
  | f + 1, k, m, p, hf => by
    unfold D184_12
    rcases p with ⟨rfl, p⟩ | ⟨rfl, p⟩
    · have hf : (m.1 70 1).toInt - (m.1 70 8).toInt + (1 : Int) < ((f + 1 : Nat) : Int) := hf
      refine xP_i (fun c => absurd (zeq c) (by decide)) (fun _ => ?_)
      refine xP_b (P181 hF p) (fun v1 m1 q => ?_)
      obtain ⟨q1, q2⟩ := q
      dsimp only
      refine xP_i (fun c => ?_) (fun c => ?_)
      · have p1 : xpr t b (xB m1 + 1) ((m1.1 70 16).toInt) m1 := by
          rcases q2 with q2 | q2
          · exact absurd q2.1 (znet c)
          · exact q2.2
        refine xP_b (P183 hF p1) (fun _ m2 r => ?_)
        obtain ⟨r1, p2⟩ := r
        have x2 := xq_t rfl q1 r1
        dsimp only
        refine xP_b (P167 hF p2.2.1 p2.2.2.1) (fun v3 m3 s => ?_)
        obtain ⟨w3, s3⟩ := s
        obtain ⟨b3, b4⟩ := xB_f w3.2.1 (fun _ => rfl) rfl
        have p3 : xpr t b (xB m3 + 1) ((m3.1 70 16).toInt) m3 := by
          rw [b3, b4]
          exact xpr_w p2 w3
        have x3 : xq t xMT m m3 := xq_t rfl x2 (xq_l (by decide) (xq_w w3))
        have et3 : m3.1 70 1 = m.1 70 1 := x3.2.1.2 70 1 rfl
        have n3 := x3.2.2.1
        have go : ∀ m4 : xS, (m3.1 70 8).toInt ≤ (m4.1 70 8).toInt → (m4.1 70 1).toInt = (m3.1 70 1).toInt → ∀ m' : xS, xpr t b (xB m') ((m'.1 70 16).toInt) m' → (m4.1 70 8).toInt < (m'.1 70 8).toInt → (m'.1 70 1).toInt = (m4.1 70 1).toInt → xP (D184_12 F f 1 m') (xVE t b m') := by
          intro m4 h1 h2 m' p' h3 h4
          refine P184_12 hF f (Or.inl ⟨rfl, p'⟩) ?_
          show (m'.1 70 1).toInt - (m'.1 70 8).toInt + (1 : Int) < f
          rw [h4, h2, et3]
          omega
        dsimp only
        refine xP_i (fun c3 => ?_) (fun c3 => ?_)
        · have le : xlt m3 97 122 (m3.1 70 8) := by
            rcases s3 with s3 | s3
            · exact absurd s3 (znet c3)
            · exact s3.2
          unfold D184_49
          exact xP_m (P184_54 hF p3 le (go m3 (Int.le_refl _) rfl)) (fun v m' z => xVE_t x3 z)
        · refine xP_b (P167 hF p3.2.1 p3.2.2.1) (fun v4 m4 u => ?_)
          obtain ⟨w4, u4⟩ := u
          obtain ⟨b5, b6⟩ := xB_f w4.2.1 (fun _ => rfl) rfl
          have p4 : xpr t b (xB m4 + 1) ((m4.1 70 16).toInt) m4 := by
            rw [b5, b6]
            exact xpr_w p3 w4
          have x4 : xq t xMT m m4 := xq_t rfl x3 (xq_l (by decide) (xq_w w4))
          have et4 : m4.1 70 1 = m3.1 70 1 := w4.2.1.2 70 1 rfl
          have n4 := w4.2.2.1
          dsimp only
          refine xP_i (fun c4 => ?_) (fun c4 => ?_)
          · unfold D184_54
            refine xP_i (fun _ => ?_) (fun z => absurd rfl (zneq z))
            refine xP_m (P184_12 hF f (Or.inr ⟨rfl, p4⟩) ?_) (fun v m' z => xVE_t x4 z)
            show (m4.1 70 1).toInt - (m4.1 70 8).toInt + (0 : Int) < f
            rw [et4, et3]
            omega
          · have le : xlt m4 97 122 (m4.1 70 8) := by
              rcases u4 with u4 | u4
              · exact absurd u4 (zneq c4)
              · exact u4.2
            unfold D184_49
            exact xP_m (P184_54 hF p4 le (go m4 n4 (by rw [et4]))) (fun v m' z => xVE_t x4 z)
      · refine xP_r ⟨q1, Or.inl ⟨rfl, ?_⟩⟩
        rcases q2 with q2 | q2
        · exact q2.2
        · exact absurd ((zne c).symm.trans q2.1) (by decide)
    · refine xP_i (fun _ => ?_) (fun c => absurd rfl (zneq c))
      refine xP_b (P182 hF p.2.1) (fun v1 mx r => ?_)
      obtain ⟨rfl, r⟩ := r
      dsimp only
      refine xP_i (fun _ => ?_) (fun _ => ?_)
      · refine xP_b (P176 (l := 1) (K := 0) hF (Int.le_refl (1 : Int)) (Int.le_refl _) (x0K p)) (fun _ m2 s => ?_)
        obtain ⟨s1, s2, s3, -, -⟩ := s
        have bo := xT16 s3.2.1
        have l2 : (m2.1 73 t).toInt + ((m2.1 70 16).toInt + 0) ≤ (m2.1 70 8).toInt := s3.2.2.2.2.2.1
        exact xP_r ⟨xq_l (by decide) s1, Or.inr ⟨rfl, ⟨_, Nat.le_add_left 1 _, s3.2.2.2.2.2.2⟩, by show (m2.1 73 t).toInt ≤ (m2.1 70 8).toInt; omega⟩⟩
      · refine xP_b (P164 hF p.2.1 p.2.2.1) (fun v2 m2 q => ?_)
        obtain ⟨q1, q2, q3, q4, -⟩ := q
        have w2 : xWp mx m2 := ⟨q1, q2, q3, q4⟩
        have p2 := xpr_w p w2
        have bb := xT8 q1
        dsimp only
        refine xP_b (P163 (F := F) (k := 0) (a := m2.1 70 8) q1 ⟨by decide, by decide⟩ ⟨by omega, by omega⟩) (fun v3 m3 s => ?_)
        obtain ⟨s1, s2, s3, s4⟩ := s
        dsimp only
        rw [s1]
        exact xP_g (by decide) (xP_r ⟨xq_t rfl (xq_l (by decide) (xq_w w2)) (xq_l (by decide) (xq_9 (t := t) p2.2.2.1 s2 s3)), Or.inl ⟨rfl, s4⟩⟩)
theorem P184 (hF : 500 ≤ F) (p : xpr t b 0 0 m) : xP (D184 F m) (xVE t b m) := by
  have bb := xT8 p.2.1
  unfold D184
  have hT : xT (xu (xu m 70 16 0) 70 13 0) := xT_c (xT_c p.2.1 (i := 70) (j := 16) rfl (by decide) (by decide)) (i := 70) (j := 13) (lo := -2147483648) (hi := 2147483647) rfl (by decide) (by decide)
  have x1 : xq t xMT m (xu (xu m 70 16 0) 70 13 0) := ⟨hT, xfr_t (xfr_u rfl) (xfr_u rfl), Int.le_refl _, p.2.2.1, Int.le_refl _, Int.le_refl _, fun _ _ => rfl⟩
  refine xP_m (P184_12 hF F (k := 1) (Or.inl ⟨rfl, ?_⟩) ?_) (fun v m' z => xVE_t x1 z)
  · exact ⟨p.1, hT, p.2.2.1, p.2.2.2.1, Int.le_refl (0 : Int), p.2.2.2.2.2.1, p.2.2.2.2.2.2⟩
  · show (m.1 70 1).toInt - (m.1 70 8).toInt + (1 : Int) < F
    omega
end XCLO
end
section
/-! Clauses; whole rules of the reference: their codes are well formed. -/
def wfs (m : xS) (t : Nat) (lo hi : Int32) : Prop := 0 ≤ lo.toInt ∧ lo.toInt ≤ hi.toInt ∧ hi.toInt ≤ 400 ∧ ∃ D, 1 ≤ D ∧ zdp (m.1 72) (400 * t + lo.toInt.toNat) (hi.toInt.toNat - lo.toInt.toNat) = some D
def wfc (m : xS) (t a : Nat) : Prop := wfs m t (m.1 74 a) (m.1 74 (a + 1)) ∧ ((m.1 74 (a + 2)).toInt < 0 ∨ wfs m t (m.1 74 (a + 2)) (m.1 74 (a + 3)))
def xA (m : xS) : Prop := ∀ t c : Nat, t < 6 → (c : Int) < (m.1 75 t).toInt → wfc m t (48 * t + 4 * c)
def xAe (t : Nat) (m : xS) : Prop := ∀ c : Nat, (c : Int) < (m.1 75 t).toInt → (m.1 74 (48 * t + 4 * c + 1)).toInt ≤ (m.1 73 t).toInt ∧ (m.1 74 (48 * t + 4 * c + 3)).toInt ≤ (m.1 73 t).toInt
def xJ (t : Nat) (m : xS) : Prop := t < 6 ∧ xT m ∧ (m.1 70 8).toInt ≤ (m.1 70 1).toInt ∧ (m.1 70 11).toInt = (t : Int) ∧ (m.1 73 t).toInt ≤ (m.1 70 8).toInt ∧ xA m ∧ xAe t m
abbrev xMR0 : yM := [(70, 70, 8), (70, 70, 9), (70, 70, 10), (70, 70, 12), (70, 70, 13), (70, 70, 16), (72, 75, 1000), (77, 77, 1000)]
abbrev xMR1 : yM := [(70, 70, 8), (70, 70, 9), (70, 70, 10), (70, 70, 12), (70, 70, 13), (70, 70, 14), (70, 70, 16), (72, 75, 1000), (77, 77, 1000)]
abbrev xMR : yM := [(70, 70, 1), (70, 70, 2), (70, 70, 8), (70, 70, 9), (70, 70, 10), (70, 70, 11), (70, 70, 12), (70, 70, 13), (70, 70, 14), (70, 70, 16), (72, 75, 1000), (77, 77, 1000)]
section XCLA
variable {F t b D : Nat} {m m' : xS} {K : Int} {M : yM}
theorem xl73 (h : xT m) (ht : t < 6) : 0 ≤ (m.1 73 t).toInt ∧ (m.1 73 t).toInt ≤ 400 := h 73 t _ (xbn_a (k := 0) (n := 7) (ec := 11) (by decide) rfl (by decide) (by omega))
theorem xl75 (h : xT m) (ht : t < 6) : 0 ≤ (m.1 75 t).toInt ∧ (m.1 75 t).toInt ≤ 12 := h 75 t _ (xbn_a (k := 0) (n := 6) (ec := 12) (by decide) rfl (by decide) ht)
theorem wfs_c {u : Nat} {lo hi : Int32} (w : wfs m u lo hi) (h : ∀ j, 400 * u ≤ j → (j : Int) < 400 * u + hi.toInt → m'.1 72 j = m.1 72 j) : wfs m' u lo hi := by
  obtain ⟨w1, w2, w3, D, w4, w5⟩ := w
  refine ⟨w1, w2, w3, D, w4, ?_⟩
  rw [zdp_c (f := m.1 72) (fun j h1 h2 => h j (by omega) (by omega))]
  exact w5
theorem xA_q (hT : xT m) (ht : t < 6) (a : xA m) (ae : xAe t m) (q : xq t M m m') (h4 : ∀ j : Nat, yinM M 74 (j : Int) = false) (h5 : ∀ j : Nat, yinM M 75 (j : Int) = false) : xA m' ∧ xAe t m' := by
  have e4 : ∀ j, m'.1 74 j = m.1 74 j := fun j => q.2.1.2 74 j (h4 j)
  have e5 : ∀ j, m'.1 75 j = m.1 75 j := fun j => q.2.1.2 75 j (h5 j)
  have s := q.2.2.2.2.2.2
  have l := q.2.2.2.2.1
  have b0 := xl73 hT ht
  constructor
  · intro u c hu hc
    rw [e5] at hc
    obtain ⟨w1, w2⟩ := a u c hu hc
    have al : u = t → (m.1 74 (48 * u + 4 * c + 1)).toInt ≤ (m.1 73 t).toInt ∧ (m.1 74 (48 * u + 4 * c + 3)).toInt ≤ (m.1 73 t).toInt := fun e => by
      subst e
      exact ae c hc
    have st : ∀ {lo hi : Int32}, wfs m u lo hi → (u = t → hi.toInt ≤ (m.1 73 t).toInt) → wfs m' u lo hi := by
      intro lo hi w hh
      have w3 := w.2.2.1
      refine wfs_c w (fun j h1 h2 => s j ?_)
      by_cases e : u = t
      · have := hh e
        subst e
        omega
      · omega
    unfold wfc
    rw [e4, e4, e4, e4]
    refine ⟨st w1 (fun e => (al e).1), ?_⟩
    rcases w2 with w2 | w2
    · exact Or.inl w2
    · exact Or.inr (st w2 (fun e => (al e).2))
  · intro c hc
    rw [e5] at hc
    rw [e4, e4]
    have := ae c hc
    omega
theorem xJ_q (j : xJ t m) (q : xq t M m m') (h1 : yinM M 70 1 = false) (h2 : yinM M 70 11 = false) (h4 : ∀ j : Nat, yinM M 74 (j : Int) = false) (h5 : ∀ j : Nat, yinM M 75 (j : Int) = false) (hl : (m'.1 73 t).toInt ≤ (m'.1 70 8).toInt) : xJ t m' := by
  obtain ⟨j1, j2, j3, j4, j5, j6, j7⟩ := j
  obtain ⟨a, ae⟩ := xA_q j2 j1 j6 j7 q h4 h5
  refine ⟨j1, q.1, ?_, ?_, hl, a, ae⟩
  · rw [q.2.1.2 70 1 h1]
    exact q.2.2.2.1
  · rw [q.2.1.2 70 11 h2]
    exact j4
theorem xJ_74 (j : xJ t m) {i : Nat} {v : Int32} (h1 : 48 * (t : Int) + 4 * (m.1 75 t).toInt ≤ (i : Int)) (h2 : i < 48 * t + 48) : xJ t (xu m 74 i v) := by
  obtain ⟨j1, j2, j3, j4, j5, j6, j7⟩ := j
  have ne : ∀ u c k : Nat, u < 6 → (c : Int) < (m.1 75 u).toInt → k < 4 → (xu m 74 i v).1 74 (48 * u + 4 * c + k) = m.1 74 (48 * u + 4 * c + k) := by
    intro u c k hu hc hk
    refine xu_o (fun z => ?_)
    have b := xl75 j2 hu
    have b2 := xl75 j2 j1
    have z2 := z.2
    by_cases e : u = t
    · subst e
      omega
    · omega
  refine ⟨j1, xT_c j2 (lo := -2147483648) (hi := 2147483647) (xbn_a (k := 0) (n := 288) (ec := 0) (by decide) rfl (by decide) (by omega)) (y32 _).1 (by have := (y32 v).2; omega), j3, j4, j5, ?_, ?_⟩
  · intro u c hu hc
    have hc : (c : Int) < (m.1 75 u).toInt := hc
    unfold wfc
    rw [show 48 * u + 4 * c = 48 * u + 4 * c + 0 from rfl, ne u c 0 hu hc (by decide), show 48 * u + 4 * c + 0 + 1 = 48 * u + 4 * c + 1 from rfl, show 48 * u + 4 * c + 0 + 2 = 48 * u + 4 * c + 2 from rfl, show 48 * u + 4 * c + 0 + 3 = 48 * u + 4 * c + 3 from rfl, ne u c 1 hu hc (by decide), ne u c 2 hu hc (by decide), ne u c 3 hu hc (by decide)]
    exact j6 u c hu hc
  · intro c hc
    have hc : (c : Int) < (m.1 75 t).toInt := hc
    rw [ne t c 1 j1 hc (by decide), ne t c 3 j1 hc (by decide)]
    exact j7 c hc
theorem xJ_p (j : xJ t m) : xpr t ((m.1 73 t).toInt).toNat 0 0 m := by
  obtain ⟨j1, j2, j3, j4, j5, j6, j7⟩ := j
  have b0 := xl73 j2 j1
  refine ⟨j1, j2, j3, j4, Int.le_refl _, by omega, by omega, ?_, (j2 70 12 (0, 60) rfl).1⟩
  rw [Nat.sub_self]
  rfl
/-- the end of a clause -/
def xL (t : Nat) (m : xS) (v : Int32) (m' : xS) : Prop := xfr xMR0 m m' ∧ (m.1 70 8).toInt ≤ (m'.1 70 8).toInt ∧ xT m' ∧ xA m' ∧ ((v = 0 ∧ 1 ≤ (m'.1 70 9).toInt) ∨ (v = 1 ∧ xJ t m' ∧ (m'.1 75 t).toInt = (m.1 75 t).toInt + 1))
theorem P185_110 {a : Int32} {c : Nat} (j : xJ t m) (hc : (m.1 75 t).toInt = (c : Int)) (hc2 : c ≤ 11) (ha : a.toInt = 48 * (t : Int) + 4 * (c : Int)) (w1 : wfs m t (m.1 74 (48 * t + 4 * c)) (m.1 74 (48 * t + 4 * c + 1))) (l1 : (m.1 74 (48 * t + 4 * c + 1)).toInt ≤ (m.1 73 t).toInt) (w2 : (m.1 74 (48 * t + 4 * c + 2)).toInt < 0 ∨ wfs m t (m.1 74 (48 * t + 4 * c + 2)) (m.1 73 t)) : xP (D185_110 F a m) (xL t m) := by
  have jj := j
  obtain ⟨j1, j2, j3, j4, j5, j6, j7⟩ := j
  have et : (m.1 70 11).toNatClampNeg = t := by show (m.1 70 11).toInt.toNat = t; omega
  have e3 : (a + 3).toInt = a.toInt + 3 := xa1 (by show _ ≤ _ + (3 : Int); omega) (by show _ + (3 : Int) ≤ _; omega)
  have n3 : (a + 3).toNatClampNeg = 48 * t + 4 * c + 3 := by show (a + 3).toInt.toNat = _; omega
  unfold D185_110
  rw [et, n3]
  refine xP_g (xib_t (by omega) (by omega)) (xP_g (xib_t (by omega) (by omega)) (xP_g (xib_t (by omega) (by omega)) (xP_g (xib_t (by omega) (by omega)) (xP_r ?_))))
  have J1 : xJ t (xu m 74 (48 * t + 4 * c + 3) (m.1 73 t)) := xJ_74 jj (by omega) (by omega)
  have r3 : (xu m 74 (48 * t + 4 * c + 3) (m.1 73 t)).1 74 (48 * t + 4 * c + 3) = m.1 73 t := xu_s _ _ _ _
  have r0 : ∀ k, k < 3 → (xu m 74 (48 * t + 4 * c + 3) (m.1 73 t)).1 74 (48 * t + 4 * c + k) = m.1 74 (48 * t + 4 * c + k) := fun k hk => xu_o (fun z => by omega)
  have f1 : xfr xMR0 m (xu m 74 (48 * t + 4 * c + 3) (m.1 73 t)) := xfr_u rfl
  have c75 : (xu m 74 (48 * t + 4 * c + 3) (m.1 73 t)).1 75 t = m.1 75 t := xu_o (fun z => by omega)
  have s72 : (xu m 74 (48 * t + 4 * c + 3) (m.1 73 t)).1 72 = m.1 72 := funext fun j => xu_o (fun z => by omega)
  have l73 : (xu m 74 (48 * t + 4 * c + 3) (m.1 73 t)).1 73 t = m.1 73 t := xu_o (fun z => by omega)
  have nn : (xu m 74 (48 * t + 4 * c + 3) (m.1 73 t)).1 70 = m.1 70 := funext fun j => xu_o (fun z => by omega)
  generalize xu m 74 (48 * t + 4 * c + 3) (m.1 73 t) = m1 at J1 r3 r0 f1 c75 s72 l73 nn ⊢
  obtain ⟨k1, k2, k3, k4, k5, k6, k7⟩ := J1
  have e1 : (m.1 75 t + 1).toInt = (c : Int) + 1 := (xa1 (by show _ ≤ _ + (1 : Int); omega) (by show _ + (1 : Int) ≤ _; omega)).trans (by rw [hc]; rfl)
  have hT2 : xT (xu m1 75 t (m.1 75 t + 1)) := xT_c k2 (xbn_a (k := 0) (n := 6) (ec := 12) (by decide) rfl (by decide) j1) (by show (0 : Int) ≤ _; omega) (by show _ ≤ (12 : Int); omega)
  have q5 : (xu m1 75 t (m.1 75 t + 1)).1 75 t = m.1 75 t + 1 := xu_s _ _ _ _
  have o5 : ∀ u, u ≠ t → (xu m1 75 t (m.1 75 t + 1)).1 75 u = m1.1 75 u := fun u hu => xu_o (fun z => hu z.2)
  have wn : wfc m1 t (48 * t + 4 * c) := by
    have wt : ∀ {lo hi : Int32}, wfs m t lo hi → wfs m1 t lo hi := fun w => wfs_c w (fun j _ _ => by rw [s72])
    unfold wfc
    rw [r3, r0 1 (by decide), r0 2 (by decide), show 48 * t + 4 * c = 48 * t + 4 * c + 0 from rfl, r0 0 (by decide)]
    exact ⟨wt w1, w2.imp_right wt⟩
  have a2 : xA (xu m1 75 t (m.1 75 t + 1)) := by
    intro u c2 hu h2
    by_cases e : u = t
    · subst e
      rw [q5, e1] at h2
      by_cases e2 : c2 = c
      · subst e2
        exact wn
      · exact k6 u c2 hu (by rw [c75, hc]; omega)
    · rw [o5 u e] at h2
      exact k6 u c2 hu h2
  have ae2 : xAe t (xu m1 75 t (m.1 75 t + 1)) := by
    intro c2 h2
    rw [q5, e1] at h2
    show (m1.1 74 (48 * t + 4 * c2 + 1)).toInt ≤ (m1.1 73 t).toInt ∧ (m1.1 74 (48 * t + 4 * c2 + 3)).toInt ≤ (m1.1 73 t).toInt
    by_cases e2 : c2 = c
    · subst e2
      rw [r3, r0 1 (by decide), l73]
      exact ⟨l1, Int.le_refl _⟩
    · exact k7 c2 (by rw [c75, hc]; omega)
  have n1 : m1.1 70 8 = m.1 70 8 := by rw [nn]
  refine ⟨xfr_t f1 (xfr_u rfl), ?_, hT2, a2, Or.inr ⟨rfl, ⟨j1, hT2, k3, k4, k5, a2, ae2⟩, ?_⟩⟩
  · show (m.1 70 8).toInt ≤ (m1.1 70 8).toInt
    rw [n1]
    exact Int.le_refl _
  · rw [q5, e1, hc]
theorem xL_t {v : Int32} {m2 : xS} (f : xfr xMR0 m m') (n : (m.1 70 8).toInt ≤ (m'.1 70 8).toInt) (c : (m'.1 75 t).toInt = (m.1 75 t).toInt) (q : xL t m' v m2) : xL t m v m2 := by
  obtain ⟨q1, q2, q3, q4, q5⟩ := q
  refine ⟨xfr_t f q1, by omega, q3, q4, q5.imp_right (fun z => ⟨z.1, z.2.1, by rw [← c]; exact z.2.2⟩)⟩
/-- isLendHere -/
theorem P185 (hF : 500 ≤ F) (j : xJ t m) (hc : (m.1 75 t).toInt ≤ 11) : xP (D185 F m) (xL t m) := by
  have j1 := j.1
  unfold D185
  refine xP_b (P168 hF j.2.1 j.2.2.1) (fun _ m1 u => ?_)
  obtain ⟨wm, -⟩ := u
  have x1 : xq t xMS m m1 := xq_w wm
  have l1 : m1.1 73 t = m.1 73 t := wm.2.1.2 73 t rfl
  have J1 : xJ t m1 := xJ_q j x1 rfl rfl (fun _ => rfl) (fun _ => rfl) (by have := j.2.2.2.2.1; have := wm.2.2.1; rw [l1]; omega)
  have c1 : m1.1 75 t = m.1 75 t := wm.2.1.2 75 t rfl
  have et : (m1.1 70 11).toNatClampNeg = t := by show (m1.1 70 11).toInt.toNat = t; have := J1.2.2.2.1; omega
  have t1 := J1.2.2.2.1
  have b75 := xl75 J1.2.1 j1
  obtain ⟨c, hcc⟩ : ∃ c : Nat, (m1.1 75 t).toInt = (c : Int) := ⟨(m1.1 75 t).toInt.toNat, by omega⟩
  have c11 : c ≤ 11 := by rw [c1] at hcc; omega
  dsimp only
  rw [et]
  have ea : (48 * m1.1 70 11 + 4 * m1.1 75 t).toInt = 48 * (t : Int) + 4 * (c : Int) := by
    have a1 : (48 * m1.1 70 11).toInt = 48 * (t : Int) := (xm1 (by show _ ≤ (48 : Int) * _; omega) (by show (48 : Int) * _ ≤ _; omega)).trans (by rw [t1]; rfl)
    have a2 : (4 * m1.1 75 t).toInt = 4 * (c : Int) := (xm1 (by show _ ≤ (4 : Int) * _; omega) (by show (4 : Int) * _ ≤ _; omega)).trans (by rw [hcc]; rfl)
    exact (xa1 (by omega) (by omega)).trans (by rw [a1, a2])
  generalize 48 * m1.1 70 11 + 4 * m1.1 75 t = a at ea ⊢
  have e1 : (a + 1).toInt = a.toInt + 1 := xa1 (by show _ ≤ _ + (1 : Int); omega) (by show _ + (1 : Int) ≤ _; omega)
  have e2 : (a + 2).toInt = a.toInt + 2 := xa1 (by show _ ≤ _ + (2 : Int); omega) (by show _ + (2 : Int) ≤ _; omega)
  have n0 : a.toNatClampNeg = 48 * t + 4 * c := by show a.toInt.toNat = _; omega
  have n1 : (a + 1).toNatClampNeg = 48 * t + 4 * c + 1 := by show (a + 1).toInt.toNat = _; omega
  have n2 : (a + 2).toNatClampNeg = 48 * t + 4 * c + 2 := by show (a + 2).toInt.toNat = _; omega
  rw [n0, n1, n2]
  refine xP_g (xib_t (by omega) (by omega)) (xP_g (xib_t (by omega) (by omega)) (xP_g (xib_t (by omega) (by omega)) ?_))
  -- the sum's beginning is told
  have J2 : xJ t (xu m1 74 (48 * t + 4 * c) (m1.1 73 t)) := xJ_74 J1 (by omega) (by omega)
  have f2 : xfr xMR0 m (xu m1 74 (48 * t + 4 * c) (m1.1 73 t)) := xfr_t (xfr_l (by decide) wm.2.1) (xfr_u rfl)
  have g2 : (xu m1 74 (48 * t + 4 * c) (m1.1 73 t)).1 74 (48 * t + 4 * c) = m1.1 73 t := xu_s _ _ _ _
  have h2 : ((xu m1 74 (48 * t + 4 * c) (m1.1 73 t)).1 75 t).toInt = (c : Int) := hcc
  have k2 : (xu m1 74 (48 * t + 4 * c) (m1.1 73 t)).1 73 t = m1.1 73 t := rfl
  have o2 : (m.1 70 8).toInt ≤ ((xu m1 74 (48 * t + 4 * c) (m1.1 73 t)).1 70 8).toInt := wm.2.2.1
  generalize xu m1 74 (48 * t + 4 * c) (m1.1 73 t) = m2 at J2 f2 g2 h2 k2 o2 ⊢
  have p2 := xJ_p J2
  refine xP_b (P179 hF p2) (fun v3 m3 q => ?_)
  obtain ⟨x3, q3⟩ := q
  have f3 : xfr xMR0 m m3 := xfr_t f2 (xfr_l (by decide) x3.2.1)
  have o3 : (m.1 70 8).toInt ≤ (m3.1 70 8).toInt := Int.le_trans o2 x3.2.2.1
  obtain ⟨A3, -⟩ := xA_q J2.2.1 j1 J2.2.2.2.2.2.1 J2.2.2.2.2.2.2 x3 (fun _ => rfl) (fun _ => rfl)
  dsimp only
  refine xP_i (fun cc => ?_) (fun cc => ?_)
  case refine_2 =>
    refine xP_r ⟨f3, o3, x3.1, A3, Or.inl ⟨rfl, ?_⟩⟩
    rcases q3 with z | z
    · exact z.2
    · exact absurd ((zne cc).symm.trans z.1) (by decide)
  obtain ⟨gg, gl⟩ : xg t (m2.1 73 t).toInt.toNat (0 + 1) m3 ∧ (m3.1 73 t).toInt + 0 ≤ (m3.1 70 8).toInt := by
    rcases q3 with z | z
    · exact absurd z.1 (znet cc)
    · exact z.2
  have J3 : xJ t m3 := xJ_q J2 x3 rfl rfl (fun _ => rfl) (fun _ => rfl) (by omega)
  have t3 := J3.2.2.2.1
  have et3 : (m3.1 70 11).toNatClampNeg = t := by show (m3.1 70 11).toInt.toNat = t; omega
  have h3 : (m3.1 75 t).toInt = (c : Int) := by rw [x3.2.1.2 75 t rfl]; exact h2
  have g3 : m3.1 74 (48 * t + 4 * c) = m2.1 73 t := by rw [x3.2.1.2 74 _ rfl, k2]; exact g2
  have b2 := xl73 J2.2.1 j1
  have b3 := xl73 J3.2.1 j1
  have w3 : wfs m3 t (m2.1 73 t) (m3.1 73 t) := ⟨b2.1, x3.2.2.2.2.1, b3.2, 1, Nat.le_refl _, gg.2.1⟩
  rw [et3]
  refine xP_g (xib_t (by omega) (by omega)) (xP_g (xib_t (by omega) (by omega)) (xP_g (xib_t (by omega) (by omega)) ?_))
  -- its end
  have J5 : xJ t (xu (xu m3 74 (48 * t + 4 * c + 1) (m3.1 73 t)) 74 (48 * t + 4 * c + 2) (-1)) := xJ_74 (xJ_74 J3 (by omega) (by omega)) (by show 48 * (t : Int) + 4 * (m3.1 75 t).toInt ≤ _; omega) (by omega)
  have f5 : xfr xMR0 m (xu (xu m3 74 (48 * t + 4 * c + 1) (m3.1 73 t)) 74 (48 * t + 4 * c + 2) (-1)) := xfr_t f3 (xfr_t (xfr_u rfl) (xfr_u rfl))
  have g50 : (xu (xu m3 74 (48 * t + 4 * c + 1) (m3.1 73 t)) 74 (48 * t + 4 * c + 2) (-1)).1 74 (48 * t + 4 * c) = m2.1 73 t := ((xu_o (fun z => by omega)).trans (xu_o (fun z => by omega))).trans g3
  have g51 : (xu (xu m3 74 (48 * t + 4 * c + 1) (m3.1 73 t)) 74 (48 * t + 4 * c + 2) (-1)).1 74 (48 * t + 4 * c + 1) = m3.1 73 t := (xu_o (fun z => by omega)).trans (xu_s _ _ _ _)
  have g52 : (xu (xu m3 74 (48 * t + 4 * c + 1) (m3.1 73 t)) 74 (48 * t + 4 * c + 2) (-1)).1 74 (48 * t + 4 * c + 2) = -1 := xu_s _ _ _ _
  have h5 : ((xu (xu m3 74 (48 * t + 4 * c + 1) (m3.1 73 t)) 74 (48 * t + 4 * c + 2) (-1)).1 75 t).toInt = (c : Int) := h3
  have k5 : (xu (xu m3 74 (48 * t + 4 * c + 1) (m3.1 73 t)) 74 (48 * t + 4 * c + 2) (-1)).1 73 t = m3.1 73 t := rfl
  have s5 : (xu (xu m3 74 (48 * t + 4 * c + 1) (m3.1 73 t)) 74 (48 * t + 4 * c + 2) (-1)).1 72 = m3.1 72 := funext fun j => (xu_o (fun z => by omega)).trans (xu_o (fun z => by omega))
  have o5 : (m.1 70 8).toInt ≤ ((xu (xu m3 74 (48 * t + 4 * c + 1) (m3.1 73 t)) 74 (48 * t + 4 * c + 2) (-1)).1 70 8).toInt := o3
  generalize xu (xu m3 74 (48 * t + 4 * c + 1) (m3.1 73 t)) 74 (48 * t + 4 * c + 2) (-1) = m5 at J5 f5 g50 g51 g52 h5 k5 s5 o5 ⊢
  refine xP_b (P169 hF J5.2.1 J5.2.2.1) (fun v6 m6 q => ?_)
  obtain ⟨w6, -⟩ := q
  have x6 : xq t xMS m5 m6 := xq_w w6
  have l6 : m6.1 73 t = m5.1 73 t := w6.2.1.2 73 t rfl
  have J6 : xJ t m6 := xJ_q J5 x6 rfl rfl (fun _ => rfl) (fun _ => rfl) (by have := J5.2.2.2.2.1; have := w6.2.2.1; rw [l6]; omega)
  have f6 : xfr xMR0 m m6 := xfr_t f5 (xfr_l (by decide) w6.2.1)
  have o6 : (m.1 70 8).toInt ≤ (m6.1 70 8).toInt := Int.le_trans o5 w6.2.2.1
  have r6 : ∀ j, m6.1 74 j = m5.1 74 j := fun j => w6.2.1.2 74 j rfl
  have h6 : (m6.1 75 t).toInt = (c : Int) := by rw [w6.2.1.2 75 t rfl]; exact h5
  have s6 : m6.1 72 = m3.1 72 := by rw [← s5]; exact funext fun j => w6.2.1.2 72 j rfl
  have w36 : wfs m6 t (m2.1 73 t) (m3.1 73 t) := wfs_c w3 (fun j _ _ => by rw [s6])
  have cm : (m6.1 75 t).toInt = (m.1 75 t).toInt := by rw [h6, ← hcc, c1]
  have t6 := J6.2.2.2.1
  have et6 : (m6.1 70 11).toNatClampNeg = t := by show (m6.1 70 11).toInt.toNat = t; omega
  dsimp only
  refine xP_i (fun _ => ?_) (fun _ => ?_)
  · refine xP_m (P185_110 J6 h6 c11 ea ?_ ?_ (Or.inl ?_)) (fun v m' z => xL_t f6 o6 cm z)
    · rw [r6, r6, g50, g51]
      exact w36
    · rw [r6, g51, l6, k5]
      exact Int.le_refl _
    · rw [r6, g52]
      decide
  · rw [et6]
    refine xP_g (xib_t (by omega) (by omega)) (xP_g (xib_t (by omega) (by omega)) ?_)
    have J7 : xJ t (xu m6 74 (48 * t + 4 * c + 2) (m6.1 73 t)) := xJ_74 J6 (by omega) (by omega)
    have f7 : xfr xMR0 m (xu m6 74 (48 * t + 4 * c + 2) (m6.1 73 t)) := xfr_t f6 (xfr_u rfl)
    have g70 : (xu m6 74 (48 * t + 4 * c + 2) (m6.1 73 t)).1 74 (48 * t + 4 * c) = m2.1 73 t := (xu_o (fun z => by omega)).trans ((r6 _).trans g50)
    have g71 : (xu m6 74 (48 * t + 4 * c + 2) (m6.1 73 t)).1 74 (48 * t + 4 * c + 1) = m3.1 73 t := (xu_o (fun z => by omega)).trans ((r6 _).trans g51)
    have g72 : (xu m6 74 (48 * t + 4 * c + 2) (m6.1 73 t)).1 74 (48 * t + 4 * c + 2) = m6.1 73 t := xu_s _ _ _ _
    have h7 : ((xu m6 74 (48 * t + 4 * c + 2) (m6.1 73 t)).1 75 t).toInt = (c : Int) := h6
    have k7 : (xu m6 74 (48 * t + 4 * c + 2) (m6.1 73 t)).1 73 t = m6.1 73 t := rfl
    have s7 : (xu m6 74 (48 * t + 4 * c + 2) (m6.1 73 t)).1 72 = m6.1 72 := funext fun j => xu_o (fun z => by omega)
    have o7 : (m.1 70 8).toInt ≤ ((xu m6 74 (48 * t + 4 * c + 2) (m6.1 73 t)).1 70 8).toInt := o6
    generalize xu m6 74 (48 * t + 4 * c + 2) (m6.1 73 t) = m7 at J7 f7 g70 g71 g72 h7 k7 s7 o7 ⊢
    refine xP_b (P184 hF (xJ_p J7)) (fun v8 m8 q => ?_)
    obtain ⟨x8, q8⟩ := q
    have f8 : xfr xMR0 m m8 := xfr_t f7 (xfr_l (by decide) x8.2.1)
    have o8 : (m.1 70 8).toInt ≤ (m8.1 70 8).toInt := Int.le_trans o7 x8.2.2.1
    obtain ⟨A8, -⟩ := xA_q J7.2.1 j1 J7.2.2.2.2.2.1 J7.2.2.2.2.2.2 x8 (fun _ => rfl) (fun _ => rfl)
    dsimp only
    refine xP_i (fun c8 => ?_) (fun c8 => ?_)
    · obtain ⟨⟨D8, d1, d2⟩, l8⟩ : (∃ D, 1 ≤ D ∧ xg t (m7.1 73 t).toInt.toNat D m8) ∧ (m8.1 73 t).toInt ≤ (m8.1 70 8).toInt := by
        rcases q8 with z | z
        · exact absurd z.1 (znet c8)
        · exact z.2
      have J8 : xJ t m8 := xJ_q J7 x8 rfl rfl (fun _ => rfl) (fun _ => rfl) l8
      have r8 : ∀ j, m8.1 74 j = m7.1 74 j := fun j => x8.2.1.2 74 j rfl
      have h8 : (m8.1 75 t).toInt = (c : Int) := by rw [x8.2.1.2 75 t rfl]; exact h7
      have b7 := xl73 J7.2.1 j1
      have b8 := xl73 J8.2.1 j1
      have e73 : m7.1 73 t = m3.1 73 t := by rw [k7, l6, k5]
      have w37 : wfs m7 t (m2.1 73 t) (m3.1 73 t) := wfs_c w36 (fun j _ _ => by rw [s7])
      have w38 : wfs m8 t (m2.1 73 t) (m3.1 73 t) := wfs_c w37 (fun j h1 h2 => x8.2.2.2.2.2.2 j (Or.inl (by rw [e73]; exact h2)))
      refine xP_m (P185_110 J8 h8 c11 ea ?_ ?_ (Or.inr ?_)) (fun v m' z => xL_t f8 o8 (by rw [h8, ← hcc, c1]) z)
      · rw [r8, r8, g70, g71]
        exact w38
      · rw [r8, g71, ← e73]
        exact x8.2.2.2.2.1
      · rw [r8, g72, ← k7]
        exact ⟨b7.1, x8.2.2.2.2.1, b8.2, D8, d1, d2.2.1⟩
    · refine xP_r ⟨f8, o8, x8.1, A8, Or.inl ⟨rfl, ?_⟩⟩
      rcases q8 with z | z
      · exact z.2
      · exact absurd ((zne c8).symm.trans z.1) (by decide)
end XCLA
end
section
/-! The reference's rule: it comes to an end, and its codes stay well formed. -/
section XRUL2
variable {F t : Nat} {m m' : xS}
/-- how a clause ends -/
def xC (t : Nat) (m : xS) (v : Int32) (m' : xS) : Prop := xfr xMR1 m m' ∧ (m.1 70 8).toInt ≤ (m'.1 70 8).toInt ∧ xT m' ∧ xA m' ∧ ((v = 0 ∧ 1 ≤ (m'.1 70 9).toInt) ∨ (v = 1 ∧ xJ t m' ∧ (m'.1 75 t).toInt ≤ (m'.1 70 14).toInt ∧ (m'.1 70 14).toInt ≤ 12))
theorem xJ_f {N : yM} (j : xJ t m) (hT : xT m') (f : xfr N m m') (h1 : (m.1 70 8).toInt ≤ (m'.1 70 8).toInt) (h2 : (m'.1 70 8).toInt ≤ (m.1 70 1).toInt) (h3 : ∀ j : Nat, yinM N 72 (j : Int) = false) (h4 : ∀ j : Nat, yinM N 73 (j : Int) = false) (h5 : ∀ j : Nat, yinM N 74 (j : Int) = false) (h6 : ∀ j : Nat, yinM N 75 (j : Int) = false) (h7 : yinM N 70 1 = false) (h8 : yinM N 70 11 = false) : xJ t m' := by
  obtain ⟨j1, j2, j3, j4, j5, j6, j7⟩ := j
  have e2 : m'.1 72 = m.1 72 := funext fun j => f.2 72 j (h3 j)
  have e3 : m'.1 73 = m.1 73 := funext fun j => f.2 73 j (h4 j)
  have e4 : m'.1 74 = m.1 74 := funext fun j => f.2 74 j (h5 j)
  have e5 : m'.1 75 = m.1 75 := funext fun j => f.2 75 j (h6 j)
  refine ⟨j1, hT, by rw [f.2 70 1 h7]; exact h2, by rw [f.2 70 11 h8]; exact j4, by rw [e3]; omega, ?_, ?_⟩
  · unfold xA wfc wfs
    rw [e2, e4, e5]
    exact j6
  · unfold xAe
    rw [e3, e4, e5]
    exact j7
theorem xbad {k a : Int32} (h : xT m) (hA : xA m) (hk : 0 ≤ k.toInt ∧ k.toInt ≤ 4) (ha : 0 ≤ a.toInt ∧ a.toInt ≤ 400) : xP ((D163 F k a m).bind fun q => if xbo q.1 = true then some (q.1, q.2) else none) (xC t m) := by
  refine xP_b (P163 (F := F) h hk ha) (fun v m1 q => ?_)
  obtain ⟨q1, q2, q3, q4⟩ := q
  have e2 : m1.1 72 = m.1 72 := funext fun j => q3.2 72 j rfl
  have e4 : m1.1 74 = m.1 74 := funext fun j => q3.2 74 j rfl
  have e5 : m1.1 75 = m.1 75 := funext fun j => q3.2 75 j rfl
  dsimp only
  rw [q1]
  refine xP_g (by decide) (xP_r ⟨xfr_l (by decide) q3, by rw [q3.2 70 8 rfl]; exact Int.le_refl _, q2, ?_, Or.inl ⟨rfl, q4⟩⟩)
  unfold xA wfc wfs
  rw [e2, e4, e5]
  exact hA
theorem xC_t {v : Int32} {m2 : xS} (f : xfr xMR1 m m') (n : (m.1 70 8).toInt ≤ (m'.1 70 8).toInt) (q : xC t m' v m2) : xC t m v m2 := ⟨xfr_t f q.1, Int.le_trans n q.2.1, q.2.2⟩
/-- clauseHere, of a rule's text -/
theorem P195 (hF : 500 ≤ F) (j : xJ t m) (hl : (m.1 75 t).toInt ≤ (m.1 70 14).toInt) (hl2 : (m.1 70 14).toInt ≤ 12) : xP (D195 F m) (xC t m) := by
  have t5 := j.1
  unfold D195
  refine xP_b (P164 hF j.2.1 j.2.2.1) (fun v m1 q => ?_)
  obtain ⟨q1, q2, q3, q4, -⟩ := q
  have J1 : xJ t m1 := xJ_f j q1 q2 q3 q4 (fun _ => rfl) (fun _ => rfl) (fun _ => rfl) (fun _ => rfl) rfl rfl
  have b1 := xT8 q1
  have t1 := J1.2.2.2.1
  dsimp only
  refine xP_i (fun c => ?_) (fun c => ?_)
  case refine_2 =>
    have : (m1.1 70 11).toInt = (6 : Int) := congrArg Int32.toInt (zne c)
    omega
  unfold D195_24
  refine xP_i (fun _ => ?_) (fun c => absurd rfl (zneq c))
  refine xP_b (P167 hF q1 J1.2.2.1) (fun v2 m2 r => ?_)
  obtain ⟨⟨r1, r2, r3, r4⟩, -⟩ := r
  have J2 : xJ t m2 := xJ_f J1 r1 r2 r3 r4 (fun _ => rfl) (fun _ => rfl) (fun _ => rfl) (fun _ => rfl) rfl rfl
  have f2 : xfr xMR1 m m2 := xfr_l (by decide) (xfr_t q2 r2)
  have n2 : (m.1 70 8).toInt ≤ (m2.1 70 8).toInt := by omega
  have e14 : m2.1 70 14 = m.1 70 14 := (xfr_t q2 r2).2 70 14 rfl
  have e75 : m2.1 75 t = m.1 75 t := (xfr_t q2 r2).2 75 t rfl
  dsimp only
  refine xP_i (fun _ => ?_) (fun _ => ?_)
  case refine_2 =>
    unfold D195_49
    exact xP_m (xbad r1 J2.2.2.2.2.2.1 ⟨by decide, by decide⟩ ⟨by omega, by omega⟩) (fun v m' z => xC_t f2 n2 z)
  unfold D195_56
  refine xP_i (fun _ => ?_) (fun c => absurd rfl (zneq c))
  unfold D195_71
  refine xP_i (fun c12 => ?_) (fun _ => ?_)
  case refine_2 => exact xP_m (xbad r1 J2.2.2.2.2.2.1 ⟨by decide, by decide⟩ ⟨by omega, by omega⟩) (fun v m' z => xC_t f2 n2 z)
  refine xP_i (fun _ => ?_) (fun c => absurd rfl (zneq c))
  have c12 : (m2.1 70 14).toInt ≠ (12 : Int) := zt c12
  rw [e14] at c12
  have b14 : 0 ≤ (m2.1 70 14).toInt := (r1 70 14 (0, 40) rfl).1
  have e1 : (m2.1 70 14 + 1).toInt = (m.1 70 14).toInt + 1 := by
    have h : (m2.1 70 14 + 1).toInt = (m2.1 70 14).toInt + 1 := xa1 (by show _ ≤ _ + (1 : Int); rw [e14]; rw [e14] at b14; omega) (by show _ + (1 : Int) ≤ _; rw [e14]; omega)
    rw [h, e14]
  rw [e14] at b14
  have hT3 : xT (xu m2 70 14 (m2.1 70 14 + 1)) := xT_c r1 (i := 70) (j := 14) (lo := 0) (hi := 40) rfl (by omega) (by omega)
  have J3 : xJ t (xu m2 70 14 (m2.1 70 14 + 1)) := xJ_f (N := [(70, 70, 14)]) J2 hT3 (xfr_u rfl) (Int.le_refl _) J2.2.2.1 (fun _ => rfl) (fun _ => rfl) (fun _ => rfl) (fun _ => rfl) rfl rfl
  have f3 : xfr xMR1 m (xu m2 70 14 (m2.1 70 14 + 1)) := xfr_t f2 (xfr_u rfl)
  have l3 : ((xu m2 70 14 (m2.1 70 14 + 1)).1 70 14).toInt = (m.1 70 14).toInt + 1 := by rw [xu_s]; exact e1
  have c3 : (xu m2 70 14 (m2.1 70 14 + 1)).1 75 t = m.1 75 t := e75
  have n3 : (m.1 70 8).toInt ≤ ((xu m2 70 14 (m2.1 70 14 + 1)).1 70 8).toInt := n2
  generalize xu m2 70 14 (m2.1 70 14 + 1) = m3 at J3 f3 l3 c3 n3 ⊢
  refine xP_b (P185 hF J3 (by rw [c3]; omega)) (fun v4 m4 u => ?_)
  obtain ⟨u1, u2, u3, u4, u5⟩ := u
  have f4 : xfr xMR1 m m4 := xfr_t f3 (xfr_l (by decide) u1)
  have e4 : m4.1 70 14 = m3.1 70 14 := u1.2 70 14 rfl
  dsimp only
  rcases u5 with u5 | u5
  · rw [u5.1]
    exact xP_g (by decide) (xP_r ⟨f4, by omega, u3, u4, Or.inl ⟨rfl, u5.2⟩⟩)
  · rw [u5.1]
    refine xP_g (by decide) (xP_r ⟨f4, by omega, u3, u4, Or.inr ⟨rfl, u5.2.1, ?_, ?_⟩⟩)
    · rw [e4, l3, u5.2.2, c3]
      omega
    · rw [e4, l3]
      omega
/-- readsAll -/
abbrev xMR2 : yM := [(70, 70, 1), (70, 70, 8), (70, 70, 9), (70, 70, 10), (70, 70, 12), (70, 70, 13), (70, 70, 14), (70, 70, 16), (72, 75, 1000), (77, 77, 1000)]
def xE (m : xS) (_ : Int32) (m' : xS) : Prop := xfr xMR2 m m' ∧ xT m' ∧ xA m'
theorem xA_1 {v : Int32} (h : xA m) : xA (xu m 70 1 v) := h
theorem P196_88 {k : Int32} (h : xT m) (hA : xA m) : xP (D196_88 F k m) (xE m) := by
  have hT : xT (xu m 70 1 0) := xT_c h (i := 70) (j := 1) rfl (by decide) (by decide)
  unfold D196_88
  exact xP_i (fun _ => xP_r ⟨xfr_u rfl, hT, hA⟩) (fun _ => xP_r ⟨xfr_u rfl, hT, hA⟩)
theorem xE_t {v : Int32} {m2 : xS} (f : xfr xMR2 m m') (q : xE m' v m2) : xE m v m2 := ⟨xfr_t f q.1, q.2⟩
theorem P196_66 {k : Int32} (hF : 500 ≤ F) (h : xT m) (hA : xA m) (hn : k ≠ 0 → (m.1 70 8).toInt ≤ (m.1 70 1).toInt) : xP (D196_66 F k m) (xE m) := by
  unfold D196_66
  refine xP_i (fun _ => P196_88 h hA) (fun c => ?_)
  refine xP_b (P164 hF h (hn (zneq c))) (fun v m1 q => ?_)
  obtain ⟨q1, q2, q3, q4, -⟩ := q
  have e2 : m1.1 72 = m.1 72 := funext fun j => q2.2 72 j rfl
  have e4 : m1.1 74 = m.1 74 := funext fun j => q2.2 74 j rfl
  have e5 : m1.1 75 = m.1 75 := funext fun j => q2.2 75 j rfl
  have A1 : xA m1 := by
    unfold xA wfc wfs
    rw [e2, e4, e5]
    exact hA
  have f1 : xfr xMR2 m m1 := xfr_l (by decide) q2
  have b := xT8 q1
  dsimp only
  refine xP_i (fun _ => xP_m (P196_88 q1 A1) (fun v m' z => xE_t f1 z)) (fun _ => ?_)
  refine xP_b (P163 (F := F) (k := 0) (a := m1.1 70 8) q1 ⟨by decide, by decide⟩ ⟨by omega, by omega⟩) (fun v2 m2 r => ?_)
  obtain ⟨-, r2, r3, -⟩ := r
  have e2' : m2.1 72 = m1.1 72 := funext fun j => r3.2 72 j rfl
  have e4' : m2.1 74 = m1.1 74 := funext fun j => r3.2 74 j rfl
  have e5' : m2.1 75 = m1.1 75 := funext fun j => r3.2 75 j rfl
  dsimp only
  refine xP_m (P196_88 r2 ?_) (fun v m' z => xE_t (xfr_t f1 (xfr_l (by decide) r3)) z)
  unfold xA wfc wfs
  rw [e2', e4', e5']
  exact A1
theorem P196_35 (hF : 500 ≤ F) : ∀ (f : Nat) {k : Int32} {m : xS}, xT m → xA m → (k ≠ 0 → xJ t m ∧ (m.1 75 t).toInt ≤ (m.1 70 14).toInt ∧ (m.1 70 14).toInt ≤ 12 ∧ (m.1 70 1).toInt - (m.1 70 8).toInt + 1 < f) → 0 < f → xP (D196_35 F f k m) (xE m)
  | 0, k, m, h, hA, hk, hf => by omega
  | f + 1, k, m, h, hA, hk, hf => by
    unfold D196_35
    refine xP_i (fun c => P196_66 hF h hA (fun z => absurd (zeq c) z)) (fun c => ?_)
    obtain ⟨j, l1, l2, hf2⟩ := hk (zneq c)
    refine xP_b (P164 hF h j.2.2.1) (fun v m1 q => ?_)
    obtain ⟨q1, q2, q3, q4, q5⟩ := q
    have J1 : xJ t m1 := xJ_f j q1 q2 q3 q4 (fun _ => rfl) (fun _ => rfl) (fun _ => rfl) (fun _ => rfl) rfl rfl
    have f1 : xfr xMR2 m m1 := xfr_l (by decide) q2
    have e14 : m1.1 70 14 = m.1 70 14 := q2.2 70 14 rfl
    have e75 : m1.1 75 t = m.1 75 t := q2.2 75 t rfl
    have e1 : m1.1 70 1 = m.1 70 1 := q2.2 70 1 rfl
    have b := xT8 q1
    have b0 := xT8 h
    dsimp only
    refine xP_i (fun _ => xP_m (P196_66 hF q1 J1.2.2.2.2.2.1 (fun _ => J1.2.2.1)) (fun v m' z => xE_t f1 z)) (fun c2 => ?_)
    have lt : (m1.1 70 8).toInt < (m.1 70 1).toInt := xsee q5 (zne c2) (by decide)
    have e8 : (m1.1 70 8 + 1).toInt = (m1.1 70 8).toInt + 1 := xa1 (by show _ ≤ _ + (1 : Int); omega) (by show _ + (1 : Int) ≤ _; omega)
    have hT2 : xT (xu m1 70 8 (m1.1 70 8 + 1)) := xT_c q1 (i := 70) (j := 8) rfl (by omega) (by omega)
    have n2 : ((xu m1 70 8 (m1.1 70 8 + 1)).1 70 8).toInt = (m1.1 70 8).toInt + 1 := by rw [xu_s]; exact e8
    have J2 : xJ t (xu m1 70 8 (m1.1 70 8 + 1)) := xJ_f (N := [(70, 70, 8)]) J1 hT2 (xfr_u rfl) (by omega) (by rw [e1]; omega) (fun _ => rfl) (fun _ => rfl) (fun _ => rfl) (fun _ => rfl) rfl rfl
    have f2 : xfr xMR2 m (xu m1 70 8 (m1.1 70 8 + 1)) := xfr_t f1 (xfr_u rfl)
    have g14 : (xu m1 70 8 (m1.1 70 8 + 1)).1 70 14 = m.1 70 14 := e14
    have g75 : (xu m1 70 8 (m1.1 70 8 + 1)).1 75 t = m.1 75 t := e75
    have g1 : (xu m1 70 8 (m1.1 70 8 + 1)).1 70 1 = m.1 70 1 := e1
    generalize xu m1 70 8 (m1.1 70 8 + 1) = m2 at n2 J2 f2 g14 g75 g1 ⊢
    refine xP_b (P195 hF J2 (by rw [g14, g75]; exact l1) (by rw [g14]; exact l2)) (fun v3 m3 u => ?_)
    obtain ⟨u1, u2, u3, u4, u5⟩ := u
    have h1 : m3.1 70 1 = m2.1 70 1 := u1.2 70 1 rfl
    dsimp only
    refine xP_m (P196_35 hF f u3 u4 (fun z => ?_) (by omega)) (fun v m' z => xE_t (xfr_t f2 (xfr_l (by decide) u1)) z)
    rcases u5 with u5 | u5
    · exact absurd u5.1 z
    · refine ⟨u5.2.1, u5.2.2.1, u5.2.2.2, ?_⟩
      rw [h1, g1]
      omega
theorem P196 (hF : 500 ≤ F) (ht : t < 6) (h : xT m) (h11 : (m.1 70 11).toInt = (t : Int)) (hA : xA m) (hc : (m.1 75 t).toInt = 0) : xP (D196 F m) (xE m) := by
  have et : (m.1 70 11).toNatClampNeg = t := by show (m.1 70 11).toInt.toNat = t; omega
  unfold D196
  rw [et]
  refine xP_g (xib_t (by omega) (by omega)) ?_
  have b73 : xbn 73 t = some (0, 400) := xbn_a (k := 0) (n := 7) (ec := 11) (by decide) rfl (by decide) (by omega)
  have hT : xT (xu (xu (xu (xu (xu m 73 t 0) 70 14 0) 70 8 0) 70 9 0) 70 12 0) := xT_c (xT_c (xT_c (xT_c (xT_c h b73 (by decide) (by decide)) (i := 70) (j := 14) (lo := 0) (hi := 40) rfl (by decide) (by decide)) (i := 70) (j := 8) rfl (by decide) (by decide)) (i := 70) (j := 9) rfl (by decide) (by decide)) (i := 70) (j := 12) rfl (by decide) (by decide)
  have f1 : xfr xMR2 m (xu (xu (xu (xu (xu m 73 t 0) 70 14 0) 70 8 0) 70 9 0) 70 12 0) := xfr_t (xfr_t (xfr_t (xfr_t (xfr_u rfl) (xfr_u rfl)) (xfr_u rfl)) (xfr_u rfl)) (xfr_u rfl)
  have e75 : (xu (xu (xu (xu (xu m 73 t 0) 70 14 0) 70 8 0) 70 9 0) 70 12 0).1 75 = m.1 75 := rfl
  have l0 : (xu (xu (xu (xu (xu m 73 t 0) 70 14 0) 70 8 0) 70 9 0) 70 12 0).1 73 t = 0 := by
    show (xu m 73 t 0).1 73 t = 0
    exact xu_s _ _ _ _
  have n0 : ((xu (xu (xu (xu (xu m 73 t 0) 70 14 0) 70 8 0) 70 9 0) 70 12 0).1 70 8).toInt = 0 := rfl
  have i0 : ((xu (xu (xu (xu (xu m 73 t 0) 70 14 0) 70 8 0) 70 9 0) 70 12 0).1 70 14).toInt = 0 := rfl
  have b1 : 0 ≤ (m.1 70 1).toInt ∧ (m.1 70 1).toInt ≤ 400 := h 70 1 (0, 400) rfl
  have J : xJ t (xu (xu (xu (xu (xu m 73 t 0) 70 14 0) 70 8 0) 70 9 0) 70 12 0) := by
    refine ⟨ht, hT, by rw [n0]; exact b1.1, h11, by rw [l0, n0]; decide, hA, fun c hcc => ?_⟩
    rw [e75, hc] at hcc
    omega
  generalize xu (xu (xu (xu (xu m 73 t 0) 70 14 0) 70 8 0) 70 9 0) 70 12 0 = m1 at hT f1 e75 l0 n0 i0 J ⊢
  refine xP_b (P195 hF J (by rw [e75, hc, i0]; decide) (by rw [i0]; decide)) (fun v3 m3 u => ?_)
  obtain ⟨u1, u2, u3, u4, u5⟩ := u
  have b3 := xT8 u3
  dsimp only
  refine xP_m (P196_35 (t := t) hF F u3 u4 (fun z => ?_) (by omega)) (fun v m' z => xE_t (xfr_t f1 (xfr_l (by decide) u1)) z)
  rcases u5 with u5 | u5
  · exact absurd u5.1 z
  · exact ⟨u5.2.1, u5.2.2.1, u5.2.2.2, by omega⟩
/-- rule -/
theorem P197 (hF : 500 ≤ F) (h : xT m) (hA : xA m) : xP (D197 F m) (fun _ m' => xfr xMR m m' ∧ xT m' ∧ xA m') := by
  have b2 : 0 ≤ (m.1 70 2).toInt ∧ (m.1 70 2).toInt ≤ 6 := h 70 2 (0, 6) rfl
  unfold D197
  refine xP_i (fun c => ?_) (fun _ => xP_r ⟨xfr_r _ _, h, hA⟩)
  have c : (m.1 70 2).toInt ≠ (6 : Int) := zt c
  obtain ⟨t, et⟩ : ∃ t : Nat, (m.1 70 2).toInt = (t : Int) := ⟨(m.1 70 2).toInt.toNat, by omega⟩
  have e2 : (m.1 70 2).toNatClampNeg = t := by show (m.1 70 2).toInt.toNat = t; omega
  rw [e2]
  refine xP_g (xib_t (by omega) (by omega)) ?_
  have hT1 : xT (xu (xu m 70 11 (m.1 70 2)) 75 t 0) := xT_c (xT_c h (i := 70) (j := 11) rfl (by omega) (by omega)) (xbn_a (k := 0) (n := 6) (ec := 12) (by decide) rfl (by decide) (by omega)) (by decide) (by decide)
  have f1 : xfr xMR m (xu (xu m 70 11 (m.1 70 2)) 75 t 0) := xfr_t (xfr_u rfl) (xfr_u rfl)
  have c0 : ((xu (xu m 70 11 (m.1 70 2)) 75 t 0).1 75 t) = 0 := xu_s _ _ _ _
  have A1 : xA (xu (xu m 70 11 (m.1 70 2)) 75 t 0) := by
    intro u k hu hk
    by_cases e : u = t
    · subst e
      rw [c0] at hk
      have hk : (k : Int) < (0 : Int) := hk
      omega
    · have e5 : (xu (xu m 70 11 (m.1 70 2)) 75 t 0).1 75 u = m.1 75 u := (xu_o (fun z => e z.2)).trans (xu_o (fun z => by omega))
      rw [e5] at hk
      have w := hA u k hu hk
      have e4 : (xu (xu m 70 11 (m.1 70 2)) 75 t 0).1 74 = m.1 74 := funext fun j => (xu_o (fun z => by omega)).trans (xu_o (fun z => by omega))
      have e7 : (xu (xu m 70 11 (m.1 70 2)) 75 t 0).1 72 = m.1 72 := funext fun j => (xu_o (fun z => by omega)).trans (xu_o (fun z => by omega))
      unfold wfc wfs at w ⊢
      rw [e4, e7]
      exact w
  have t1 : ((xu (xu m 70 11 (m.1 70 2)) 75 t 0).1 70 11).toInt = (t : Int) := et
  have r1 : (xu (xu m 70 11 (m.1 70 2)) 75 t 0).1 70 2 = m.1 70 2 := rfl
  generalize xu (xu m 70 11 (m.1 70 2)) 75 t 0 = m1 at hT1 f1 c0 A1 t1 r1 ⊢
  refine xP_b (P196 hF (show t < 6 by omega) hT1 t1 A1 (by rw [c0]; rfl)) (fun v m2 q => ?_)
  obtain ⟨q1, q2, q3⟩ := q
  have f2 : xfr xMR m m2 := xfr_t f1 (xfr_l (by decide) q1)
  dsimp only
  refine xP_i (fun _ => ?_) (fun _ => xP_r ⟨f2, q2, q3⟩)
  have r2 : m2.1 70 2 = m1.1 70 2 := q1.2 70 2 rfl
  refine xP_r ⟨xfr_t f2 (xfr_u rfl), xT_u q2 (fun p hp => ?_), q3⟩
  have hp : some (0, 6) = some p := hp
  cases hp
  have e : (m2.1 70 2 + 1).toInt = (t : Int) + 1 := by
    have h : (m2.1 70 2).toInt = (t : Int) := by rw [r2, r1]; exact et
    exact (xa1 (by show _ ≤ _ + (1 : Int); omega) (by show _ + (1 : Int) ≤ _; omega)).trans (by rw [h]; rfl)
  rw [e]
  show (0 : Int) ≤ _ ∧ _ ≤ (6 : Int)
  omega
end XRUL2
end
section
/-! From the printed functions to specs. -/
def xint (w : Option Value) : Int32 := match w with
  | some (.int x) => x
  | _ => 0
theorem xof_rd (hp : zHp) (i j : Nat) : (xof hp).1 i j = xint (yrd hp i (j : Int)) := by
  unfold xof yrd xint
  dsimp only
  cases hp.2 i with
  | inr q =>
    obtain ⟨c, fs⟩ := q
    dsimp only
    rw [if_neg (by omega), Int.toNat_natCast]
    rfl
  | inl q =>
    obtain ⟨k, n, x⟩ := q
    dsimp only
    rw [if_neg (by omega)]
    rcases x with f | f | f | f | f
    · rw [Int.toNat_natCast]
    · rfl
    · rfl
    · rfl
    · dsimp only
      cases f (j : Int).toNat with
      | none => rfl
      | some y => rfl
theorem xok_a {h : Nat} {c : yC} {x : zCl} (k : yokc h c x) (e1 : c.1 = 1) (e2 : c.2.1 < 3) : ∃ f : Nat → Int32, x = .inl (c.2.1, c.2.2.1, .inl f) ∧ ∀ j, j < c.2.2.1 → (yel c.2.2.2.1 j).1 ≤ (f j).toInt ∧ (f j).toInt ≤ (yel c.2.2.2.1 j).2 := by
  obtain ⟨c1, c2, c3, c4, c5⟩ := c
  have e1 : c1 = 1 := e1
  subst e1
  have e2 : c2 < 3 := e2
  match c2, e2, k with
  | 0, _, k =>
    obtain ⟨-, f, e, b⟩ := k
    exact ⟨f, e, b⟩
  | 1, _, k =>
    obtain ⟨-, f, e, b⟩ := k
    exact ⟨f, e, b⟩
  | 2, _, k =>
    obtain ⟨-, f, e, b⟩ := k
    exact ⟨f, e, b⟩
theorem xT_of {B : zHp} (H : yH0 B) : xT (xof B) := by
  intro i j p hp
  unfold xbn at hp
  split at hp
  · next h88 =>
    have c := H.2.2 i (Nat.lt_of_lt_of_le h88 H.1)
    split at hp
    · next e0 =>
      unfold yokc at c
      rw [e0] at c
      obtain ⟨fs, e1, -, e3⟩ := c
      split at hp
      · next t ht =>
        obtain ⟨v, v1, v2⟩ := e3 j t ht
        split at hp
        · next t0 =>
          cases hp
          unfold yft at v2
          rw [t0] at v2
          obtain ⟨x, rfl, b⟩ := v2
          have : (xof B).1 i j = x := by
            unfold xof
            dsimp only
            rw [e1]
            dsimp only
            rw [v1]
          rw [this]
          exact b
        · cases hp
      · cases hp
    · next e1 =>
      split at hp
      · next hk =>
        cases hp
        obtain ⟨f, e, b⟩ := xok_a c e1 hk.1
        have : (xof B).1 i j = f j := by
          unfold xof
          dsimp only
          rw [e]
        rw [this]
        exact b j hk.2
      · cases hp
    · cases hp
  · cases hp
theorem xH {B : zHp} (H : yH0 B) {m : xS} (hT : xT m) (hL : ∀ i j, i ≠ 78 → m.2 i j = (xof B).2 i j) : yH0 (xW B m) := by
  refine ⟨H.1, H.2.1, fun i hi => ?_⟩
  have hi : i < B.1 := hi
  have c := H.2.2 i hi
  show yokc B.1 (yty i) (xcl m i (B.2 i))
  unfold yokc at c ⊢
  split at c
  · next e0 =>
    obtain ⟨fs, e1, e2, e3⟩ := c
    rw [e1]
    refine ⟨fs.mapIdx (xfv m i), rfl, by rw [List.length_mapIdx]; exact e2, fun j t ht => ?_⟩
    obtain ⟨v, v1, v2⟩ := e3 j t ht
    refine ⟨xfv m i j v, by rw [List.getElem?_mapIdx, v1]; rfl, ?_⟩
    unfold yft at v2 ⊢
    split at v2
    · next t0 =>
      obtain ⟨x, rfl, b⟩ := v2
      refine ⟨m.1 i j, rfl, ?_⟩
      by_cases h88 : i < 88
      · refine hT i j t.2 ?_
        unfold xbn
        rw [if_pos h88, e0]
        show (match (yty i).2.2.2.2[j]? with
          | some t => if t.1 = 0 then some t.2 else none
          | none => none) = _
        rw [ht]
        exact if_pos t0
      · exfalso
        unfold yty at ht e0
        rw [if_neg h88] at ht e0
        split at ht
        · match j, ht with
          | 0, ht => cases ht; cases t0
          | 1, ht => cases ht; cases t0
          | j + 2, ht => cases ht
        · cases ht
        · cases ht
    · next t1 =>
      obtain ⟨x, rfl, b⟩ := v2
      have hne : i ≠ 78 := fun z => by
        subst z
        exact absurd e0 (by decide)
      have : m.2 i j = x := by
        rw [hL i j hne]
        unfold xof
        dsimp only
        rw [e1]
        dsimp only
        rw [v1]
      refine ⟨m.2 i j, rfl, ?_⟩
      rw [this]
      exact b
    · obtain ⟨k, rfl, b⟩ := v2
      exact ⟨k, rfl, b⟩
  · next e1 =>
    split at c
    · obtain ⟨f, e⟩ := c
      rw [e]
      exact ⟨m.2 i, rfl⟩
    · obtain ⟨f, e, b⟩ := c
      rw [e]
      exact ⟨f, rfl, b⟩
    · obtain ⟨f, e, b⟩ := c
      rw [e]
      exact ⟨f, rfl, b⟩
    · obtain ⟨k3, f, e, b⟩ := c
      rw [e]
      refine ⟨k3, m.1 i, rfl, fun j hj => ?_⟩
      have h88 : i < 88 := by
        by_cases h : i < 88
        · exact h
        · exfalso
          obtain ⟨k, hk⟩ : ∃ k, i = 88 + 3 * k ∨ i = 89 + 3 * k ∨ i = 90 + 3 * k := ⟨(i - 88) / 3, by omega⟩
          rcases hk with hk | hk | hk
          · rw [hk, yty_r0] at e1
            cases e1
          · rw [hk, yty_r1] at e1
            cases e1
          · rw [hk, yty_r2] at k3
            exact absurd k3 (by decide)
      exact hT i j _ (by
        unfold xbn
        rw [if_pos h88, e1]
        exact if_pos ⟨k3, hj⟩)
  · obtain ⟨n, f, hn, e⟩ := c
    rw [e]
    exact ⟨n, m.1 i, hn, rfl⟩
theorem xF {B : zHp} {M : yM} {m : xS} (h1 : ∀ i j : Nat, yinM M i (j : Int) = false → m.1 i j = (xof B).1 i j) (h2 : ∀ i j : Nat, yinM M i (j : Int) = false → m.2 i j = (xof B).2 i j) : yF M B (xW B m) := by
  refine ⟨Nat.le_refl _, fun _ => rfl, fun i j hj => ?_⟩
  unfold yrd
  show (match xcl m i (B.2 i) with
  | .inr (_, fs) => if j < 0 then none else fs[j.toNat]?
  | .inl (_, n, x) => if j < 0 then (if i < B.1 then some (Value.int (Int32.ofNat n)) else none) else match x with
    | .inl f => some (Value.int (f j.toNat))
    | .inr (.inl f) => some (Value.long (f j.toNat))
    | .inr (.inr (.inr (.inr f))) => some (va_rf (f j.toNat))
    | _ => none) = _
  have key : ¬ j < 0 → m.1 i j.toNat = (xof B).1 i j.toNat ∧ m.2 i j.toNat = (xof B).2 i j.toNat := fun h => by
    have e : ((j.toNat : Nat) : Int) = j := by omega
    have q := hj.resolve_left (fun z => h z.1)
    exact ⟨h1 i j.toNat (by rw [e]; exact q), h2 i j.toNat (by rw [e]; exact q)⟩
  unfold xcl
  cases hb : B.2 i with
  | inr q =>
    obtain ⟨c, fs⟩ := q
    dsimp only
    by_cases h : j < 0
    · rw [if_pos h, if_pos h]
    · rw [if_neg h, if_neg h, List.getElem?_mapIdx]
      obtain ⟨k1, k2⟩ := key h
      cases hf : fs[j.toNat]? with
      | none => rfl
      | some v =>
        show some (xfv m i j.toNat v) = some v
        unfold xfv
        split
        · next x =>
          rw [k1]
          unfold xof
          dsimp only
          rw [hb]
          dsimp only
          rw [hf]
        · next x =>
          rw [k2]
          unfold xof
          dsimp only
          rw [hb]
          dsimp only
          rw [hf]
        · rfl
  | inl q =>
    obtain ⟨c, n, x⟩ := q
    by_cases h : j < 0
    · rcases x with f | f | f | f | f <;> first | (dsimp only; done) | (dsimp only; simp only [if_pos h])
    · obtain ⟨k1, k2⟩ := key h
      rcases x with f | f | f | f | f
      · dsimp only
        rw [if_neg h, if_neg h, k1]
        unfold xof
        dsimp only
        rw [hb]
      · dsimp only
        rw [if_neg h, if_neg h, k2]
        unfold xof
        dsimp only
        rw [hb]
      · rfl
      · rfl
      · rfl
/-- the codes of the reference's rules, and room -/
def yAr (hp : zHp) : Prop := xA (xof hp) ∧ (hp.1 : Int) = 88 + 3 * ((xof hp).1 0 8).toInt
theorem yAr_F : yEF yAr yFA := by
  intro a b h e f
  have k : ∀ i j : Nat, yinM yFA i (j : Int) = true → (xof b).1 i j = (xof a).1 i j := fun i j hj => by
    rw [xof_rd, xof_rd, f i j hj]
  have e2 : (xof b).1 72 = (xof a).1 72 := funext fun j => k 72 j rfl
  have e4 : (xof b).1 74 = (xof a).1 74 := funext fun j => k 74 j rfl
  have e5 : (xof b).1 75 = (xof a).1 75 := funext fun j => k 75 j rfl
  refine ⟨?_, ?_⟩
  · unfold xA wfc wfs
    rw [e2, e4, e5]
    exact h.1
  · rw [k 0 8 rfl, e]
    exact h.2
theorem xof_W (B : zHp) (m : xS) (i j : Nat) : (∃ x, yrd (xW B m) i (j : Int) = some (.int x)) → (xof (xW B m)).1 i j = m.1 i j := by
  intro ⟨x, hx⟩
  rw [xof_rd, hx]
  show x = m.1 i j
  have hx : yrd (xW B m) i (j : Int) = some (.int x) := hx
  unfold yrd at hx
  have e : (xW B m).2 i = xcl m i (B.2 i) := rfl
  rw [e] at hx
  unfold xcl at hx
  cases hb : B.2 i with
  | inr q =>
    obtain ⟨c, fs⟩ := q
    rw [hb] at hx
    dsimp only at hx
    rw [if_neg (by omega), Int.toNat_natCast, List.getElem?_mapIdx] at hx
    cases hf : fs[j]? with
    | none => rw [hf] at hx; cases hx
    | some v =>
      rw [hf] at hx
      have hx : xfv m i j v = .int x := Option.some.inj hx
      unfold xfv at hx
      split at hx
      · exact (Value.int.inj hx).symm
      · cases hx
      · next n1 n2 => exact absurd hx (n1 x)
  | inl q =>
    obtain ⟨c, n, y⟩ := q
    rw [hb] at hx
    rcases y with f | f | f | f | f
    · dsimp only at hx
      rw [if_neg (by omega), Int.toNat_natCast] at hx
      exact (Value.int.inj (Option.some.inj hx)).symm
    · dsimp only at hx
      rw [if_neg (by omega)] at hx
      cases hx
    · dsimp only at hx
      rw [if_neg (by omega)] at hx
      cases hx
    · dsimp only at hx
      rw [if_neg (by omega)] at hx
      cases hx
    · dsimp only at hx
      rw [if_neg (by omega)] at hx
      have hx := Option.some.inj hx
      cases hz : f (j : Int).toNat with
      | none => rw [hz] at hx; cases hx
      | some y => rw [hz] at hx; cases hx
end
section
/-! The spec of the reference's rule. -/
theorem yas1 {hp : zHp} {r : Nat → Int} {as : List Value} {c : Nat} (g : yG hp r (0, [], [], [], [(0, (2, yc c, yc 0))], []) (lv_args 0 as) []) (hlen : as.length = 1) : as = [.ref c] := by
  match as, hlen with
  | [a], _ =>
    obtain ⟨-, w, w1, w2⟩ := g.2.2.2.1 0 (2, yc c, yc 0) rfl
    have w1 : some a = some w := w1
    cases w1
    rcases w2 with ⟨w2, -⟩ | ⟨-, w2⟩
    · have w2 : yev r (yc c) = -1 := w2
      rw [yev_c] at w2
      omega
    · have w2 : a = .ref (yev r (yc c)).toNat := w2
      rw [yev_c] at w2
      rw [w2]
      rfl
/-- E1 where its cells are left alone -/
theorem yE1_F {M : yM} {a b : zHp} (f : yF M a b) (h : ∀ (c : Nat) (j : Nat), c = 80 ∨ c = 81 ∨ c = 84 ∨ c = 85 → yinM M c (j : Int) = false) (e : yE1 a) : yE1 b :=
  ⟨yP_F f (h _ _ (by decide)) (h _ _ (by decide)) e.1, yP_F f (h _ _ (by decide)) (h _ _ (by decide)) e.2.1, fun k hk => yP_F f (h _ _ (by decide)) (h _ _ (by decide)) (e.2.2.1 k hk), fun k hk => yP_F f (h _ _ (by decide)) (h _ _ (by decide)) (e.2.2.2 k hk)⟩
theorem xof_t {B : zHp} (H : yH0 B) {m : xS} {i k n : Nat} (ht : xta i k n = true) : (xof (xW B m)).1 i = m.1 i := by
  funext j
  obtain ⟨-, -, -, f, e⟩ := xta_ok H ht
  refine xof_W B m i j ⟨m.1 i j, ?_⟩
  unfold yrd
  rw [xW_a e]
  dsimp only
  rw [if_neg (by omega), Int.toNat_natCast]
theorem yrule_r : yTs (yEA yAr) 16 ys3 := by
  intro d hd hp r as H gg hl hlen
  have has := yas1 (c := 70) gg hlen
  subst has
  obtain ⟨x, hx, f, hT, hA⟩ := P197 (F := 500) (Nat.le_refl _) (xT_of H.1) H.2.2.1
  have z := Z197 H.1 hx (d := d) (by omega)
  rw [xW_of] at z
  have fy : yF ys3.2.2.2.2 hp (xW hp x.2) := yF_le (M := xMR) (by decide) (xF f.2 (fun i j _ => by rw [f.1]))
  refine ⟨_, z, ⟨xH H.1 hT (fun i j _ => by rw [f.1]), yE1_F fy ?_ H.2.1, ?_, ?_⟩, fy, _, List.mem_cons_self, (fun _ => x.1.toInt), fun s hs => absurd hs (Nat.not_lt_zero _), Nat.zero_le _, yany1⟩
  · intro c j hc
    rcases hc with rfl | rfl | rfl | rfl <;> rfl
  · have e2 := xof_t (m := x.2) H.1 (i := 72) (k := 0) (n := 2400) (by decide)
    have e4 := xof_t (m := x.2) H.1 (i := 74) (k := 0) (n := 288) (by decide)
    have e5 := xof_t (m := x.2) H.1 (i := 75) (k := 0) (n := 6) (by decide)
    unfold xA wfc wfs
    rw [e2, e4, e5]
    exact hA
  · have e8 : (xof (xW hp x.2)).1 0 8 = (xof hp).1 0 8 := by
      rw [xof_rd, xof_rd, fy.2.2 0 ((8 : Nat) : Int) (Or.inr rfl)]
    rw [e8]
    exact H.2.2.2
end
section
/-! Rows of longs; switches. -/
def xtl (ix n : Nat) : Bool := decide (ix < 88) && ((yty ix).1 == 1 && ((yty ix).2.1 == 3 && ((yty ix).2.2.1 == n)))
section XLNG
variable {B : zHp} {s : xS} {ev : zEv} {d nL : Nat} {rt : Option FieldType} {cd : List (Option zEn)} {r : zRe} {q : zEn} {pc : Nat} {lv : List (Nat × Value)} {st : List Value} {hp : zHp}
theorem xok_l {h : Nat} {c : yC} {x : zCl} (k : yokc h c x) (e1 : c.1 = 1) (e2 : c.2.1 = 3) : ∃ f : Nat → Int64, x = .inl (3, c.2.2.1, .inr (.inl f)) := by
  obtain ⟨c1, c2, c3, c4, c5⟩ := c
  have e1 : c1 = 1 := e1
  subst e1
  have e2 : c2 = 3 := e2
  subst e2
  exact k
theorem xtl_ok (H : yH0 B) {ix n : Nat} (h : xtl ix n = true) : ix < B.1 ∧ ix < zSC ∧ ∃ f : Nat → Int64, B.2 ix = .inl (3, n, .inr (.inl f)) := by
  unfold xtl at h
  simp only [Bool.and_eq_true, decide_eq_true_eq, beq_iff_eq] at h
  obtain ⟨h1, h2, h3, h4⟩ := h
  have l1 : ix < B.1 := Nat.lt_of_lt_of_le h1 H.1
  obtain ⟨f, e⟩ := xok_l (H.2.2 ix l1) h2 h3
  rw [h4] at e
  exact ⟨l1, Nat.lt_trans h1 (by decide), f, e⟩
theorem xW_l {ix k n : Nat} {f : Nat → Int64} (e : B.2 ix = .inl (k, n, .inr (.inl f))) : (xW B s).2 ix = .inl (k, n, .inr (.inl (s.2 ix))) := by
  show xcl s ix (B.2 ix) = _
  rw [e]
  rfl
theorem q_lal {len a b ix n : Nat} {rest : List Value} {v0 : Value} {e : Int32} {v : Int64} (H : yH0 B) (hq : zg cd pc = some (.laload, len, a, b, v0)) (ht : xtl ix n = true) (hj : xib e n = true) (hv : s.2 ix e.toNatClampNeg = v) (K : zR ev d nL rt cd (pc + 1, lv, .long v :: rest) (xW B s) r) : zR ev d nL rt cd (pc, lv, .int e :: .ref ix :: rest) (xW B s) r := by
  obtain ⟨h1, h2, f, h3⟩ := xtl_ok H ht
  subst hv
  have hj := of_decide_eq_true hj
  refine r_s hq (fun call => ?_) (Nat.le_refl _) K
  show zLald (pc, lv, .int e :: .ref ix :: rest) (xW B s) = _
  unfold zLald
  dsimp only
  rw [if_pos ⟨show ix < (xW B s).1 from h1, h2⟩, xW_l h3]
  show (if ¬ (e < 0 ∨ n ≤ e.toNatClampNeg) then zn (pc + 1) lv (.long (s.2 ix e.toNatClampNeg) :: rest) (xW B s) else none) = _
  rw [if_pos hj]
  rfl
theorem xW_sl {ix k n : Nat} {f : Nat → Int64} {j : Nat} {v : Int64} (e : B.2 ix = .inl (k, n, .inr (.inl f))) : ((xW B s).1, zup (xW B s).2 ix (.inl (k, n, .inr (.inl (vp_updL (s.2 ix) j v))))) = xW B (xul s ix j v) := by
  refine Prod.ext rfl (funext fun i => ?_)
  show (if i = ix then _ else xcl s i (B.2 i)) = xcl (xul s ix j v) i (B.2 i)
  by_cases h : i = ix
  · subst h
    rw [if_pos rfl, e]
    show _ = Sum.inl (k, n, Sum.inr (Sum.inl ((xul s i j v).2 i)))
    have : vp_updL (s.2 i) j v = (xul s i j v).2 i := by
      funext m
      unfold xul vp_updL
      dsimp only
      by_cases hm : m = j
      · rw [if_pos hm, if_pos ⟨rfl, hm⟩]
      · rw [if_neg hm, if_neg (fun z => hm z.2)]
    rw [this]
  · rw [if_neg h]
    have e3 : ∀ m, (xul s ix j v).2 i m = s.2 i m := fun m => if_neg (fun z => h z.1)
    unfold xcl
    split
    · refine congrArg (fun z => Sum.inr (_, z)) (List.ext_getElem? fun m => ?_)
      rw [List.getElem?_mapIdx, List.getElem?_mapIdx]
      congr 1
      funext w
      unfold xfv
      split
      · rfl
      · rw [e3]
      · rfl
    · rfl
    · rw [show (xul s ix j v).2 i = s.2 i from funext e3]
    · rfl
theorem q_las {len a b ix n : Nat} {rest : List Value} {v0 : Value} {e : Int32} {v : Int64} {s2 : xS} (H : yH0 B) (hq : zg cd pc = some (.lastore, len, a, b, v0)) (ht : xtl ix n = true) (hj : xib e n = true) (e2 : xul s ix e.toNatClampNeg v = s2) (K : zR ev d nL rt cd (pc + 1, lv, rest) (xW B s2) r) : zR ev d nL rt cd (pc, lv, .long v :: .int e :: .ref ix :: rest) (xW B s) r := by
  obtain ⟨h1, h2, f, h3⟩ := xtl_ok H ht
  subst e2
  have hj := of_decide_eq_true hj
  refine r_s (hp' := ((xW B s).1, zup (xW B s).2 ix _)) hq (fun call => ?_) (Nat.le_refl _) (by rw [xW_sl h3]; exact K)
  show zLast (pc, lv, .long v :: .int e :: .ref ix :: rest) (xW B s) = _
  unfold zLast
  dsimp only
  rw [if_pos ⟨show ix < (xW B s).1 from h1, h2⟩, xW_l h3]
  show (if ¬ (e < 0 ∨ n ≤ e.toNatClampNeg) then zn (pc + 1) lv rest ((xW B s).1, zup (xW B s).2 ix (.inl (3, n, .inr (.inl (vp_updL (s.2 ix) e.toNatClampNeg v))))) else none) = _
  rw [if_pos hj]
  rfl
theorem q_rl {x : Int64} (hq : zg cd pc = some q) (he : ∀ call : zCa, zdo zts ev call nL (some .long) q (pc, lv, [.long x]) hp = some (.inr (some (.long x), hp))) (hR : zisR q.1 = true) : zR ev d nL (some .long) cd (pc, lv, [.long x]) hp (some (.long x), hp) := r_ret hq hR he
theorem q_sw {x k : Int32} {pc2 : Nat} (hx : (x == k) = true) (hq : zg cd pc = some q) (he : ∀ call : zCa, zdo zts ev call nL rt q (pc, lv, .int k :: st) hp = some (.inl ((pc2, lv, st), hp))) (K : zR ev d nL rt cd (pc2, lv, st) hp r) : zR ev d nL rt cd (pc, lv, .int x :: st) hp r := by
  have hx := eq_of_beq hx
  subst hx
  exact r_s hq he (Nat.le_refl _) K
theorem q_td {x : Int32} {pc2 : Nat} {dflt lo hi : Int} {offs : Array Int} (hx : x.toInt < lo ∨ hi < x.toInt) (hq : zg cd pc = some q) (he : ∀ call : zCa, zdo zts ev call nL rt q (pc, lv, .int x :: st) hp = zTab dflt lo hi offs (pc, lv, .int x :: st) hp) (hj : zJmp dflt lv st pc hp = some (.inl ((pc2, lv, st), hp))) (K : zR ev d nL rt cd (pc2, lv, st) hp r) : zR ev d nL rt cd (pc, lv, .int x :: st) hp r := by
  refine r_s hq (fun call => (he call).trans ?_) (Nat.le_refl _) K
  unfold zTab
  dsimp only
  rw [if_pos hx, hj]
theorem xne {x k : Int32} {z : Int} (hk : k.toInt = z) (c : ¬ (x == k) = true) : x.toInt ≠ z := fun e => c (by
  rw [beq_iff_eq]
  exact Int32.toInt_inj.mp (e.trans hk.symm))
end XLNG
end
