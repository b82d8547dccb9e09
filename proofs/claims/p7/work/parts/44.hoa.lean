/-! What runs of the printed functions come to. -/
def xP {α : Type} (o : Option (α × xS)) (Q : α → xS → Prop) : Prop := ∃ x, o = some x ∧ Q x.1 x.2
section XHOA
variable {α β : Type}
theorem xP_r {v : α} {m : xS} {Q : α → xS → Prop} (h : Q v m) : xP (some (v, m)) Q := ⟨_, rfl, h⟩
theorem xP_i {c : Bool} {a b : Option (α × xS)} {Q : α → xS → Prop} (h1 : c = true → xP a Q) (h2 : c = false → xP b Q) : xP (if c = true then a else b) Q := by
  cases c with
  | true => rw [if_pos rfl]; exact h1 rfl
  | false => rw [if_neg (by decide)]; exact h2 rfl
theorem xP_g {c : Bool} {a : Option (α × xS)} {Q : α → xS → Prop} (hc : c = true) (h : xP a Q) : xP (if c = true then a else none) Q := by
  rw [if_pos hc]
  exact h
theorem xP_b {o : Option (α × xS)} {f : α × xS → Option (β × xS)} {R : α → xS → Prop} {Q : β → xS → Prop} (h : xP o R) (k : ∀ v m, R v m → xP (f (v, m)) Q) : xP (o.bind f) Q := by
  obtain ⟨x, e, hx⟩ := h
  rw [e]
  exact k x.1 x.2 hx
theorem xP_m {o : Option (α × xS)} {R Q : α → xS → Prop} (h : xP o R) (k : ∀ v m, R v m → Q v m) : xP o Q := by
  obtain ⟨x, e, hx⟩ := h
  exact ⟨x, e, k _ _ hx⟩
end XHOA
theorem zt {c : _root_.Jvm.ClassFile.Cond} {x y : Int32} (h : zcmp c x y = true) : yhl c x.toInt y.toInt := (yhl_cmp c x y).mp h
theorem zf {c : _root_.Jvm.ClassFile.Cond} {x y : Int32} (h : zcmp c x y = false) : ¬ yhl c x.toInt y.toInt := fun k => by rw [(yhl_cmp c x y).mpr k] at h; cases h
theorem zne {x y : Int32} (h : zcmp .ne x y = false) : x = y := Decidable.not_not.mp (of_decide_eq_false h)
theorem zeq {x y : Int32} (h : zcmp .eq x y = true) : x = y := of_decide_eq_true h
theorem zneq {x y : Int32} (h : zcmp .eq x y = false) : x ≠ y := of_decide_eq_false h
theorem znet {x y : Int32} (h : zcmp .ne x y = true) : x ≠ y := of_decide_eq_true h
theorem xib_t {e : Int32} {n : Nat} (h : 0 ≤ e.toInt) (h2 : e.toInt < (n : Int)) : xib e n = true := by
  refine decide_eq_true (fun z => ?_)
  rcases z with z | z
  · have z : e.toInt < (0 : Int) := Int32.lt_iff_toInt_lt.mp z
    omega
  · have z : n ≤ e.toInt.toNat := z
    omega
theorem xa1 {x y : Int32} (h1 : -2147483648 ≤ x.toInt + y.toInt) (h2 : x.toInt + y.toInt ≤ 2147483647) : (x + y).toInt = x.toInt + y.toInt := by
  rw [Int32.toInt_add]
  exact Int.bmod_eq_of_le_mul_two (by omega) (by omega)
theorem xs1 {x y : Int32} (h1 : -2147483648 ≤ x.toInt - y.toInt) (h2 : x.toInt - y.toInt ≤ 2147483647) : (x - y).toInt = x.toInt - y.toInt := by
  rw [Int32.toInt_sub]
  have := Int.bmod_eq_of_le_mul_two (x := x.toInt - y.toInt) (y := 2 ^ 32) (by omega) (by omega)
  omega
theorem xm1 {x y : Int32} (h1 : -2147483648 ≤ x.toInt * y.toInt) (h2 : x.toInt * y.toInt ≤ 2147483647) : (x * y).toInt = x.toInt * y.toInt := by
  rw [Int32.toInt_mul]
  exact Int.bmod_eq_of_le_mul_two (by omega) (by omega)
/-- bounds of places -/
def xbn (i j : Nat) : Option (Int × Int) := if i < 88 then (match (yty i).1 with
  | 0 => (match (yty i).2.2.2.2[j]? with
    | some t => if t.1 = 0 then some t.2 else none
    | none => none)
  | 1 => if (yty i).2.1 < 3 ∧ j < (yty i).2.2.1 then some (yel (yty i).2.2.2.1 j) else none
  | _ => none) else none
def xT (m : xS) : Prop := ∀ i j p, xbn i j = some p → p.1 ≤ (m.1 i j).toInt ∧ (m.1 i j).toInt ≤ p.2
theorem xu_s (m : xS) (i j : Nat) (v : Int32) : (xu m i j v).1 i j = v := if_pos ⟨rfl, rfl⟩
theorem xu_o {m : xS} {i j a b : Nat} {v : Int32} (h : ¬ (a = i ∧ b = j)) : (xu m i j v).1 a b = m.1 a b := if_neg h
theorem xu_id (m : xS) (i j : Nat) : xu m i j (m.1 i j) = m := by
  refine Prod.ext (funext fun a => funext fun b => ?_) rfl
  by_cases h : a = i ∧ b = j
  · rw [h.1, h.2, xu_s]
  · exact xu_o h
theorem xT_u {m : xS} (h : xT m) {i j : Nat} {v : Int32} (k : ∀ p, xbn i j = some p → p.1 ≤ v.toInt ∧ v.toInt ≤ p.2) : xT (xu m i j v) := by
  intro a b p hp
  by_cases e : a = i ∧ b = j
  · obtain ⟨rfl, rfl⟩ := e
    rw [xu_s]
    exact k p hp
  · rw [xu_o e]
    exact h a b p hp
theorem xT_c {m : xS} (h : xT m) {i j : Nat} {v : Int32} {lo hi : Int} (e : xbn i j = some (lo, hi)) (h1 : lo ≤ v.toInt) (h2 : v.toInt ≤ hi) : xT (xu m i j v) := xT_u h (fun p hp => by
  rw [e] at hp
  cases hp
  exact ⟨h1, h2⟩)
/-- nothing but these places has changed -/
def xfr (M : yM) (m m' : xS) : Prop := m'.2 = m.2 ∧ ∀ i j : Nat, yinM M i (j : Int) = false → m'.1 i j = m.1 i j
theorem xfr_r (M : yM) (m : xS) : xfr M m m := ⟨rfl, fun _ _ _ => rfl⟩
theorem xfr_t {M : yM} {a b c : xS} (h1 : xfr M a b) (h2 : xfr M b c) : xfr M a c := ⟨h2.1.trans h1.1, fun i j h => (h2.2 i j h).trans (h1.2 i j h)⟩
theorem xfr_l {M N : yM} (h : yleM M N = true) {a b : xS} (f : xfr M a b) : xfr N a b := ⟨f.1, fun i j k => f.2 i j (yleM_ok h k)⟩
theorem xfr_u {M : yM} {m : xS} {i j : Nat} {v : Int32} (h : yinM M i (j : Int) = true) : xfr M m (xu m i j v) := ⟨rfl, fun a b k => xu_o (fun e => by
  rw [e.1, e.2, h] at k
  cases k)⟩
abbrev xM8 : yM := [(70, 70, 8)]
abbrev xM9 : yM := [(70, 70, 9)]
abbrev xM3 : yM := [(70, 70, 8), (70, 70, 9), (70, 70, 10)]
/-- what the reader's fields are within -/
theorem xT8 {m : xS} (h : xT m) : (0 ≤ (m.1 70 8).toInt ∧ (m.1 70 8).toInt ≤ 400) ∧ (0 ≤ (m.1 70 1).toInt ∧ (m.1 70 1).toInt ≤ 400) := ⟨h 70 8 (0, 400) rfl, h 70 1 (0, 400) rfl⟩
section XLEAF
variable {F : Nat} {m : xS}
/-- see -/
theorem P164_38 (h : xT m) (h2 : (m.1 70 8).toInt ≤ (m.1 70 1).toInt) : xP (D164_38 F m) (fun v m' => m' = m ∧ ((v = -1 ∧ (m.1 70 8).toInt = (m.1 70 1).toInt) ∨ (v = m.1 71 (m.1 70 8).toNatClampNeg &&& 255 ∧ (m.1 70 8).toInt < (m.1 70 1).toInt))) := by
  have := xT8 h
  unfold D164_38
  refine xP_i (fun c => ?_) (fun c => ?_)
  · have c : (m.1 70 1).toInt ≤ (m.1 70 8).toInt := zt c
    exact xP_r ⟨rfl, Or.inl ⟨rfl, by omega⟩⟩
  · have c : ¬ (m.1 70 1).toInt ≤ (m.1 70 8).toInt := zf c
    exact xP_g (xib_t (by omega) (by omega)) (xP_r ⟨rfl, Or.inr ⟨rfl, by omega⟩⟩)
theorem P164_0 : ∀ (f : Nat) {m : xS}, xT m → (m.1 70 8).toInt ≤ (m.1 70 1).toInt → (m.1 70 1).toInt - (m.1 70 8).toInt < f → xP (D164_0 F f m) (fun v m' => xT m' ∧ xfr xM8 m m' ∧ (m.1 70 8).toInt ≤ (m'.1 70 8).toInt ∧ (m'.1 70 8).toInt ≤ (m.1 70 1).toInt ∧ ((v = -1 ∧ (m'.1 70 8).toInt = (m.1 70 1).toInt) ∨ (v = m.1 71 (m'.1 70 8).toNatClampNeg &&& 255 ∧ (m'.1 70 8).toInt < (m.1 70 1).toInt)))
  | 0, m, h, h2, h3 => by omega
  | f + 1, m, h, h2, h3 => by
    have b := xT8 h
    have stay : xP (D164_38 F m) (fun v m' => xT m' ∧ xfr xM8 m m' ∧ (m.1 70 8).toInt ≤ (m'.1 70 8).toInt ∧ (m'.1 70 8).toInt ≤ (m.1 70 1).toInt ∧ ((v = -1 ∧ (m'.1 70 8).toInt = (m.1 70 1).toInt) ∨ (v = m.1 71 (m'.1 70 8).toNatClampNeg &&& 255 ∧ (m'.1 70 8).toInt < (m.1 70 1).toInt))) :=
      xP_m (P164_38 h h2) (fun v m' q => by
        obtain ⟨rfl, q⟩ := q
        exact ⟨h, xfr_r _ _, Int.le_refl _, h2, q⟩)
    unfold D164_0
    refine xP_i (fun _ => stay) (fun c => ?_)
    have c : ¬ (m.1 70 1).toInt ≤ (m.1 70 8).toInt := zf c
    refine xP_g (xib_t (by omega) (by omega)) (xP_i (fun _ => stay) (fun _ => ?_))
    have e1 : (m.1 70 8 + 1).toInt = (m.1 70 8).toInt + 1 := xa1 (by show _ ≤ _ + (1 : Int); omega) (by show _ + (1 : Int) ≤ _; omega)
    have e2 : ((xu m 70 8 (m.1 70 8 + 1)).1 70 8).toInt = (m.1 70 8).toInt + 1 := by rw [xu_s]; exact e1
    have e3 : (xu m 70 8 (m.1 70 8 + 1)).1 70 1 = m.1 70 1 := rfl
    refine xP_m (P164_0 f (xT_c h (v := m.1 70 8 + 1) (i := 70) (j := 8) rfl (by omega) (by omega)) (by rw [e2, e3]; omega) (by rw [e2, e3]; omega)) (fun v m' q => ?_)
    obtain ⟨q1, q2, q3, q4, q5⟩ := q
    rw [e2] at q3
    exact ⟨q1, xfr_t (xfr_u (by decide)) q2, by omega, q4, q5⟩
theorem P164 (hF : 500 ≤ F) (h : xT m) (h2 : (m.1 70 8).toInt ≤ (m.1 70 1).toInt) : xP (D164 F m) (fun v m' => xT m' ∧ xfr xM8 m m' ∧ (m.1 70 8).toInt ≤ (m'.1 70 8).toInt ∧ (m'.1 70 8).toInt ≤ (m.1 70 1).toInt ∧ ((v = -1 ∧ (m'.1 70 8).toInt = (m.1 70 1).toInt) ∨ (v = m.1 71 (m'.1 70 8).toNatClampNeg &&& 255 ∧ (m'.1 70 8).toInt < (m.1 70 1).toInt))) := by
  have b := xT8 h
  exact P164_0 F h h2 (by omega)
/-- isLetter, isDigit -/
def xlt (m : xS) (lo hi : Int) (a : Int32) : Prop := a.toInt < (m.1 70 1).toInt ∧ lo ≤ (m.1 71 a.toNatClampNeg).toInt ∧ (m.1 71 a.toNatClampNeg).toInt ≤ hi
theorem P166 {a : Int32} (h : xT m) (ha : 0 ≤ a.toInt) : xP (D166 F a m) (fun v m' => m' = m ∧ ((v = 0 ∧ ¬ xlt m 97 122 a) ∨ (v = 1 ∧ xlt m 97 122 a))) := by
  have b := xT8 h
  unfold D166 D166_34
  refine xP_i (fun c => ?_) (fun c => ?_)
  · have c : (m.1 70 1).toInt ≤ a.toInt := zt c
    exact xP_r ⟨rfl, Or.inl ⟨rfl, fun z => by have := z.1; omega⟩⟩
  · have c : ¬ (m.1 70 1).toInt ≤ a.toInt := zf c
    have ib := xib_t (e := a) (n := 400) ha (by omega)
    refine xP_g ib (xP_i (fun c2 => ?_) (fun c2 => ?_))
    · have c2 : (m.1 71 a.toNatClampNeg).toInt < (97 : Int) := zt c2
      exact xP_r ⟨rfl, Or.inl ⟨rfl, fun z => by have := z.2.1; omega⟩⟩
    · have c2 : ¬ (m.1 71 a.toNatClampNeg).toInt < (97 : Int) := zf c2
      refine xP_g ib (xP_i (fun c3 => ?_) (fun c3 => ?_))
      · have c3 : (122 : Int) < (m.1 71 a.toNatClampNeg).toInt := zt c3
        exact xP_r ⟨rfl, Or.inl ⟨rfl, fun z => by have := z.2.2; omega⟩⟩
      · have c3 : ¬ (122 : Int) < (m.1 71 a.toNatClampNeg).toInt := zf c3
        exact xP_r ⟨rfl, Or.inr ⟨rfl, by omega, by omega, by omega⟩⟩
theorem P165 {a : Int32} (h : xT m) (ha : 0 ≤ a.toInt) : xP (D165 F a m) (fun v m' => m' = m ∧ ((v = 0 ∧ ¬ xlt m 48 57 a) ∨ (v = 1 ∧ xlt m 48 57 a))) := by
  have b := xT8 h
  unfold D165 D165_34
  refine xP_i (fun c => ?_) (fun c => ?_)
  · have c : (m.1 70 1).toInt ≤ a.toInt := zt c
    exact xP_r ⟨rfl, Or.inl ⟨rfl, fun z => by have := z.1; omega⟩⟩
  · have c : ¬ (m.1 70 1).toInt ≤ a.toInt := zf c
    have ib := xib_t (e := a) (n := 400) ha (by omega)
    refine xP_g ib (xP_i (fun c2 => ?_) (fun c2 => ?_))
    · have c2 : (m.1 71 a.toNatClampNeg).toInt < (48 : Int) := zt c2
      exact xP_r ⟨rfl, Or.inl ⟨rfl, fun z => by have := z.2.1; omega⟩⟩
    · have c2 : ¬ (m.1 71 a.toNatClampNeg).toInt < (48 : Int) := zf c2
      refine xP_g ib (xP_i (fun c3 => ?_) (fun c3 => ?_))
      · have c3 : (57 : Int) < (m.1 71 a.toNatClampNeg).toInt := zt c3
        exact xP_r ⟨rfl, Or.inl ⟨rfl, fun z => by have := z.2.2; omega⟩⟩
      · have c3 : ¬ (57 : Int) < (m.1 71 a.toNatClampNeg).toInt := zf c3
        exact xP_r ⟨rfl, Or.inr ⟨rfl, by omega, by omega, by omega⟩⟩
/-- fails -/
theorem P163 {k a : Int32} (h : xT m) (hk : 0 ≤ k.toInt ∧ k.toInt ≤ 4) (ha : 0 ≤ a.toInt ∧ a.toInt ≤ 400) : xP (D163 F k a m) (fun v m' => v = 0 ∧ xT m' ∧ xfr xM9 m m' ∧ 1 ≤ (m'.1 70 9).toInt) := by
  have b := h 70 9 (0, 4000) rfl
  have b1 : (0 : Int) ≤ (m.1 70 9).toInt := b.1
  unfold D163 D163_19
  refine xP_i (fun c => ?_) (fun c => ?_)
  · have c : (m.1 70 9).toInt ≠ (0 : Int) := zt c
    exact xP_r ⟨rfl, h, xfr_r _ _, by omega⟩
  · have e1 : (8 * a).toInt = 8 * a.toInt := xm1 (by show _ ≤ (8 : Int) * _; omega) (by show (8 : Int) * _ ≤ _; omega)
    have e2 : (1 + 8 * a).toInt = 1 + 8 * a.toInt := (xa1 (by show _ ≤ (1 : Int) + _; omega) (by show (1 : Int) + _ ≤ _; omega)).trans (by rw [e1]; rfl)
    have e3 : (1 + 8 * a + k).toInt = 1 + 8 * a.toInt + k.toInt := (xa1 (by omega) (by omega)).trans (by rw [e2])
    refine xP_r ⟨rfl, xT_c h (i := 70) (j := 9) rfl (by omega) (by omega), xfr_u (by decide), ?_⟩
    rw [xu_s, e3]
    omega
end XLEAF
