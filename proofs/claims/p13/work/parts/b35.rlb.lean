/-! A Rule of the class in the heap. -/
def rlB (B : zHp) (r nn : Nat) : Prop := (88 ≤ B.1 ∧ r + 2 < B.1 ∧ B.1 ≤ 1000 ∧ nn ≤ 400) ∧ B.2 r = .inr (4, [.ref (r + 1), .ref (r + 2)]) ∧ (∃ g : Nat → Int32, B.2 (r + 1) = .inl (0, nn, .inl g)) ∧ ∃ f : Nat → Int64, B.2 (r + 2) = .inl (3, 64, .inr (.inl f))
def rlA (B : zHp) (ru : Int32) (r nn : Nat) : Prop := rlB B r nn ∧ ∃ f : Nat → Option Nat, B.2 13 = .inl (4, 6, .inr (.inr (.inr (.inr f)))) ∧ (0 ≤ ru.toInt ∧ ru.toInt < 6) ∧ f ru.toNatClampNeg = some r
section PRLB
variable {B : zHp} {s : xS} {ev : zEv} {d nL : Nat} {rt : Option FieldType} {cd : List (Option zEn)} {rr : zRe} {r nn pc : Nat} {lv : List (Nat × Value)}
theorem r_rkd (h : rlB B r nn) : zKd r (xW B s) = some 4 := by
  obtain ⟨⟨h1, h2, h3, h4⟩, h5, -⟩ := h
  have z : zSC = 1000 := rfl
  unfold zKd
  rw [if_pos (show r < zSC by omega), if_pos (show r < (xW B s).1 from (by show r < B.1; omega)), xW_o h5]
theorem r_rg {i len b c : Nat} {rest : List Value} {v0 : Value} (h : rlB B r nn) (hq : zg cd pc = some (.getfield i, len, 4, b, v0)) (hb : ([.ref (r + 1), .ref (r + 2)] : List Value)[b]? = some (.ref c)) (K : zR ev d nL rt cd (pc + 3, lv, .ref c :: rest) (xW B s) rr) : zR ev d nL rt cd (pc, lv, .ref r :: rest) (xW B s) rr := by
  obtain ⟨⟨h1, h2, h3, h4⟩, h5, -⟩ := h
  have z : zSC = 1000 := rfl
  exact r_get hq (by decide) ⟨by show r < B.1; omega, by omega⟩ (xW_o h5) (xf_r hb) K
theorem q_rlen {len a b : Nat} {rest : List Value} {v0 : Value} (h : rlB B r nn) (hq : zg cd pc = some (.arraylength, len, a, b, v0)) (K : zR ev d nL rt cd (pc + 1, lv, .int (Int32.ofNat nn) :: rest) (xW B s) rr) : zR ev d nL rt cd (pc, lv, .ref (r + 1) :: rest) (xW B s) rr := by
  obtain ⟨⟨h1, h2, h3, h4⟩, h5, ⟨g, h6⟩, -⟩ := h
  have z : zSC = 1000 := rfl
  exact h_len hq (by show r + 1 < B.1; omega) (by omega) (xW_a h6) K
theorem q_ral {len a b : Nat} {rest : List Value} {v0 : Value} {e v : Int32} (h : rlB B r nn) (hq : zg cd pc = some (.iaload, len, a, b, v0)) (hj : xib e nn = true) (hv : s.1 (r + 1) e.toNatClampNeg = v) (K : zR ev d nL rt cd (pc + 1, lv, .int v :: rest) (xW B s) rr) : zR ev d nL rt cd (pc, lv, .int e :: .ref (r + 1) :: rest) (xW B s) rr := by
  obtain ⟨⟨h1, h2, h3, h4⟩, h5, ⟨g, h6⟩, -⟩ := h
  have z : zSC = 1000 := rfl
  exact r_iald hq ⟨by omega, by show r + 1 < B.1; omega⟩ (xW_a h6) (of_decide_eq_true hj) hv K
theorem q_rlal {len a b : Nat} {rest : List Value} {v0 : Value} {e : Int32} {v : Int64} (h : rlB B r nn) (hq : zg cd pc = some (.laload, len, a, b, v0)) (hj : xib e 64 = true) (hv : s.2 (r + 2) e.toNatClampNeg = v) (K : zR ev d nL rt cd (pc + 1, lv, .long v :: rest) (xW B s) rr) : zR ev d nL rt cd (pc, lv, .int e :: .ref (r + 2) :: rest) (xW B s) rr := by
  obtain ⟨⟨h1, h2, h3, h4⟩, h5, -, f, h6⟩ := h
  have z : zSC = 1000 := rfl
  subst hv
  have hj := of_decide_eq_true hj
  refine r_s hq (fun call => ?_) (Nat.le_refl _) K
  show zLald (pc, lv, .int e :: .ref (r + 2) :: rest) (xW B s) = _
  unfold zLald
  dsimp only
  rw [if_pos ⟨show r + 2 < (xW B s).1 from h2, show r + 2 < zSC by omega⟩, xW_l h6]
  show (if ¬ (e < 0 ∨ 64 ≤ e.toNatClampNeg) then zn (pc + 1) lv (.long (s.2 (r + 2) e.toNatClampNeg) :: rest) (xW B s) else none) = _
  rw [if_pos hj]
  rfl
theorem q_rlas {len a b : Nat} {rest : List Value} {v0 : Value} {e : Int32} {v : Int64} {s2 : xS} (h : rlB B r nn) (hq : zg cd pc = some (.lastore, len, a, b, v0)) (hj : xib e 64 = true) (e2 : xul s (r + 2) e.toNatClampNeg v = s2) (K : zR ev d nL rt cd (pc + 1, lv, rest) (xW B s2) rr) : zR ev d nL rt cd (pc, lv, .long v :: .int e :: .ref (r + 2) :: rest) (xW B s) rr := by
  obtain ⟨⟨h1, h2, h3, h4⟩, h5, -, f, h6⟩ := h
  have z : zSC = 1000 := rfl
  subst e2
  have hj := of_decide_eq_true hj
  refine r_s (hp' := ((xW B s).1, zup (xW B s).2 (r + 2) _)) hq (fun call => ?_) (Nat.le_refl _) (by rw [xW_sl h6]; exact K)
  show zLast (pc, lv, .long v :: .int e :: .ref (r + 2) :: rest) (xW B s) = _
  unfold zLast
  dsimp only
  rw [if_pos ⟨show r + 2 < (xW B s).1 from h2, show r + 2 < zSC by omega⟩, xW_l h6]
  show (if ¬ (e < 0 ∨ 64 ≤ e.toNatClampNeg) then zn (pc + 1) lv rest ((xW B s).1, zup (xW B s).2 (r + 2) (.inl (3, 64, .inr (.inl (vp_updL (s.2 (r + 2)) e.toNatClampNeg v))))) else none) = _
  rw [if_pos hj]
  rfl
theorem q_raal {len a b0 : Nat} {rest : List Value} {v0 : Value} {e ru : Int32} (h : rlA B ru r nn) (hq : zg cd pc = some (.aaload, len, a, b0, v0)) (he : (e == ru) = true) (K : zR ev d nL rt cd (pc + 1, lv, .ref r :: rest) (xW B s) rr) : zR ev d nL rt cd (pc, lv, .int e :: .ref 13 :: rest) (xW B s) rr := by
  obtain ⟨⟨⟨h1, h2, h3, h4⟩, -⟩, f, h5, ⟨h6, h7⟩, h8⟩ := h
  have he := eq_of_beq he
  subst he
  have w : (xW B s).2 13 = .inl (4, 6, .inr (.inr (.inr (.inr f)))) := by
    show xcl s 13 (B.2 13) = _
    rw [h5]
    rfl
  refine r_s hq (fun call => ?_) (Nat.le_refl _) K
  show zAald (pc, lv, .int e :: .ref 13 :: rest) (xW B s) = _
  unfold zAald
  dsimp only
  rw [if_pos (show 13 < (xW B s).1 ∧ 13 < zSC from ⟨by show 13 < B.1; omega, by decide⟩), w]
  show (if ¬ (e < 0 ∨ 6 ≤ e.toNatClampNeg) then zn (pc + 1) lv (va_rf (f e.toNatClampNeg) :: rest) (xW B s) else none) = _
  rw [if_pos (fun z => by
    rcases z with z | z
    · have z : e.toInt < (0 : Int) := Int32.lt_iff_toInt_lt.mp z
      omega
    · have z : 6 ≤ e.toInt.toNat := z
      omega), h8]
  rfl
end PRLB
