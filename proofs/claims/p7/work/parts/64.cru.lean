/-! Rules for the class's printed bodies: text.bytes, lengths, strings. -/
def yTx (B : zHp) : Prop := ∃ fs : List Value, B.2 2 = .inr (6, fs) ∧ fs[0]? = some (.ref 1)
def zsv (j i : Nat) : Int32 := match ztb none j with
  | some (_, _, f) => f i
  | none => 0
theorem xnar_ok {ty : FieldType} {x : Int32} (hy : narrow ty (.int x) = .int (vp_nar ty x)) (h : (vp_nar ty x == x) = true) : narrow ty (.int x) = .int x := hy.trans (congrArg Value.int (eq_of_beq h))
section XCRU
variable {B : zHp} {s : xS} {ev : zEv} {d nL : Nat} {rt : Option FieldType} {cd : List (Option zEn)} {r : zRe} {pc : Nat} {lv : List (Nat × Value)} {hp : zHp}
theorem r_grx {i len : Nat} {rest : List Value} {v0 : Value} (H : yH0 B) (X : yTx B) (hq : zg cd pc = some (.getfield i, len, 6, 0, v0)) (K : zR ev d nL rt cd (pc + 3, lv, .ref 1 :: rest) (xW B s) r) : zR ev d nL rt cd (pc, lv, .ref 2 :: rest) (xW B s) r := by
  obtain ⟨fs, h3, h4⟩ := X
  exact r_get hq (by decide) ⟨Nat.lt_of_lt_of_le (by decide) H.1, by decide⟩ (xW_o h3) (xf_r h4) K
theorem q_len {len a b ix k n : Nat} {rest : List Value} {v0 : Value} (H : yH0 B) (hq : zg cd pc = some (.arraylength, len, a, b, v0)) (ht : xta ix k n = true) (K : zR ev d nL rt cd (pc + 1, lv, .int (Int32.ofNat n) :: rest) (xW B s) r) : zR ev d nL rt cd (pc, lv, .ref ix :: rest) (xW B s) r := by
  obtain ⟨h1, h2, h5, f, h3⟩ := xta_ok H ht
  refine r_s hq (fun call => ?_) (Nat.le_refl _) K
  show zAlen ztb ev (pc, lv, .ref ix :: rest) (xW B s) = _
  unfold zAlen
  dsimp only
  rw [if_pos h2, if_pos (show ix < (xW B s).1 from h1), xW_a h3]
  dsimp only
  rw [if_pos (by omega)]
  rfl
theorem q_sbl {len a b i n : Nat} {rest : List Value} {v0 : Value} {f : Nat → Int32} {e : Int32} (hq : zg cd pc = some (.baload, len, a, b, v0)) (hi : ¬ i < zSC) (ht : ztb ev (i - zSC) = some (1, n, f)) (hj : xib e n = true) (K : zR ev d nL rt cd (pc + 1, lv, .int (f e.toNatClampNeg) :: rest) hp r) : zR ev d nL rt cd (pc, lv, .int e :: .ref i :: rest) hp r := by
  refine r_s hq (fun call => ?_) (Nat.le_refl _) K
  show zBald ztb ev (pc, lv, .int e :: .ref i :: rest) hp = _
  unfold zBald
  dsimp only
  rw [if_neg hi, ht]
  show (if ¬ (e < 0 ∨ n ≤ e.toNatClampNeg) then zn (pc + 1) lv (.int (f e.toNatClampNeg) :: rest) hp else none) = _
  rw [if_pos (of_decide_eq_true hj)]
  rfl
theorem q_sil {len a b i n : Nat} {rest : List Value} {v0 : Value} {f : Nat → Int32} {e : Int32} (hq : zg cd pc = some (.iaload, len, a, b, v0)) (hi : ¬ i < zSC) (ht : ztb ev (i - zSC) = some (0, n, f)) (hj : xib e n = true) (K : zR ev d nL rt cd (pc + 1, lv, .int (f e.toNatClampNeg) :: rest) hp r) : zR ev d nL rt cd (pc, lv, .int e :: .ref i :: rest) hp r := by
  refine r_s hq (fun call => ?_) (Nat.le_refl _) K
  show zIald ztb ev (pc, lv, .int e :: .ref i :: rest) hp = _
  unfold zIald
  dsimp only
  rw [if_neg hi, ht]
  show (if ¬ (e < 0 ∨ n ≤ e.toNatClampNeg) then zn (pc + 1) lv (.int (f e.toNatClampNeg) :: rest) hp else none) = _
  rw [if_pos (of_decide_eq_true hj)]
  rfl
end XCRU
