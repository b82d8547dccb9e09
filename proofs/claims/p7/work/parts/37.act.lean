/-! keepsAct of the reference: its two copying loops. -/
/-- the cells that it works on -/
def ycA (hp : zHp) (fs : List Value) (g f : Nat → Int32) : Prop := 88 ≤ hp.1 ∧ hp.2 70 = .inr (11, fs) ∧ fs[24]? = some (.ref 81) ∧ fs[22]? = some (.ref 80) ∧ hp.2 80 = .inl (0, 148, .inl g) ∧ hp.2 81 = .inl (0, 2480, .inl f)
theorem ycA_81 {hp : zHp} {fs : List Value} {g f f2 : Nat → Int32} (h : ycA hp fs g f) : ycA (hp.1, zup hp.2 81 (.inl (0, 2480, .inl f2))) fs g f2 := ⟨h.1, h.2.1, h.2.2.1, h.2.2.2.1, h.2.2.2.2.1, yrd_at⟩
theorem yI32 {k : Nat} (h : k < 3000) : (Int32.ofNat k).toInt = (k : Int) := Int32.toInt_ofNat_of_lt (by omega)
theorem yI32n {k : Nat} (h : k < 3000) : (Int32.ofNat k).toNatClampNeg = k := by
  show (Int32.ofNat k).toInt.toNat = k
  rw [yI32 h, Int.toNat_natCast]
theorem yIok {k n : Nat} (h : k < 3000) (hn : k < n) : ¬ (Int32.ofNat k < 0 ∨ n ≤ (Int32.ofNat k).toNatClampNeg) := by
  rw [yI32n h]
  intro z
  rcases z with z | z
  · have := Int32.lt_iff_toInt_lt.mp z
    rw [yI32 h] at this
    have e0 : (0 : Int32).toInt = 0 := rfl
    omega
  · omega
theorem yIadd {k : Nat} (h : k < 3000) (j : Nat) (hj : j < 3000) : Int32.ofNat k + Int32.ofNat j = Int32.ofNat (k + j) := by
  apply Int32.toInt_inj.mp
  rw [Int32.toInt_add, yI32 h, yI32 hj, Int32.toInt_ofNat_of_lt (by omega)]
  exact Int.bmod_eq_of_le_mul_two (by omega) (by omega)
theorem yIsub {k j : Nat} (h : k < 3000) (hj : j ≤ k) : Int32.ofNat k - Int32.ofNat j = Int32.ofNat (k - j) := by
  apply Int32.toInt_inj.mp
  rw [Int32.toInt_sub, yI32 h, yI32 (show j < 3000 by omega), Int32.toInt_ofNat_of_lt (by omega)]
  have := Int.bmod_eq_of_le_mul_two (x := (k : Int) - (j : Int)) (y := 2 ^ 32) (by omega) (by omega)
  omega
section YACT
variable {d : Nat} {hp : zHp} {fs : List Value} {g f : Nat → Int32}
/-- one turn of the first loop: an element goes 124 places down -/
theorem yact1 (h : ycA hp fs g f) {k : Nat} (h1 : 124 ≤ k) (h2 : k < 2480) {r : zRe} (K : zR none d 2 none zc220 (12, [(1, .int (Int32.ofNat (k + 1))), (0, .ref 70)], []) (hp.1, zup hp.2 81 (.inl (0, 2480, .inl (upd f (k - 124) (f k))))) r) : zR none d 2 none zc220 (12, [(1, .int (Int32.ofNat k)), (0, .ref 70)], []) hp r := by
  obtain ⟨h0, c70, f24, f22, c80, c81⟩ := h
  have l70 : (70 : Nat) < hp.1 ∧ 70 < zSC := ⟨by omega, by decide⟩
  have l81 : (81 : Nat) < hp.1 ∧ 81 < zSC := ⟨by omega, by decide⟩
  refine r_s (fr' := (13, [(1, .int (Int32.ofNat k)), (0, .ref 70)], [.int (Int32.ofNat k)])) (hp' := hp) (q := (.iload_n 1, 1, 0, 0, .null)) rfl (fun _ => rfl) (Nat.le_refl _) ?_
  refine r_s (fr' := (16, [(1, .int (Int32.ofNat k)), (0, .ref 70)], [.int 2480, .int (Int32.ofNat k)])) (hp' := hp) (q := (.sipush 2480, 3, 0, 0, .null)) rfl (fun _ => rfl) (Nat.le_refl _) ?_
  refine r_ifc (len := 3) (a := 40) (b := 0) (v0 := .null) (cn := .ge) (off := 24) rfl (fun q => ?_) (fun _ => ?_)
  · exfalso
    have q := of_decide_eq_true q
    have := Int32.le_iff_toInt_le.mp q
    rw [yI32 (by omega)] at this
    have e : (2480 : Int32).toInt = 2480 := rfl
    omega
  refine r_s (fr' := (20, [(1, .int (Int32.ofNat k)), (0, .ref 70)], [.ref 70])) (hp' := hp) (q := (.aload_n 0, 1, 0, 0, .null)) rfl (fun _ => rfl) (Nat.le_refl _) ?_
  refine r_get (i := 42) (len := 3) (a := 11) (b := 24) (v0 := .null) rfl (by decide) l70 c70 f24 ?_
  refine r_s (fr' := (24, [(1, .int (Int32.ofNat k)), (0, .ref 70)], [.int (Int32.ofNat k), .ref 81])) (hp' := hp) (q := (.iload_n 1, 1, 0, 0, .null)) rfl (fun _ => rfl) (Nat.le_refl _) ?_
  refine r_s (fr' := (26, [(1, .int (Int32.ofNat k)), (0, .ref 70)], [.int 124, .int (Int32.ofNat k), .ref 81])) (hp' := hp) (q := (.bipush 124, 2, 0, 0, .null)) rfl (fun _ => rfl) (Nat.le_refl _) ?_
  refine r_s (fr' := (27, [(1, .int (Int32.ofNat k)), (0, .ref 70)], [.int (Int32.ofNat k - 124), .ref 81])) (hp' := hp) (q := (.isub, 1, 0, 0, .null)) rfl (fun _ => rfl) (Nat.le_refl _) ?_
  have es : Int32.ofNat k - 124 = Int32.ofNat (k - 124) := yIsub (j := 124) (by omega) h1
  rw [es]
  refine r_s (fr' := (28, [(1, .int (Int32.ofNat k)), (0, .ref 70)], [.ref 70, .int (Int32.ofNat (k - 124)), .ref 81])) (hp' := hp) (q := (.aload_n 0, 1, 0, 0, .null)) rfl (fun _ => rfl) (Nat.le_refl _) ?_
  refine r_get (i := 42) (len := 3) (a := 11) (b := 24) (v0 := .null) rfl (by decide) l70 c70 f24 ?_
  refine r_s (fr' := (32, [(1, .int (Int32.ofNat k)), (0, .ref 70)], [.int (Int32.ofNat k), .ref 81, .int (Int32.ofNat (k - 124)), .ref 81])) (hp' := hp) (q := (.iload_n 1, 1, 0, 0, .null)) rfl (fun _ => rfl) (Nat.le_refl _) ?_
  refine r_iald (len := 1) (a := 0) (b := 0) (v0 := .null) rfl ⟨l81.2, l81.1⟩ c81 (yIok (by omega) h2) (congrArg f (yI32n (by omega))) ?_
  refine r_iast (len := 1) (a := 0) (b := 0) (v0 := .null) rfl l81 c81 (yIok (by omega) (by omega)) ?_
  rw [yI32n (show k - 124 < 3000 by omega)]
  refine r_s (fr' := (37, [(1, .int (Int32.ofNat k + 1)), (0, .ref 70)], [])) (hp' := (hp.1, zup hp.2 81 (.inl (0, 2480, .inl (upd f (k - 124) (f k)))))) (q := (.iinc 1 1, 3, 0, 0, .null)) rfl (fun _ => rfl) (Nat.le_refl _) ?_
  rw [show Int32.ofNat k + 1 = Int32.ofNat (k + 1) from yIadd (by omega) 1 (by omega)]
  exact r_s (fr' := (12, [(1, .int (Int32.ofNat (k + 1))), (0, .ref 70)], [])) (hp' := (hp.1, zup hp.2 81 (.inl (0, 2480, .inl (upd f (k - 124) (f k)))))) (q := (.goto (-25), 3, 12, 0, .null)) rfl (fun _ => rfl) (Nat.le_refl _) K
/-- the first loop: all goes 124 places down -/
theorem yact1s : ∀ (n : Nat) {hp : zHp} {f : Nat → Int32} {k : Nat}, ycA hp fs g f → 124 ≤ k → k + n = 2480 → ∃ (hp2 : zHp) (f2 : Nat → Int32), hp2.1 = hp.1 ∧ (∀ c, c ≠ 81 → hp2.2 c = hp.2 c) ∧ ycA hp2 fs g f2 ∧ (∀ j, j < k - 124 → f2 j = f j) ∧ (∀ j, k - 124 ≤ j → j < 2356 → f2 j = f (j + 124)) ∧ ∀ r : zRe, zR none d 2 none zc220 (12, [(1, .int (Int32.ofNat 2480)), (0, .ref 70)], []) hp2 r → zR none d 2 none zc220 (12, [(1, .int (Int32.ofNat k)), (0, .ref 70)], []) hp r
  | 0, hp, f, k, h, h1, h2 => by
    have e : k = 2480 := by omega
    subst e
    exact ⟨hp, f, rfl, fun _ _ => rfl, h, fun _ _ => rfl, fun j q1 q2 => by omega, fun r q => q⟩
  | n + 1, hp, f, k, h, h1, h2 => by
    obtain ⟨hp2, f2, a1, a2, a3, a4, a5, a6⟩ := yact1s n (k := k + 1) (ycA_81 (f2 := upd f (k - 124) (f k)) h) (by omega) (by omega)
    refine ⟨hp2, f2, a1, fun c hc => (a2 c hc).trans (if_neg hc), a3, fun j hj => ?_, fun j q1 q2 => ?_, fun r q => yact1 h h1 (by omega) (a6 r q)⟩
    · rw [a4 j (by omega)]
      exact if_neg (by omega)
    · by_cases e : j = k - 124
      · subst e
        rw [a4 (k - 124) (by omega), show k - 124 + 124 = k by omega]
        exact if_pos rfl
      · rw [a5 j (by omega) q2]
        exact if_neg (by omega)
end YACT
