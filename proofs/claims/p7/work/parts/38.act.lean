/-! keepsAct of the reference: its second loop. -/
theorem yImul {k : Nat} (hk : k < 24) : (124 : Int32) * Int32.ofNat k = Int32.ofNat (124 * k) := by
  apply Int32.toInt_inj.mp
  rw [Int32.toInt_mul, yI32 (show k < 3000 by omega), Int32.toInt_ofNat_of_lt (by omega)]
  have e : (124 : Int32).toInt = 124 := rfl
  rw [e]
  have := Int.bmod_eq_of_le_mul_two (x := 124 * (k : Int)) (y := 2 ^ 32) (by omega) (by omega)
  omega
section YACU
variable {d : Nat} {hp : zHp} {fs : List Value} {g f : Nat → Int32} {u : Nat}
/-- one turn of the second loop: an element of the row goes into its chunk -/
theorem yact2 (h : ycA hp fs g f) (hu : u < 20) (f25 : fs[25]? = some (.int (Int32.ofNat u))) {k : Nat} (h2 : k < 124) {r : zRe} (K : zR none d 2 none zc220 (52, [(1, .int (Int32.ofNat (k + 1))), (0, .ref 70)], []) (hp.1, zup hp.2 81 (.inl (0, 2480, .inl (upd f (124 * u + k) (g k))))) r) : zR none d 2 none zc220 (52, [(1, .int (Int32.ofNat k)), (0, .ref 70)], []) hp r := by
  obtain ⟨h0, c70, f24, f22, c80, c81⟩ := h
  have l70 : (70 : Nat) < hp.1 ∧ 70 < zSC := ⟨by omega, by decide⟩
  have l80 : (80 : Nat) < hp.1 ∧ 80 < zSC := ⟨by omega, by decide⟩
  have l81 : (81 : Nat) < hp.1 ∧ 81 < zSC := ⟨by omega, by decide⟩
  refine r_s (fr' := (53, [(1, .int (Int32.ofNat k)), (0, .ref 70)], [.int (Int32.ofNat k)])) (hp' := hp) (q := (.iload_n 1, 1, 0, 0, .null)) rfl (fun _ => rfl) (Nat.le_refl _) ?_
  refine r_s (fr' := (55, [(1, .int (Int32.ofNat k)), (0, .ref 70)], [.int 124, .int (Int32.ofNat k)])) (hp' := hp) (q := (.bipush 124, 2, 0, 0, .null)) rfl (fun _ => rfl) (Nat.le_refl _) ?_
  refine r_ifc (len := 3) (a := 84) (b := 0) (v0 := .null) (cn := .ge) (off := 29) rfl (fun q => ?_) (fun _ => ?_)
  · exfalso
    have q := of_decide_eq_true q
    have := Int32.le_iff_toInt_le.mp q
    rw [yI32 (by omega)] at this
    have e : (124 : Int32).toInt = 124 := rfl
    omega
  refine r_s (fr' := (59, [(1, .int (Int32.ofNat k)), (0, .ref 70)], [.ref 70])) (hp' := hp) (q := (.aload_n 0, 1, 0, 0, .null)) rfl (fun _ => rfl) (Nat.le_refl _) ?_
  refine r_get (i := 42) (len := 3) (a := 11) (b := 24) (v0 := .null) rfl (by decide) l70 c70 f24 ?_
  refine r_s (fr' := (64, [(1, .int (Int32.ofNat k)), (0, .ref 70)], [.int 124, .ref 81])) (hp' := hp) (q := (.bipush 124, 2, 0, 0, .null)) rfl (fun _ => rfl) (Nat.le_refl _) ?_
  refine r_s (fr' := (65, [(1, .int (Int32.ofNat k)), (0, .ref 70)], [.ref 70, .int 124, .ref 81])) (hp' := hp) (q := (.aload_n 0, 1, 0, 0, .null)) rfl (fun _ => rfl) (Nat.le_refl _) ?_
  refine r_get (i := 264) (len := 3) (a := 11) (b := 25) (v0 := .null) rfl (by decide) l70 c70 f25 ?_
  refine r_s (fr' := (69, [(1, .int (Int32.ofNat k)), (0, .ref 70)], [.int (124 * Int32.ofNat u), .ref 81])) (hp' := hp) (q := (.imul, 1, 0, 0, .null)) rfl (fun _ => rfl) (Nat.le_refl _) ?_
  rw [yImul (show u < 24 by omega)]
  refine r_s (fr' := (70, [(1, .int (Int32.ofNat k)), (0, .ref 70)], [.int (Int32.ofNat k), .int (Int32.ofNat (124 * u)), .ref 81])) (hp' := hp) (q := (.iload_n 1, 1, 0, 0, .null)) rfl (fun _ => rfl) (Nat.le_refl _) ?_
  refine r_s (fr' := (71, [(1, .int (Int32.ofNat k)), (0, .ref 70)], [.int (Int32.ofNat (124 * u) + Int32.ofNat k), .ref 81])) (hp' := hp) (q := (.iadd, 1, 0, 0, .null)) rfl (fun _ => rfl) (Nat.le_refl _) ?_
  rw [yIadd (show 124 * u < 3000 by omega) k (by omega)]
  refine r_s (fr' := (72, [(1, .int (Int32.ofNat k)), (0, .ref 70)], [.ref 70, .int (Int32.ofNat (124 * u + k)), .ref 81])) (hp' := hp) (q := (.aload_n 0, 1, 0, 0, .null)) rfl (fun _ => rfl) (Nat.le_refl _) ?_
  refine r_get (i := 39) (len := 3) (a := 11) (b := 22) (v0 := .null) rfl (by decide) l70 c70 f22 ?_
  refine r_s (fr' := (76, [(1, .int (Int32.ofNat k)), (0, .ref 70)], [.int (Int32.ofNat k), .ref 80, .int (Int32.ofNat (124 * u + k)), .ref 81])) (hp' := hp) (q := (.iload_n 1, 1, 0, 0, .null)) rfl (fun _ => rfl) (Nat.le_refl _) ?_
  refine r_iald (len := 1) (a := 0) (b := 0) (v0 := .null) rfl ⟨l80.2, l80.1⟩ c80 (yIok (by omega) (by omega)) (congrArg g (yI32n (by omega))) ?_
  refine r_iast (len := 1) (a := 0) (b := 0) (v0 := .null) rfl l81 c81 (yIok (by omega) (by omega)) ?_
  rw [yI32n (show 124 * u + k < 3000 by omega)]
  refine r_s (fr' := (81, [(1, .int (Int32.ofNat k + 1)), (0, .ref 70)], [])) (hp' := (hp.1, zup hp.2 81 (.inl (0, 2480, .inl (upd f (124 * u + k) (g k)))))) (q := (.iinc 1 1, 3, 0, 0, .null)) rfl (fun _ => rfl) (Nat.le_refl _) ?_
  rw [show Int32.ofNat k + 1 = Int32.ofNat (k + 1) from yIadd (by omega) 1 (by omega)]
  exact r_s (fr' := (52, [(1, .int (Int32.ofNat (k + 1))), (0, .ref 70)], [])) (hp' := (hp.1, zup hp.2 81 (.inl (0, 2480, .inl (upd f (124 * u + k) (g k)))))) (q := (.goto (-29), 3, 52, 0, .null)) rfl (fun _ => rfl) (Nat.le_refl _) K
/-- the second loop: the row stands in its chunk -/
theorem yact2s (hu : u < 20) (f25 : fs[25]? = some (.int (Int32.ofNat u))) : ∀ (n : Nat) {hp : zHp} {f : Nat → Int32} {k : Nat}, ycA hp fs g f → k + n = 124 → ∃ (hp2 : zHp) (f2 : Nat → Int32), hp2.1 = hp.1 ∧ (∀ c, c ≠ 81 → hp2.2 c = hp.2 c) ∧ ycA hp2 fs g f2 ∧ (∀ j, j < 124 * u + k ∨ 124 * u + 124 ≤ j → f2 j = f j) ∧ (∀ j, k ≤ j → j < 124 → f2 (124 * u + j) = g j) ∧ ∀ r : zRe, zR none d 2 none zc220 (52, [(1, .int (Int32.ofNat 124)), (0, .ref 70)], []) hp2 r → zR none d 2 none zc220 (52, [(1, .int (Int32.ofNat k)), (0, .ref 70)], []) hp r
  | 0, hp, f, k, h, h2 => by
    have e : k = 124 := by omega
    subst e
    exact ⟨hp, f, rfl, fun _ _ => rfl, h, fun _ _ => rfl, fun j q1 q2 => by omega, fun r q => q⟩
  | n + 1, hp, f, k, h, h2 => by
    obtain ⟨hp2, f2, a1, a2, a3, a4, a5, a6⟩ := yact2s hu f25 n (k := k + 1) (ycA_81 (f2 := upd f (124 * u + k) (g k)) h) (by omega)
    refine ⟨hp2, f2, a1, fun c hc => (a2 c hc).trans (if_neg hc), a3, fun j hj => ?_, fun j q1 q2 => ?_, fun r q => yact2 h hu f25 (by omega) (a6 r q)⟩
    · rw [a4 j (by omega)]
      exact if_neg (by omega)
    · by_cases e : j = k
      · subst e
        rw [a4 _ (by omega)]
        exact if_pos rfl
      · exact a5 j (by omega) q2
end YACU
