/-! keepsAct of the reference: behind its loops. -/
section YACV
variable {d : Nat} {hp : zHp} {fs : List Value} {g f : Nat → Int32} {u : Nat}
/-- out of the second loop: one act more -/
theorem yact3 (h : ycA hp fs g f) (hu : u < 20) (f25 : fs[25]? = some (.int (Int32.ofNat u))) (hl : fs.length = 39) : zR none d 2 none zc220 (52, [(1, .int (Int32.ofNat 124)), (0, .ref 70)], []) hp (none, (hp.1, zup hp.2 70 (.inr (11, fs.set 25 (.int (Int32.ofNat (u + 1))))))) := by
  obtain ⟨h0, c70, f24, f22, c80, c81⟩ := h
  have l70 : (70 : Nat) < hp.1 ∧ 70 < zSC := ⟨by omega, by decide⟩
  refine r_s (fr' := (53, [(1, .int (Int32.ofNat 124)), (0, .ref 70)], [.int (Int32.ofNat 124)])) (hp' := hp) (q := (.iload_n 1, 1, 0, 0, .null)) rfl (fun _ => rfl) (Nat.le_refl _) ?_
  refine r_s (fr' := (55, [(1, .int (Int32.ofNat 124)), (0, .ref 70)], [.int 124, .int (Int32.ofNat 124)])) (hp' := hp) (q := (.bipush 124, 2, 0, 0, .null)) rfl (fun _ => rfl) (Nat.le_refl _) ?_
  refine r_ifc (len := 3) (a := 84) (b := 0) (v0 := .null) (cn := .ge) (off := 29) rfl (fun _ => ?_) (fun q => absurd q (by decide))
  refine r_s (fr' := (85, [(1, .int (Int32.ofNat 124)), (0, .ref 70)], [.ref 70])) (hp' := hp) (q := (.aload_n 0, 1, 0, 0, .null)) rfl (fun _ => rfl) (Nat.le_refl _) ?_
  refine r_s (fr' := (86, [(1, .int (Int32.ofNat 124)), (0, .ref 70)], [.ref 70, .ref 70])) (hp' := hp) (q := (.dup, 1, 0, 0, .null)) rfl (fun _ => rfl) (Nat.le_refl _) ?_
  refine r_get (i := 264) (len := 3) (a := 11) (b := 25) (v0 := .null) rfl (by decide) l70 c70 f25 ?_
  refine r_s (fr' := (90, [(1, .int (Int32.ofNat 124)), (0, .ref 70)], [.int 1, .int (Int32.ofNat u), .ref 70])) (hp' := hp) (q := (.iconst 1, 1, 0, 0, .null)) rfl (fun _ => rfl) (Nat.le_refl _) ?_
  refine r_s (fr' := (91, [(1, .int (Int32.ofNat 124)), (0, .ref 70)], [.int (Int32.ofNat u + 1), .ref 70])) (hp' := hp) (q := (.iadd, 1, 0, 0, .null)) rfl (fun _ => rfl) (Nat.le_refl _) ?_
  rw [show Int32.ofNat u + 1 = Int32.ofNat (u + 1) from yIadd (by omega) 1 (by omega)]
  refine r_put (i := 264) (len := 3) (a := 11) (b := 25) (v0 := .null) rfl ⟨l70.1, l70.2, rfl⟩ c70 (by omega) ?_
  exact r_ret (q := (.return_, 1, 0, 0, .null)) rfl rfl (fun _ => rfl)
/-- out of the first loop: one act less -/
theorem yact0 (h : ycA hp fs g f) (f25 : fs[25]? = some (.int (Int32.ofNat 20))) (hl : fs.length = 39) {r : zRe} (K : zR none d 2 none zc220 (50, [(1, .int (Int32.ofNat 2480)), (0, .ref 70)], []) (hp.1, zup hp.2 70 (.inr (11, fs.set 25 (.int (Int32.ofNat 19))))) r) : zR none d 2 none zc220 (12, [(1, .int (Int32.ofNat 2480)), (0, .ref 70)], []) hp r := by
  obtain ⟨h0, c70, f24, f22, c80, c81⟩ := h
  have l70 : (70 : Nat) < hp.1 ∧ 70 < zSC := ⟨by omega, by decide⟩
  refine r_s (fr' := (13, [(1, .int (Int32.ofNat 2480)), (0, .ref 70)], [.int (Int32.ofNat 2480)])) (hp' := hp) (q := (.iload_n 1, 1, 0, 0, .null)) rfl (fun _ => rfl) (Nat.le_refl _) ?_
  refine r_s (fr' := (16, [(1, .int (Int32.ofNat 2480)), (0, .ref 70)], [.int 2480, .int (Int32.ofNat 2480)])) (hp' := hp) (q := (.sipush 2480, 3, 0, 0, .null)) rfl (fun _ => rfl) (Nat.le_refl _) ?_
  refine r_ifc (len := 3) (a := 40) (b := 0) (v0 := .null) (cn := .ge) (off := 24) rfl (fun _ => ?_) (fun q => absurd q (by decide))
  refine r_s (fr' := (41, [(1, .int (Int32.ofNat 2480)), (0, .ref 70)], [.ref 70])) (hp' := hp) (q := (.aload_n 0, 1, 0, 0, .null)) rfl (fun _ => rfl) (Nat.le_refl _) ?_
  refine r_s (fr' := (42, [(1, .int (Int32.ofNat 2480)), (0, .ref 70)], [.ref 70, .ref 70])) (hp' := hp) (q := (.dup, 1, 0, 0, .null)) rfl (fun _ => rfl) (Nat.le_refl _) ?_
  refine r_get (i := 264) (len := 3) (a := 11) (b := 25) (v0 := .null) rfl (by decide) l70 c70 f25 ?_
  refine r_s (fr' := (46, [(1, .int (Int32.ofNat 2480)), (0, .ref 70)], [.int 1, .int (Int32.ofNat 20), .ref 70])) (hp' := hp) (q := (.iconst 1, 1, 0, 0, .null)) rfl (fun _ => rfl) (Nat.le_refl _) ?_
  refine r_s (fr' := (47, [(1, .int (Int32.ofNat 2480)), (0, .ref 70)], [.int (Int32.ofNat 19), .ref 70])) (hp' := hp) (q := (.isub, 1, 0, 0, .null)) rfl (fun _ => rfl) (Nat.le_refl _) ?_
  refine r_put (i := 264) (len := 3) (a := 11) (b := 25) (v0 := .null) rfl ⟨l70.1, l70.2, rfl⟩ c70 (by omega) ?_
  exact K
end YACV
