/-! keepsAct of the reference: put together. -/
section YACW
variable {d : Nat} {hp : zHp} {fs : List Value} {g f : Nat → Int32} {u : Nat}
theorem ycA_70 {v : Value} (h : ycA hp fs g f) : ycA (hp.1, zup hp.2 70 (.inr (11, fs.set 25 v))) (fs.set 25 v) g f := ⟨h.1, yrd_at, by rw [List.getElem?_set]; exact h.2.2.1, by rw [List.getElem?_set]; exact h.2.2.2.1, h.2.2.2.2.1, h.2.2.2.2.2⟩
/-- a chunk is the row, or a chunk of before -/
def yck (g f f2 : Nat → Int32) (k : Nat) : Prop := (f2 (124 * k) = g 0 ∧ f2 (124 * k + 2) = g 2) ∨ ∃ k2, k2 < 20 ∧ f2 (124 * k) = f (124 * k2) ∧ f2 (124 * k + 2) = f (124 * k2 + 2)
theorem yact50 (h : ycA hp fs g f) (hu : u < 20) (f25 : fs[25]? = some (.int (Int32.ofNat u))) (hl : fs.length = 39) {lv : List (Nat × Value)} (hlv : zs1 lv 1 (.int 0) = [(1, .int (Int32.ofNat 0)), (0, .ref 70)]) : ∃ (hp2 : zHp) (f2 : Nat → Int32), hp2.1 = hp.1 ∧ (∀ c, c ≠ 81 → c ≠ 70 → hp2.2 c = hp.2 c) ∧ ycA hp2 (fs.set 25 (.int (Int32.ofNat (u + 1)))) g f2 ∧ (∀ k, k < 20 → (k = u ∧ f2 (124 * k) = g 0 ∧ f2 (124 * k + 2) = g 2) ∨ (k ≠ u ∧ f2 (124 * k) = f (124 * k) ∧ f2 (124 * k + 2) = f (124 * k + 2))) ∧ zR none d 2 none zc220 (50, lv, []) hp (none, hp2) := by
  obtain ⟨hp2, f2, a1, a2, a3, a4, a5, a6⟩ := yact2s (d := d) hu f25 124 (k := 0) h (by omega)
  refine ⟨(hp2.1, zup hp2.2 70 (.inr (11, fs.set 25 (.int (Int32.ofNat (u + 1)))))), f2, a1, fun c h1 h2 => (if_neg h2).trans (a2 c h1), ycA_70 a3, fun k hk => ?_, ?_⟩
  · by_cases e : k = u
    · subst e
      exact Or.inl ⟨rfl, a5 0 (by omega) (by omega), a5 2 (by omega) (by omega)⟩
    · exact Or.inr ⟨e, a4 _ (by omega), a4 _ (by omega)⟩
  · refine r_s (fr' := (51, lv, [.int 0])) (hp' := hp) (q := (.iconst 0, 1, 0, 0, .null)) rfl (fun _ => rfl) (Nat.le_refl _) ?_
    refine r_s (fr' := (52, [(1, .int (Int32.ofNat 0)), (0, .ref 70)], [])) (hp' := hp) (q := (.istore_n 1, 1, 0, 0, .null)) rfl (fun _ => ?_) (Nat.le_refl _) (a6 _ (yact3 a3 hu f25 hl))
    show (if 1 < 2 then zn 52 (zs1 lv 1 (.int 0)) [] hp else none) = _
    rw [if_pos (by decide), hlv]
    rfl
theorem yact (h : ycA hp fs g f) (hu : u ≤ 20) (f25 : fs[25]? = some (.int (Int32.ofNat u))) (hl : fs.length = 39) : ∃ (hp2 : zHp) (f2 : Nat → Int32) (w : Nat), w ≤ 20 ∧ hp2.1 = hp.1 ∧ (∀ c, c ≠ 81 → c ≠ 70 → hp2.2 c = hp.2 c) ∧ ycA hp2 (fs.set 25 (.int (Int32.ofNat w))) g f2 ∧ (∀ k, k < 20 → yck g f f2 k) ∧ zR none d 2 none zc220 (0, [(0, .ref 70)], []) hp (none, hp2) := by
  have l70 : (70 : Nat) < hp.1 ∧ 70 < zSC := ⟨by have := h.1; omega, by decide⟩
  have enter : ∀ {r : zRe}, (¬ u = 20 → zR none d 2 none zc220 (50, [(0, .ref 70)], []) hp r) → (u = 20 → zR none d 2 none zc220 (9, [(0, .ref 70)], []) hp r) → zR none d 2 none zc220 (0, [(0, .ref 70)], []) hp r := by
    intro r K1 K2
    refine r_s (fr' := (1, [(0, .ref 70)], [.ref 70])) (hp' := hp) (q := (.aload_n 0, 1, 0, 0, .null)) rfl (fun _ => rfl) (Nat.le_refl _) ?_
    refine r_get (i := 264) (len := 3) (a := 11) (b := 25) (v0 := .null) rfl (by decide) l70 h.2.1 f25 ?_
    refine r_s (fr' := (6, [(0, .ref 70)], [.int 20, .int (Int32.ofNat u)])) (hp' := hp) (q := (.bipush 20, 2, 0, 0, .null)) rfl (fun _ => rfl) (Nat.le_refl _) ?_
    refine r_ifc (len := 3) (a := 50) (b := 0) (v0 := .null) (cn := .ne) (off := 44) rfl (fun q => K1 (fun z => ?_)) (fun q => K2 ?_)
    · subst z
      exact absurd q (by decide)
    · have q : ¬ ¬ Int32.ofNat u = 20 := of_decide_eq_false q
      have q : Int32.ofNat u = 20 := Decidable.not_not.mp q
      have e := congrArg Int32.toInt q
      rw [yI32 (by omega)] at e
      have e0 : (20 : Int32).toInt = 20 := rfl
      omega
  by_cases e : u = 20
  · subst e
    obtain ⟨hp1, f1, a1, a2, a3, a4, a5, a6⟩ := yact1s (d := d) 2356 (k := 124) h (by omega) (by omega)
    have a7 := ycA_70 (v := .int (Int32.ofNat 19)) a3
    obtain ⟨hp2, f2, b1, b2, b3, b4, b5⟩ := yact50 (d := d) (u := 19) (lv := [(1, .int (Int32.ofNat 2480)), (0, .ref 70)]) a7 (by decide) (by rw [List.getElem?_set, if_pos rfl, if_pos (by omega)]) (by rw [List.length_set]; exact hl) rfl
    rw [List.set_set] at b3
    refine ⟨hp2, f2, 20, Nat.le_refl _, b1.trans a1, fun c h1 h2 => (b2 c h1 h2).trans ((if_neg h2).trans (a2 c h1)), b3, fun k hk => ?_, enter (fun z => absurd rfl z) (fun _ => ?_)⟩
    · rcases b4 k hk with q | ⟨q1, q2, q3⟩
      · exact Or.inl q.2
      · exact Or.inr ⟨k + 1, by omega, by rw [q2, a5 _ (by omega) (by omega), show 124 * k + 124 = 124 * (k + 1) by omega], by rw [q3, a5 _ (by omega) (by omega), show 124 * k + 2 + 124 = 124 * (k + 1) + 2 by omega]⟩
    · refine r_s (fr' := (11, [(0, .ref 70)], [.int 124])) (hp' := hp) (q := (.bipush 124, 2, 0, 0, .null)) rfl (fun _ => rfl) (Nat.le_refl _) ?_
      exact r_s (fr' := (12, [(1, .int (Int32.ofNat 124)), (0, .ref 70)], [])) (hp' := hp) (q := (.istore_n 1, 1, 0, 0, .null)) rfl (fun _ => rfl) (Nat.le_refl _) (a6 _ (yact0 a3 f25 hl b5))
  · obtain ⟨hp2, f2, b1, b2, b3, b4, b5⟩ := yact50 (d := d) (lv := [(0, .ref 70)]) h (by omega) f25 hl rfl
    exact ⟨hp2, f2, u + 1, by omega, b1, b2, b3, fun k hk => (b4 k hk).imp (fun q => q.2) (fun q => ⟨k, hk, q.2⟩), enter (fun _ => b5) (fun z => absurd z e)⟩
end YACW
