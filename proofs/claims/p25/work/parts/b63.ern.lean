/-! The class's matching: which tools can do which works. -/
/-- of tools below t, those that can do the work, as bits -/
def abB (s : Nat → Int32) (wo : Int32) (w : Nat) : Nat → Nat
  | 0 => 0
  | t + 1 => if abl s wo w t = true then abB s wo w t ||| 2 ^ t else abB s wo w t
theorem abB_t {s : Nat → Int32} {wo : Int32} {w u : Nat} : ∀ {t : Nat}, (abB s wo w t).testBit u = true ↔ u < t ∧ abl s wo w u = true
  | 0 => by
    show (0 : Nat).testBit u = true ↔ _
    rw [Nat.zero_testBit]
    exact ⟨(fun z => by cases z), fun z => by omega⟩
  | t + 1 => by
    show (if abl s wo w t = true then abB s wo w t ||| 2 ^ t else abB s wo w t).testBit u = true ↔ _
    by_cases c : abl s wo w t = true
    · rw [if_pos c, Nat.testBit_or, Bool.or_eq_true, abB_t, Nat.testBit_two_pow, decide_eq_true_eq]
      constructor
      · rintro (z | z)
        · exact ⟨by omega, z.2⟩
        · subst z
          exact ⟨by omega, c⟩
      · rintro ⟨z1, z2⟩
        by_cases y : t = u
        · exact Or.inr y
        · exact Or.inl ⟨by omega, z2⟩
    · rw [if_neg c, abB_t]
      constructor
      · exact fun z => ⟨by omega, z.2⟩
      · rintro ⟨z1, z2⟩
        refine ⟨?_, z2⟩
        by_cases y : t = u
        · subst y
          exact absurd z2 c
        · omega
theorem abB_b {s : Nat → Int32} {wo : Int32} {w : Nat} : ∀ {t : Nat}, t ≤ 6 → abB s wo w t < 64
  | 0, _ => (by decide : (0 : Nat) < 64)
  | t + 1, h => by
    show (if abl s wo w t = true then abB s wo w t ||| 2 ^ t else abB s wo w t) < 64
    split
    · exact Nat.or_lt_two_pow (n := 6) (abB_b (by omega)) (Nat.pow_lt_pow_right (by decide) (by omega))
    · exact abB_b (by omega)
theorem cvl_m1 {s : Nat → Int32} {t h : Nat} (n6 : (s 0).toInt ≤ 6) : (cvl s t h true = -1) ↔ ¬ 0 ≤ (cvl s t h true).toInt := by
  have lm : (-1 : Int32).toInt = -1 := rfl
  have l0 : (0 : Int32).toInt = 0 := rfl
  constructor
  · intro z
    rw [z]
    omega
  · intro z
    unfold cvl at z ⊢
    by_cases a : s (10 + 6 * t + 3) = Int32.ofNat h
    · rw [if_pos a] at z
      omega
    rw [if_neg a] at z ⊢
    by_cases b : s (10 + 6 * t) = Int32.ofNat h
    · rw [if_pos b]
    rw [if_neg b] at z ⊢
    cases y : cho s t h (s 0).toInt.toNat true 1 ((s 0).toInt.toNat - 1) with
    | none => rfl
    | some q =>
      rw [y] at z
      by_cases N1 : 1 ≤ (s 0).toInt.toNat
      · obtain ⟨u1, -⟩ := cho_hi (s := s) (N := (s 0).toInt.toNat) (t := t) (h := h) (r := (s 0).toInt.toNat - 1) (k := 1) (by omega) (Nat.le_refl _)
        obtain ⟨a1, -⟩ := u1 q y
        have e := nJ (n := q.1) (by omega)
        have z : ¬ 0 ≤ (Int32.ofNat q.1).toInt := z
        omega
      · rw [show (s 0).toInt.toNat - 1 = 0 by omega] at y
        cases y
section PEA9
variable {s : Nat → Int32} {F : Nat}
/-- findWorksOf -/
theorem c22_11_9 (I : vI s) {wo : Int32} {t : Nat} (ht : (t : Int) < (s 2).toInt) (nw : Int32.ofNat t ≠ wo) : ∀ (f : Nat) {m : xS} {w : Nat}, R32 s (m.1 10) → (∀ h : Nat, (h : Int) < (s 0).toInt → m.1 52 h = cvl s t h true) → m.1 50 1 = s 3 → (∀ w' : Nat, (w' : Int) < (s 3).toInt → m.1 57 w' = Int32.ofNat (abB s wo w' (if w' < w then t + 1 else t))) → (w : Int) ≤ (s 3).toInt → 7 - w < f → ∃ m', D22_50_9_11 F f (Int32.ofNat t) (Int32.ofNat w) m = some ((), m') ∧ (∀ w' : Nat, (w' : Int) < (s 3).toInt → m'.1 57 w' = Int32.ofNat (abB s wo w' (t + 1))) ∧ (∀ i, i ≠ 57 → m'.1 i = m.1 i) ∧ m'.2 = m.2 := by
  have n2 := I_nt I
  have n3 := I_nw I
  have n6 := I_n6 I
  have t6 : t < 6 := by omega
  intro f
  induction f with
  | zero => intro m w _ _ _ _ _ l; omega
  | succ f ih =>
    intro m w R h52 h50 h57 hw l
    have ew := nJ (n := w) (by omega)
    unfold D22_50_9_11
    rw [h50]
    by_cases q : (s 3).toInt ≤ (w : Int)
    · exact ⟨m, oT (zc.trans (decide_eq_true (by omega))) rfl, fun w' h => by rw [h57 w' h, if_pos (by omega)], fun _ _ => rfl, rfl⟩
    · have w3 : (w : Int) < (s 3).toInt := by omega
      have w6 : w < 6 := by omega
      have iw := I.2.2.1 w w3
      have g : zcmp .ge (Int32.ofNat w) (s 3) = false := zc.trans (decide_eq_false (by omega))
      obtain ⟨p, ep⟩ : ∃ p : Nat, (s (124 + 4 * w)).toInt = (p : Int) := ⟨(s (124 + 4 * w)).toInt.toNat, by omega⟩
      have r0 := c89_9 (F := F) R (w := w) (k := 0) rfl rfl w6 (by decide)
      have ad : abl s wo w t = (!pdn s w && (s (10 + 6 * t + 1) == s (124 + 4 * w + 1) && abl2 s w t)) := by
        unfold abl
        rw [decide_eq_true ht, beq_eq_false_iff_ne.mpr nw, Bool.not_false, Bool.true_and, Bool.true_and]
      have ep2 : (s (124 + 4 * w)).toInt.toNat = p := by omega
      unfold abl2 at ad
      rw [ep2] at ad
      have nx : ∀ {v : Int32} {m2 : xS}, (∀ w' : Nat, (w' : Int) < (s 3).toInt → m2.1 57 w' = Int32.ofNat (abB s wo w' (if w' < w + 1 then t + 1 else t))) → (∀ i, i ≠ 57 → m2.1 i = m.1 i) → m2.2 = m.2 → ∃ m', D22_50_9_92 F (D22_50_9_11 F f) (Int32.ofNat t) (Int32.ofNat w) v m2 = some ((), m') ∧ (∀ w' : Nat, (w' : Int) < (s 3).toInt → m'.1 57 w' = Int32.ofNat (abB s wo w' (t + 1))) ∧ (∀ i, i ≠ 57 → m'.1 i = m.1 i) ∧ m'.2 = m.2 := fun {v m2} k1 k2 k3 => by
        obtain ⟨m', d1, d2, d3, d4⟩ := ih (m := m2) (w := w + 1) (by rw [k2 10 (by decide)]; exact R) (by rw [k2 52 (by decide)]; exact h52) (by rw [k2 50 (by decide)]; exact h50) k1 (by omega) (by omega)
        refine ⟨m', ?_, d2, fun i h => (d3 i h).trans (k2 i h), d4.trans k3⟩
        unfold D22_50_9_92
        rw [(o1 (n := w) (by omega)).2.2]
        exact d1
      -- it can't
      have no : abl s wo w t = false → ∀ {v : Int32}, ∃ m', D22_50_9_92 F (D22_50_9_11 F f) (Int32.ofNat t) (Int32.ofNat w) v m = some ((), m') ∧ (∀ w' : Nat, (w' : Int) < (s 3).toInt → m'.1 57 w' = Int32.ofNat (abB s wo w' (t + 1))) ∧ (∀ i, i ≠ 57 → m'.1 i = m.1 i) ∧ m'.2 = m.2 := fun hv {v} => nx (fun w' h => by
        rw [h57 w' h]
        by_cases y : w' = w
        · subst y
          rw [if_neg (by omega), if_pos (by omega)]
          show _ = Int32.ofNat (if abl s wo w' t = true then abB s wo w' t ||| 2 ^ t else abB s wo w' t)
          rw [hv, if_neg (show ¬ (false = true) by decide)]
        · by_cases z : w' < w
          · rw [if_pos z, if_pos (by omega)]
          · rw [if_neg z, if_neg (by omega)]) (fun _ _ => rfl) rfl
      refine ?_
      have v52 := h52 p (by omega)
      have xp : xib (s (124 + 4 * w + 0)) 6 = true := gxb (show (s (124 + 4 * w + 0)).toInt = (p : Int) from ep) (by omega)
      have xn : (s (124 + 4 * w + 0)).toNatClampNeg = p := gxn (show (s (124 + 4 * w + 0)).toInt = (p : Int) from ep)
      by_cases c1 : cvl s t p true = -1
      · obtain ⟨m', d1, d⟩ := no (by rw [ad, decide_eq_false ((cvl_m1 n6).mp c1)]; simp) (v := cvl s t p true)
        refine ⟨m', oF g (ob r0 (oT xp ?_)), d⟩
        dsimp only
        rw [xn, v52]
        exact oT (by rw [zce]; exact beq_iff_eq.mpr c1) d1
      have c1' : 0 ≤ (cvl s t p true).toInt := Decidable.not_not.mp (fun z => c1 ((cvl_m1 n6).mpr z))
      have g1 : zcmp .eq (cvl s t p true) (-1) = false := by
        rw [zce]
        exact beq_eq_false_iff_ne.mpr c1
      have r106 := c106_9 (F := F) R I (w := w) rfl w3
      rw [decide_eq_true c1', Bool.true_and] at ad
      by_cases c2 : pdn s w = true
      · obtain ⟨m', d1, d⟩ := no (by rw [ad, c2]; rfl) (v := cvl s t p true)
        refine ⟨m', oF g (ob r0 (oT xp ?_)), d⟩
        dsimp only
        rw [xn, v52]
        exact oF g1 (ob r106 (oT (znT c2) d1))
      have c2 : pdn s w = false := by simpa using c2
      rw [c2, Bool.not_false, Bool.true_and] at ad
      have r1 := c89_9 (F := F) R (w := w) (k := 1) rfl rfl w6 (by decide)
      have rk := c87_9 (F := F) R (t := t) (w := 1) rfl rfl t6 (by decide)
      by_cases c3 : s (10 + 6 * t + 1) = s (124 + 4 * w + 1)
      rotate_left
      · obtain ⟨m', d1, d⟩ := no (by rw [ad, beq_eq_false_iff_ne.mpr c3]; rfl) (v := cvl s t p true)
        refine ⟨m', oF g (ob r0 (oT xp ?_)), d⟩
        dsimp only
        rw [xn, v52]
        exact oF g1 (ob r106 (oF (znF c2) (ob r1 (ob rk (oT (by rw [zcn]; show (!(s (124 + 4 * w + 1) == s (10 + 6 * t + 1))) = true; rw [beq_eq_false_iff_ne.mpr (fun z => c3 z.symm)]; rfl) d1)))))
      rw [beq_iff_eq.mpr c3, Bool.true_and] at ad
      have g3 : zcmp .ne (s (124 + 4 * w + 1)) (s (10 + 6 * t + 1)) = false := by
        rw [zcn, beq_iff_eq.mpr c3.symm]
        rfl
      have r100 := c100_9 (F := F) R I (t := t) (v2 := cvl s t p true) rfl ht
      have r2 := c89_9 (F := F) R (w := w) (k := 2) rfl rfl w6 (by decide)
      by_cases c4 : (psh s t (cvl s t p true)).toInt < (s (124 + 4 * w + 2)).toInt
      · obtain ⟨m', d1, d⟩ := no (by rw [ad, decide_eq_false (by omega)]) (v := cvl s t p true)
        refine ⟨m', oF g (ob r0 (oT xp ?_)), d⟩
        dsimp only
        rw [xn, v52]
        exact oF g1 (ob r106 (oF (znF c2) (ob r1 (ob rk (oF g3 (ob r100 (ob r2 (oT (zcl.trans (decide_eq_true c4)) d1))))))))
      · have hv : abl s wo w t = true := by rw [ad, decide_eq_true (by omega)]
        have vw := h57 w w3
        rw [if_neg (by omega)] at vw
        obtain ⟨b1, b2⟩ := bor (abB_b (s := s) (wo := wo) (w := w) (t := t) (by omega)) t6
        obtain ⟨m', d1, d⟩ := nx (v := cvl s t p true) (m2 := xu m 57 w (Int32.ofNat (abB s wo w t ||| 2 ^ t))) (fun w' h => by
          by_cases y : w' = w
          · subst y
            rw [xu_s, if_pos (by omega)]
            show _ = Int32.ofNat (if abl s wo w' t = true then abB s wo w' t ||| 2 ^ t else abB s wo w' t)
            rw [if_pos hv]
          · rw [xu_o (fun z => y z.2), h57 w' h]
            by_cases z : w' < w
            · rw [if_pos z, if_pos (by omega)]
            · rw [if_neg z, if_neg (by omega)]) (fun i h => xu_row h) rfl
        refine ⟨m', oF g (ob r0 (oT xp ?_)), d⟩
        dsimp only
        rw [xn, v52]
        refine oF g1 (ob r106 (oF (znF c2) (ob r1 (ob rk (oF g3 (ob r100 (ob r2 (oF (zcl.trans (decide_eq_false c4)) ?_))))))))
        rw [if_pos (gxb ew w6), if_pos (gxb ew w6), gxn ew, vw, b1]
        exact d1
end PEA9
section PEA11t
variable {s : Nat → Int32} {F : Nat}
/-- findWorksOf -/
theorem c22_11_11t (I : vI s) {wo : Int32} {t : Nat} (ht : (t : Int) < (s 2).toInt) (nw : Int32.ofNat t ≠ wo) : ∀ (f : Nat) {m : xS} {w : Nat}, R32 s (m.1 12) → (∀ h : Nat, (h : Int) < (s 0).toInt → m.1 52 h = cvl s t h true) → m.1 50 1 = s 3 → (∀ w' : Nat, (w' : Int) < (s 3).toInt → m.1 57 w' = Int32.ofNat (abB s wo w' (if w' < w then t + 1 else t))) → (w : Int) ≤ (s 3).toInt → 7 - w < f → ∃ m', D22_50_11t_11 F f (Int32.ofNat t) (Int32.ofNat w) m = some ((), m') ∧ (∀ w' : Nat, (w' : Int) < (s 3).toInt → m'.1 57 w' = Int32.ofNat (abB s wo w' (t + 1))) ∧ (∀ i, i ≠ 57 → m'.1 i = m.1 i) ∧ m'.2 = m.2 := by
  have n2 := I_nt I
  have n3 := I_nw I
  have n6 := I_n6 I
  have t6 : t < 6 := by omega
  intro f
  induction f with
  | zero => intro m w _ _ _ _ _ l; omega
  | succ f ih =>
    intro m w R h52 h50 h57 hw l
    have ew := nJ (n := w) (by omega)
    unfold D22_50_11t_11
    rw [h50]
    by_cases q : (s 3).toInt ≤ (w : Int)
    · exact ⟨m, oT (zc.trans (decide_eq_true (by omega))) rfl, fun w' h => by rw [h57 w' h, if_pos (by omega)], fun _ _ => rfl, rfl⟩
    · have w3 : (w : Int) < (s 3).toInt := by omega
      have w6 : w < 6 := by omega
      have iw := I.2.2.1 w w3
      have g : zcmp .ge (Int32.ofNat w) (s 3) = false := zc.trans (decide_eq_false (by omega))
      obtain ⟨p, ep⟩ : ∃ p : Nat, (s (124 + 4 * w)).toInt = (p : Int) := ⟨(s (124 + 4 * w)).toInt.toNat, by omega⟩
      have r0 := c89_11t (F := F) R (w := w) (k := 0) rfl rfl w6 (by decide)
      have ad : abl s wo w t = (!pdn s w && (s (10 + 6 * t + 1) == s (124 + 4 * w + 1) && abl2 s w t)) := by
        unfold abl
        rw [decide_eq_true ht, beq_eq_false_iff_ne.mpr nw, Bool.not_false, Bool.true_and, Bool.true_and]
      have ep2 : (s (124 + 4 * w)).toInt.toNat = p := by omega
      unfold abl2 at ad
      rw [ep2] at ad
      have nx : ∀ {v : Int32} {m2 : xS}, (∀ w' : Nat, (w' : Int) < (s 3).toInt → m2.1 57 w' = Int32.ofNat (abB s wo w' (if w' < w + 1 then t + 1 else t))) → (∀ i, i ≠ 57 → m2.1 i = m.1 i) → m2.2 = m.2 → ∃ m', D22_50_11t_92 F (D22_50_11t_11 F f) (Int32.ofNat t) (Int32.ofNat w) v m2 = some ((), m') ∧ (∀ w' : Nat, (w' : Int) < (s 3).toInt → m'.1 57 w' = Int32.ofNat (abB s wo w' (t + 1))) ∧ (∀ i, i ≠ 57 → m'.1 i = m.1 i) ∧ m'.2 = m.2 := fun {v m2} k1 k2 k3 => by
        obtain ⟨m', d1, d2, d3, d4⟩ := ih (m := m2) (w := w + 1) (by rw [k2 12 (by decide)]; exact R) (by rw [k2 52 (by decide)]; exact h52) (by rw [k2 50 (by decide)]; exact h50) k1 (by omega) (by omega)
        refine ⟨m', ?_, d2, fun i h => (d3 i h).trans (k2 i h), d4.trans k3⟩
        unfold D22_50_11t_92
        rw [(o1 (n := w) (by omega)).2.2]
        exact d1
      -- it can't
      have no : abl s wo w t = false → ∀ {v : Int32}, ∃ m', D22_50_11t_92 F (D22_50_11t_11 F f) (Int32.ofNat t) (Int32.ofNat w) v m = some ((), m') ∧ (∀ w' : Nat, (w' : Int) < (s 3).toInt → m'.1 57 w' = Int32.ofNat (abB s wo w' (t + 1))) ∧ (∀ i, i ≠ 57 → m'.1 i = m.1 i) ∧ m'.2 = m.2 := fun hv {v} => nx (fun w' h => by
        rw [h57 w' h]
        by_cases y : w' = w
        · subst y
          rw [if_neg (by omega), if_pos (by omega)]
          show _ = Int32.ofNat (if abl s wo w' t = true then abB s wo w' t ||| 2 ^ t else abB s wo w' t)
          rw [hv, if_neg (show ¬ (false = true) by decide)]
        · by_cases z : w' < w
          · rw [if_pos z, if_pos (by omega)]
          · rw [if_neg z, if_neg (by omega)]) (fun _ _ => rfl) rfl
      refine ?_
      have v52 := h52 p (by omega)
      have xp : xib (s (124 + 4 * w + 0)) 6 = true := gxb (show (s (124 + 4 * w + 0)).toInt = (p : Int) from ep) (by omega)
      have xn : (s (124 + 4 * w + 0)).toNatClampNeg = p := gxn (show (s (124 + 4 * w + 0)).toInt = (p : Int) from ep)
      by_cases c1 : cvl s t p true = -1
      · obtain ⟨m', d1, d⟩ := no (by rw [ad, decide_eq_false ((cvl_m1 n6).mp c1)]; simp) (v := cvl s t p true)
        refine ⟨m', oF g (ob r0 (oT xp ?_)), d⟩
        dsimp only
        rw [xn, v52]
        exact oT (by rw [zce]; exact beq_iff_eq.mpr c1) d1
      have c1' : 0 ≤ (cvl s t p true).toInt := Decidable.not_not.mp (fun z => c1 ((cvl_m1 n6).mpr z))
      have g1 : zcmp .eq (cvl s t p true) (-1) = false := by
        rw [zce]
        exact beq_eq_false_iff_ne.mpr c1
      have r106 := c106_11t (F := F) R I (w := w) rfl w3
      rw [decide_eq_true c1', Bool.true_and] at ad
      by_cases c2 : pdn s w = true
      · obtain ⟨m', d1, d⟩ := no (by rw [ad, c2]; rfl) (v := cvl s t p true)
        refine ⟨m', oF g (ob r0 (oT xp ?_)), d⟩
        dsimp only
        rw [xn, v52]
        exact oF g1 (ob r106 (oT (znT c2) d1))
      have c2 : pdn s w = false := by simpa using c2
      rw [c2, Bool.not_false, Bool.true_and] at ad
      have r1 := c89_11t (F := F) R (w := w) (k := 1) rfl rfl w6 (by decide)
      have rk := c87_11t (F := F) R (t := t) (w := 1) rfl rfl t6 (by decide)
      by_cases c3 : s (10 + 6 * t + 1) = s (124 + 4 * w + 1)
      rotate_left
      · obtain ⟨m', d1, d⟩ := no (by rw [ad, beq_eq_false_iff_ne.mpr c3]; rfl) (v := cvl s t p true)
        refine ⟨m', oF g (ob r0 (oT xp ?_)), d⟩
        dsimp only
        rw [xn, v52]
        exact oF g1 (ob r106 (oF (znF c2) (ob r1 (ob rk (oT (by rw [zcn]; show (!(s (124 + 4 * w + 1) == s (10 + 6 * t + 1))) = true; rw [beq_eq_false_iff_ne.mpr (fun z => c3 z.symm)]; rfl) d1)))))
      rw [beq_iff_eq.mpr c3, Bool.true_and] at ad
      have g3 : zcmp .ne (s (124 + 4 * w + 1)) (s (10 + 6 * t + 1)) = false := by
        rw [zcn, beq_iff_eq.mpr c3.symm]
        rfl
      have r100 := c100_11t (F := F) R I (t := t) (v2 := cvl s t p true) rfl ht
      have r2 := c89_11t (F := F) R (w := w) (k := 2) rfl rfl w6 (by decide)
      by_cases c4 : (psh s t (cvl s t p true)).toInt < (s (124 + 4 * w + 2)).toInt
      · obtain ⟨m', d1, d⟩ := no (by rw [ad, decide_eq_false (by omega)]) (v := cvl s t p true)
        refine ⟨m', oF g (ob r0 (oT xp ?_)), d⟩
        dsimp only
        rw [xn, v52]
        exact oF g1 (ob r106 (oF (znF c2) (ob r1 (ob rk (oF g3 (ob r100 (ob r2 (oT (zcl.trans (decide_eq_true c4)) d1))))))))
      · have hv : abl s wo w t = true := by rw [ad, decide_eq_true (by omega)]
        have vw := h57 w w3
        rw [if_neg (by omega)] at vw
        obtain ⟨b1, b2⟩ := bor (abB_b (s := s) (wo := wo) (w := w) (t := t) (by omega)) t6
        obtain ⟨m', d1, d⟩ := nx (v := cvl s t p true) (m2 := xu m 57 w (Int32.ofNat (abB s wo w t ||| 2 ^ t))) (fun w' h => by
          by_cases y : w' = w
          · subst y
            rw [xu_s, if_pos (by omega)]
            show _ = Int32.ofNat (if abl s wo w' t = true then abB s wo w' t ||| 2 ^ t else abB s wo w' t)
            rw [if_pos hv]
          · rw [xu_o (fun z => y z.2), h57 w' h]
            by_cases z : w' < w
            · rw [if_pos z, if_pos (by omega)]
            · rw [if_neg z, if_neg (by omega)]) (fun i h => xu_row h) rfl
        refine ⟨m', oF g (ob r0 (oT xp ?_)), d⟩
        dsimp only
        rw [xn, v52]
        refine oF g1 (ob r106 (oF (znF c2) (ob r1 (ob rk (oF g3 (ob r100 (ob r2 (oF (zcl.trans (decide_eq_false c4)) ?_))))))))
        rw [if_pos (gxb ew w6), if_pos (gxb ew w6), gxn ew, vw, b1]
        exact d1
end PEA11t
