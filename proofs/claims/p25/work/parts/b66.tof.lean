/-! Which tool the class names for a work. -/
theorem fnd_k {q : Nat → Bool} : ∀ {k k' j : Nat}, k' ≤ k → (∀ t, q t = true → t < j + k') → (List.range' j k).find? q = (List.range' j k').find? q
  | 0, k', j, h, _ => by rw [show k' = 0 by omega]
  | k + 1, 0, j, _, h => by
    have e : q j = false := by
      cases e : q j with
      | true =>
        have := h j e
        omega
      | false => rfl
    rw [List.range'_succ, List.find?_cons, e]
    exact fnd_k (k := k) (k' := 0) (j := j + 1) (Nat.zero_le _) (fun t ht => by have := h t ht; omega)
  | k + 1, k' + 1, j, hk, h => by
    rw [List.range'_succ, List.range'_succ, List.find?_cons, List.find?_cons]
    cases q j with
    | true => rfl
    | false => exact fnd_k (by omega) (fun t ht => by have := h t ht; omega)
section PTOF
variable {s : Nat → Int32} {m : xS} {F : Nat}
theorem c24_37 {w T : Nat} (w6 : w < 6) (hT : T < 64) {y : Int32} {g p : Nat → Bool} (hy : ∀ d, d < 6 → tbt y d = g d) (hv : ∀ u, u < 6 → g u = true → decide (m.1 58 w + m.1 (60 + (w + 1)) (T ||| 2 ^ u) = m.1 (60 + w) T) = p u) : ∀ (f : Nat) {u : Nat}, u ≤ 6 → 6 - u < f → D24_50_37 F f (Int32.ofNat w) (Int32.ofNat T) y (Int32.ofNat u) m = some ((match (List.range' u (6 - u)).find? (fun t => g t && p t) with
    | some t => Int32.ofNat t
    | none => -1), m) := by
  have ew := nJ (n := w) (by omega)
  have ew1 := nJ (n := w + 1) (by omega)
  have eT := nJ (n := T) (by omega)
  have l6 : (6 : Int32).toInt = 6 := rfl
  have e1 : Int32.ofNat w + 1 = Int32.ofNat (w + 1) := xadd (a := w) (b := 1) (by omega)
  intro f
  induction f with
  | zero => intro u _ l; omega
  | succ f ih =>
    intro u hu l
    have eu := nJ (n := u) (by omega)
    unfold D24_50_37
    by_cases q : 6 ≤ u
    · rw [show 6 - u = 0 by omega]
      exact oT (zc.trans (decide_eq_true (by omega))) rfl
    · rw [show 6 - u = (6 - (u + 1)) + 1 by omega, List.range'_succ, List.find?_cons]
      have u6 : u < 6 := by omega
      have g0 : zcmp .ge (Int32.ofNat u) 6 = false := zc.trans (decide_eq_false (by omega))
      have t := tbu (x := y) u6
      rw [hy u u6] at t
      have nx := ih (u := u + 1) (by omega) (by omega)
      have n89 : D24_50_89 F (D24_50_37 F f) (Int32.ofNat w) (Int32.ofNat T) y (Int32.ofNat u) m = some ((match (List.range' (u + 1) (6 - (u + 1))).find? (fun t => g t && p t) with
          | some t => Int32.ofNat t
          | none => -1), m) := by
        unfold D24_50_89
        rw [(o1 (n := u) (by omega)).2.2]
        exact nx
      by_cases c : g u = true
      · rw [c] at t
        obtain ⟨b1, b2⟩ := bor hT u6
        have eb := nJ (n := T ||| 2 ^ u) (by omega)
        have v := hv u u6 c
        cases hp : p u with
        | true =>
          rw [hp, decide_eq_true_eq] at v
          rw [c]
          refine oF g0 (oF t ?_)
          rw [e1, b1, gxn ew, gxn ew1, gxn eb, gxn eT]
          exact oT (gxb ew w6) (oT (gxb ew1 (by omega)) (oT (gxb eb b2) (oT (gxb ew (by omega)) (oT (gxb eT hT) (oF (by rw [zcn, v, beq_self_eq_true]; rfl) rfl)))))
        | false =>
          rw [hp, decide_eq_false_iff_not] at v
          rw [c]
          refine oF g0 (oF t ?_)
          rw [e1, b1, gxn ew, gxn ew1, gxn eb, gxn eT]
          exact oT (gxb ew w6) (oT (gxb ew1 (by omega)) (oT (gxb eb b2) (oT (gxb ew (by omega)) (oT (gxb eT hT) (oT (by rw [zcn, beq_eq_false_iff_ne.mpr v]; rfl) n89)))))
      · have c : g u = false := by simpa using c
        rw [c] at t
        rw [c]
        exact oF g0 (oT t n89)
/-- firstTool -/
theorem c24 (hF : 100 ≤ F) (I : vI s) {wo : Int32} (B : kBs s wo m) {w k T : Nat} (hk : (s 3).toInt.toNat = w + 1 + k) (hT : T < 2 ^ (s 2).toInt.toNat) : (bst (abl s wo) (payI s) k (w + 1) T = bst (abl s wo) (payI s) (k + 1) w T ∧ D24_50 F (Int32.ofNat w) (Int32.ofNat T) m = some (-1, m)) ∨ (¬ bst (abl s wo) (payI s) k (w + 1) T = bst (abl s wo) (payI s) (k + 1) w T ∧ ∃ t, t < (s 2).toInt.toNat ∧ (List.range (s 2).toInt.toNat).find? (fun t => (abl s wo w t && !T.testBit t) && (payI s w + bst (abl s wo) (payI s) k (w + 1) (T ||| 2 ^ t) == bst (abl s wo) (payI s) (k + 1) w T)) = some t ∧ D24_50 F (Int32.ofNat w) (Int32.ofNat T) m = some (Int32.ofNat t, m)) := by
  have n2 := I_nt I
  have n3 := I_nw I
  have h64 : (2 : Nat) ^ (s 2).toInt.toNat ≤ 2 ^ 6 := Nat.pow_le_pow_right (by decide) (by omega)
  have w6 : w < 6 := by omega
  have ew := nJ (n := w) (by omega)
  have ew1 := nJ (n := w + 1) (by omega)
  have eT := nJ (n := T) (by omega)
  have e1 : Int32.ofNat w + 1 = Int32.ofNat (w + 1) := xadd (a := w) (b := 1) (by omega)
  have k1 : ∀ X, X < 2 ^ (s 2).toInt.toNat → (m.1 (60 + (w + 1)) X).toInt = bst (abl s wo) (payI s) k (w + 1) X := fun X hX => by
    have z := B.2.2 (w + 1) (by omega) X hX
    rw [show (s 3).toInt.toNat - (w + 1) = k by omega] at z
    exact z
  have k0 : (m.1 (60 + w) T).toInt = bst (abl s wo) (payI s) (k + 1) w T := by
    have z := B.2.2 w (by omega) T hT
    rw [show (s 3).toInt.toNat - w = k + 1 by omega] at z
    exact z
  have hA := B.2.1 w (by omega)
  have hp := I_py I w (by omega)
  have ub : ∀ X, bst (abl s wo) (payI s) k (w + 1) X ≤ 1000 * (k : Int) := fun X => bst_ub (N := (s 3).toInt.toNat) (fun w' h => I_py I w' (by omega)) k (w + 1) X (by omega)
  have lo : ∀ X, 0 ≤ bst (abl s wo) (payI s) k (w + 1) X := fun X => bst_0 k (w + 1) X
  by_cases c : bst (abl s wo) (payI s) k (w + 1) T = bst (abl s wo) (payI s) (k + 1) w T
  · refine Or.inl ⟨c, ?_⟩
    have e : m.1 (60 + (w + 1)) T = m.1 (60 + w) T := Int32.toInt_inj.mp (by rw [k1 T hT, k0, c])
    unfold D24_50
    rw [e1, gxn ew, gxn ew1, gxn eT]
    exact oT (gxb ew1 (by omega)) (oT (gxb eT (by omega)) (oT (gxb ew (by omega)) (oT (gxb eT (by omega)) (oF (by rw [zcn, e, beq_self_eq_true]; rfl) rfl))))
  · refine Or.inr ⟨c, ?_⟩
    have ne : ¬ m.1 (60 + (w + 1)) T = m.1 (60 + w) T := fun z => c (by
      have z := congrArg Int32.toInt z
      rw [k1 T hT, k0] at z
      exact z)
    have bb := abB_b (s := s) (wo := wo) (w := w) (t := (s 2).toInt.toNat) (by omega)
    have r := c24_37 (F := F) (m := m) (w := w) (T := T) w6 (by omega) (y := m.1 57 w &&& (Int32.ofNat T ^^^ (-1))) (g := fun t => abl s wo w t && !T.testBit t) (p := fun t => payI s w + bst (abl s wo) (payI s) k (w + 1) (T ||| 2 ^ t) == bst (abl s wo) (payI s) (k + 1) w T) (fun d hd => by
      rw [hA.1, tb_and, tb_xor, tb_nat bb hd, tb_nat (by omega) hd, tb_m1 hd, Bool.xor_true]
      show ((abB s wo w (s 2).toInt.toNat).testBit d && !T.testBit d) = (abl s wo w d && !T.testBit d)
      have e : (abB s wo w (s 2).toInt.toNat).testBit d = abl s wo w d := Bool.eq_iff_iff.mpr (abB_t.trans ⟨fun h => h.2, fun h => ⟨ab_n h, h⟩⟩)
      rw [e]) (fun u hu hg => by
      have hg : (abl s wo w u && !T.testBit u) = true := hg
      rw [Bool.and_eq_true] at hg
      have un := ab_n hg.1
      have hX := k1 (T ||| 2 ^ u) (Nat.or_lt_two_pow hT (Nat.pow_lt_pow_right (by decide) un))
      have lX := lo (T ||| 2 ^ u)
      have uX := ub (T ||| 2 ^ u)
      have h8 : (m.1 58 w).toInt = payI s w := by rw [hA.2]; rfl
      have ea : (m.1 58 w + m.1 (60 + (w + 1)) (T ||| 2 ^ u)).toInt = payI s w + bst (abl s wo) (payI s) k (w + 1) (T ||| 2 ^ u) := by
        rw [xa1 (by rw [h8, hX]; omega) (by rw [h8, hX]; omega), h8, hX]
      refine Bool.eq_iff_iff.mpr ⟨fun h => ?_, fun h => ?_⟩
      · have h := congrArg Int32.toInt (of_decide_eq_true h)
        rw [ea, k0] at h
        exact beq_iff_eq.mpr h
      · exact decide_eq_true (Int32.toInt_inj.mp (by rw [ea, k0]; exact beq_iff_eq.mp h))) F (u := 0) (by omega) (by omega)
    rw [Nat.sub_zero, fnd_k (k := 6) (k' := (s 2).toInt.toNat) (j := 0) (by omega) (fun t h => by
      rw [Bool.and_eq_true, Bool.and_eq_true] at h
      have := ab_n h.1.1
      omega), ← List.range_eq_range'] at r
    cases v : (List.range (s 2).toInt.toNat).find? (fun t => (abl s wo w t && !T.testBit t) && (payI s w + bst (abl s wo) (payI s) k (w + 1) (T ||| 2 ^ t) == bst (abl s wo) (payI s) (k + 1) w T)) with
    | none =>
      obtain ⟨-, -, cc⟩ := bst_s (ab := abl s wo) (py := payI s) k w T
      rcases cc with cc | ⟨u, u6, g, e⟩
      · exact absurd cc.symm c
      · have un : u < (s 2).toInt.toNat := by
          rw [Bool.and_eq_true] at g
          exact ab_n g.1
        have q := List.find?_eq_none.mp v u (List.mem_range.mpr un)
        rw [g, Bool.true_and, beq_iff_eq] at q
        exact absurd e.symm q
    | some t =>
      rw [v] at r
      refine ⟨t, List.mem_range.mp (List.mem_of_find?_eq_some v), rfl, ?_⟩
      unfold D24_50
      rw [e1, gxn ew, gxn ew1, gxn eT]
      exact oT (gxb ew1 (by omega)) (oT (gxb eT (by omega)) (oT (gxb ew (by omega)) (oT (gxb eT (by omega)) (oT (by rw [zcn, beq_eq_false_iff_ne.mpr ne]; rfl) (oT (gxb ew w6) r)))))
/-- toolFor -/
theorem c23_7 (hF : 100 ≤ F) (I : vI s) {wo : Int32} (B : kBs s wo m) {v : Nat} (hv : v < (s 3).toInt.toNat) : ∀ (f : Nat) {w T : Nat} {x : Int32}, w ≤ v + 1 → T < 2 ^ (s 2).toInt.toNat → 8 - w < f → D23_50_7 F f (Int32.ofNat v) (Int32.ofNat T) x (Int32.ofNat w) m = some (if w ≤ v then Int32.ofNat ((gro (abl s wo) (payI s) (s 2).toInt.toNat ((s 3).toInt.toNat - w) w T).getD (v - w) 0) - 1 else x, m) := by
  have n2 := I_nt I
  have n3 := I_nw I
  have h64 : (2 : Nat) ^ (s 2).toInt.toNat ≤ 2 ^ 6 := Nat.pow_le_pow_right (by decide) (by omega)
  have ev := nJ (n := v) (by omega)
  have lm : (-1 : Int32).toInt = -1 := rfl
  have z1 : Int32.ofNat 0 - 1 = (-1 : Int32) := by decide
  intro f
  induction f with
  | zero => intro w T x _ _ l; omega
  | succ f ih =>
    intro w T x hw hT l
    have ew := nJ (n := w) (by omega)
    unfold D23_50_7
    rw [B.1]
    by_cases q : v < w
    · rw [if_neg (show ¬ w ≤ v by omega)]
      exact oT (zcgt.trans (decide_eq_true (by omega))) rfl
    · have g1 : zcmp .gt (Int32.ofNat w) (Int32.ofNat v) = false := zcgt.trans (decide_eq_false (by omega))
      have g2 : zcmp .ge (Int32.ofNat w) (s 3) = false := zc.trans (decide_eq_false (by omega))
      obtain ⟨k, hk⟩ : ∃ k : Nat, (s 3).toInt.toNat = w + 1 + k := ⟨(s 3).toInt.toNat - (w + 1), by omega⟩
      rw [if_pos (show w ≤ v by omega), show (s 3).toInt.toNat - w = k + 1 by omega]
      have eg : gro (abl s wo) (payI s) (s 2).toInt.toNat (k + 1) w T = if bst (abl s wo) (payI s) k (w + 1) T = bst (abl s wo) (payI s) (k + 1) w T then 0 :: gro (abl s wo) (payI s) (s 2).toInt.toNat k (w + 1) T else match (List.range (s 2).toInt.toNat).find? (fun t => (abl s wo w t && !T.testBit t) && (payI s w + bst (abl s wo) (payI s) k (w + 1) (T ||| 2 ^ t) == bst (abl s wo) (payI s) (k + 1) w T)) with
        | some t => (t + 1) :: gro (abl s wo) (payI s) (s 2).toInt.toNat k (w + 1) (T ||| 2 ^ t)
        | none => [] := rfl
      rw [eg]
      have nx : ∀ {T' : Nat} {x' : Int32}, T' < 2 ^ (s 2).toInt.toNat → D23_50_41 F (D23_50_7 F f) (Int32.ofNat v) (Int32.ofNat T') x' (Int32.ofNat w) m = some (if w + 1 ≤ v then Int32.ofNat ((gro (abl s wo) (payI s) (s 2).toInt.toNat k (w + 1) T').getD (v - (w + 1)) 0) - 1 else x', m) := fun {T' x'} h => by
        have z := ih (w := w + 1) (T := T') (x := x') (by omega) h (by omega)
        rw [show (s 3).toInt.toNat - (w + 1) = k by omega] at z
        unfold D23_50_41
        rw [(o1 (n := w) (by omega)).2.2]
        exact z
      rcases c24 (F := F) hF I B hk hT with ⟨c, d⟩ | ⟨c, t, tn, ft, d⟩
      · rw [if_pos c]
        refine oF g1 (oF g2 (ob d (oT (show zcmp .eq (-1 : Int32) (-1) = true by decide) ?_)))
        dsimp only
        rw [nx hT]
        by_cases y : v = w
        · rw [if_neg (show ¬ w + 1 ≤ v by omega), y, Nat.sub_self]
          show some (-1, m) = some (Int32.ofNat 0 - 1, m)
          rw [z1]
        · rw [if_pos (show w + 1 ≤ v by omega), show v - w = (v - (w + 1)) + 1 by omega]
          rfl
      · rw [if_neg c, ft]
        have et := nJ (n := t) (by omega)
        obtain ⟨b1, b2⟩ := bor (b := T) (h := t) (by omega) (by omega)
        refine oF g1 (oF g2 (ob d (oF (by rw [zce]; exact beq_eq_false_iff_ne.mpr (fun z => by have z : (Int32.ofNat t).toInt = -1 := congrArg Int32.toInt z; omega)) ?_)))
        dsimp only
        rw [b1, nx (Nat.or_lt_two_pow hT (Nat.pow_lt_pow_right (by decide) tn))]
        by_cases y : v = w
        · rw [if_neg (show ¬ w + 1 ≤ v by omega), y, Nat.sub_self]
          show some (Int32.ofNat t, m) = some (Int32.ofNat (t + 1) - 1, m)
          rw [(o1 (n := t) (by omega)).2.1]
        · rw [if_pos (show w + 1 ≤ v by omega), show v - w = (v - (w + 1)) + 1 by omega]
          rfl
theorem c23 (hF : 100 ≤ F) (I : vI s) {wo : Int32} (B : kBs s wo m) {v : Nat} (hv : v < (s 3).toInt.toNat) : D23_50 F (Int32.ofNat v) m = some (Int32.ofNat ((gro (abl s wo) (payI s) (s 2).toInt.toNat (s 3).toInt.toNat 0 0).getD v 0) - 1, m) := by
  have z := c23_7 (F := F) hF I B hv F (w := 0) (T := 0) (x := -1) (by omega) (Nat.two_pow_pos _) (by omega)
  rw [if_pos (Nat.zero_le _), Nat.sub_zero, Nat.sub_zero] at z
  exact z
end PTOF
/-- what the village's works earn without a tool -/
def eV (s : Nat → Int32) (wo : Int32) : Int32 := Int32.ofNat (bst (abl s wo) (payI s) (s 3).toInt.toNat 0 0).toNat
theorem eV_of {s : Nat → Int32} {wo v : Int32} (h : v.toInt = bst (abl s wo) (payI s) (s 3).toInt.toNat 0 0) : v = eV s wo := i32n (by
  have := bst_0 (ab := abl s wo) (py := payI s) (s 3).toInt.toNat 0 0
  omega)
section PEVV
variable {s : Nat → Int32} {m : xS} {F : Nat}
theorem e19_9 (hF : 100 ≤ F) (I : vI s) {wo : Int32} (R : R32 s (m.1 10)) : ∃ m', D19_50_9 F wo m = some (eV s wo, m') ∧ kBs s wo m' ∧ kEm m m' := by
  obtain ⟨v, m', d1, d2, d3⟩ := c19_9 (F := F) hF I (wo := wo) R
  rw [eV_of d2] at d1
  exact ⟨m', d1, d3⟩
theorem e19_11t (hF : 100 ≤ F) (I : vI s) {wo : Int32} (R : R32 s (m.1 12)) : ∃ m', D19_50_11t F wo m = some (eV s wo, m') ∧ kBs s wo m' ∧ kEm m m' := by
  obtain ⟨v, m', d1, d2, d3⟩ := c19_11t (F := F) hF I (wo := wo) R
  rw [eV_of d2] at d1
  exact ⟨m', d1, d3⟩
theorem e256 (hF : 120000 ≤ F) (I : vI s) {wo : Int32} (es : m.1 80 = s) : ∃ m', D256 F wo m = some (eV s wo, m') ∧ m'.1 70 30 = eV s wo ∧ (∀ w : Nat, (w : Int) < (s 3).toInt → m'.1 83 w = Int32.ofNat ((gro (abl s wo) (payI s) (s 2).toInt.toNat (s 3).toInt.toNat 0 0).getD w 0) - 1) ∧ kmt m m' := by
  obtain ⟨v, m', d1, d2, d3, d4, d5⟩ := r256 (F := F) (v1 := wo) hF I (I_py I) es
  rw [eV_of d2] at d1 d5
  exact ⟨m', d1, d5, d3, d4⟩
end PEVV
