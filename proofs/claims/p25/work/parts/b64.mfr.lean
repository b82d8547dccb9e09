/-! The class's matching: the most from a work on. -/
section PMFR
variable {s : Nat → Int32} {m : xS} {F : Nat}
theorem c20_26 {w T : Nat} (w6 : w < 6) (hT : T < 64) {y : Int32} {g : Nat → Bool} (hy : ∀ d, d < 6 → tbt y d = g d) {v : Nat → Int} (hv : ∀ u, u < 6 → g u = true → (m.1 58 w + m.1 (60 + (w + 1)) (T ||| 2 ^ u)).toInt = v u) : ∀ (f : Nat) {u : Nat} {x : Int32}, u ≤ 6 → 6 - u < f → ∃ z, D20_50_26 F f (Int32.ofNat w) (Int32.ofNat T) x y (Int32.ofNat u) m = some (z, m) ∧ z.toInt = bsT g v u (6 - u) x.toInt := by
  have ew := nJ (n := w) (by omega)
  have ew1 := nJ (n := w + 1) (by omega)
  have l6 : (6 : Int32).toInt = 6 := rfl
  have e1 : Int32.ofNat w + 1 = Int32.ofNat (w + 1) := xadd (a := w) (b := 1) (by omega)
  intro f
  induction f with
  | zero => intro u x _ l; omega
  | succ f ih =>
    intro u x hu l
    have eu := nJ (n := u) (by omega)
    unfold D20_50_26
    by_cases q : 6 ≤ u
    · rw [show 6 - u = 0 by omega]
      exact ⟨x, oT (zc.trans (decide_eq_true (by omega))) rfl, rfl⟩
    · rw [show 6 - u = (6 - (u + 1)) + 1 by omega]
      have u6 : u < 6 := by omega
      have g0 : zcmp .ge (Int32.ofNat u) 6 = false := zc.trans (decide_eq_false (by omega))
      have t := tbu (x := y) u6
      rw [hy u u6] at t
      show ∃ z : Int32, _ ∧ z.toInt = bsT g v (u + 1) (6 - (u + 1)) (if g u = true then (if x.toInt < v u then v u else x.toInt) else x.toInt)
      by_cases c : g u = true
      · rw [c] at t
        obtain ⟨b1, b2⟩ := bor hT u6
        have eb := nJ (n := T ||| 2 ^ u) (by omega)
        obtain ⟨z, d1, d2⟩ := ih (u := u + 1) (x := if x < m.1 58 w + m.1 (60 + (w + 1)) (T ||| 2 ^ u) then m.1 58 w + m.1 (60 + (w + 1)) (T ||| 2 ^ u) else x) (by omega) (by omega)
        rw [mx32, hv u u6 c] at d2
        rw [if_pos c]
        refine ⟨z, oF g0 (oF t ?_), d2⟩
        rw [e1, b1, if_pos (gxb ew w6), if_pos (gxb ew1 (by omega)), if_pos (gxb eb b2), gxn ew, gxn ew1, gxn eb]
        unfold D20_50_70
        rw [(o1 (n := u) (by omega)).2.2]
        exact d1
      · rw [show g u = false by simpa using c] at t
        obtain ⟨z, d1, d2⟩ := ih (u := u + 1) (x := x) (by omega) (by omega)
        rw [if_neg c]
        refine ⟨z, oF g0 (oT t ?_), d2⟩
        unfold D20_50_70
        rw [(o1 (n := u) (by omega)).2.2]
        exact d1
/-- mostFrom -/
theorem c20 (hF : 100 ≤ F) {wo : Int32} {w T k n : Nat} (w6 : w < 6) (n6 : n ≤ 6) (hn : ∀ t, abl s wo w t = true → t < n) (hT : T < 2 ^ n) (h57 : m.1 57 w = Int32.ofNat (abB s wo w n)) (h58 : (m.1 58 w).toInt = payI s w) (hp : 0 ≤ payI s w ∧ payI s w ≤ 1000) (hb : ∀ X, X < 2 ^ n → (m.1 (60 + (w + 1)) X).toInt = bst (abl s wo) (payI s) k (w + 1) X ∧ bst (abl s wo) (payI s) k (w + 1) X ≤ 6000) : ∃ z, D20_50 F (Int32.ofNat w) (Int32.ofNat T) m = some (z, m) ∧ z.toInt = bst (abl s wo) (payI s) (k + 1) w T := by
  have h64 : (2 : Nat) ^ n ≤ 64 := Nat.pow_le_pow_right (n := 2) (by decide) n6
  have ew := nJ (n := w) (by omega)
  have ew1 := nJ (n := w + 1) (by omega)
  have eT := nJ (n := T) (by omega)
  have e1 : Int32.ofNat w + 1 = Int32.ofNat (w + 1) := xadd (a := w) (b := 1) (by omega)
  have bb := abB_b (s := s) (wo := wo) (w := w) n6
  obtain ⟨z, d1, d2⟩ := c20_26 (F := F) (m := m) (w := w) (T := T) w6 (by omega) (y := Int32.ofNat (abB s wo w n) &&& (Int32.ofNat T ^^^ (-1))) (g := fun t => abl s wo w t && !T.testBit t) (fun d hd => by
    rw [tb_and, tb_xor, tb_nat bb hd, tb_nat (by omega) hd, tb_m1 hd, Bool.xor_true]
    show ((abB s wo w n).testBit d && !T.testBit d) = (abl s wo w d && !T.testBit d)
    have e : (abB s wo w n).testBit d = abl s wo w d := Bool.eq_iff_iff.mpr (abB_t.trans ⟨fun h => h.2, fun h => ⟨hn d h, h⟩⟩)
    rw [e]) (v := fun t => payI s w + bst (abl s wo) (payI s) k (w + 1) (T ||| 2 ^ t)) (fun u hu hg => by
    have hg : (abl s wo w u && !T.testBit u) = true := hg
    rw [Bool.and_eq_true] at hg
    have un := hn u hg.1
    obtain ⟨b1, b2⟩ := hb (T ||| 2 ^ u) (Nat.or_lt_two_pow hT (Nat.pow_lt_pow_right (by decide) un))
    have b0 := bst_0 (ab := abl s wo) (py := payI s) k (w + 1) (T ||| 2 ^ u)
    rw [xa1 (by rw [h58, b1]; omega) (by rw [h58, b1]; omega), h58, b1]) F (u := 0) (x := m.1 (60 + (w + 1)) T) (by omega) (by omega)
  rw [(hb T hT).1] at d2
  refine ⟨z, ?_, d2⟩
  unfold D20_50
  rw [e1, if_pos (gxb ew1 (by omega)), if_pos (gxb eT (by omega)), if_pos (gxb ew w6), gxn ew1, gxn eT, gxn ew, h57]
  exact d1
end PMFR
