/-! match and worth, as pairs. -/
section PMPR
variable {s : Nat → Int32} {m : xS} {F : Nat}
theorem vMatch (hF : 120000 ≤ F) {y1 : Int32} (es : m.1 80 = s) (R : R32 s (m.1 10)) (I : vI s) : ∃ v m1, D142_0 F y1 m = some (v, m1) ∧ m1.1 80 = m.1 80 ∧ ∀ m2 : xS, m2.1 80 = s → ∃ m3, D257 F y1 m2 = some (v, m3) := by
  have l0 : (0 : Int32).toInt = 0 := rfl
  have l6 : (6 : Int32).toInt = 6 := rfl
  have l1 : (1 : Int32).toInt = 1 := rfl
  have n3 := I_nw I
  unfold D142_0 D257
  by_cases a : 0 < (s 0).toInt
  rotate_left
  · exact ⟨-3, m, ob (c76_9 R) (oT (zeT (decide_eq_false a)) rfl), rfl, fun m2 e2 => ⟨m2, ob r204 (oT (zeT (by rw [e2]; exact decide_eq_false a)) rfl)⟩⟩
  have g0 : zcmp .eq (pB (decide (0 < (s 0).toInt))) 0 = false := zeF (decide_eq_true a)
  by_cases b : 0 ≤ y1.toInt ∧ y1.toInt ≤ 6
  rotate_left
  · refine ⟨-3, m, ob (c76_9 R) (oF g0 ?_), rfl, fun m2 e2 => ⟨m2, ob r204 (oF (zeF (by rw [e2]; exact decide_eq_true a)) (ob (r158 (x := 0) (y := 6) rfl rfl) (oF (znF ?_) rfl)))⟩⟩
    · by_cases q : y1.toInt < 0
      · exact oT (zcl.trans (decide_eq_true (by omega))) rfl
      · exact oF (zcl.trans (decide_eq_false (by omega))) (oF (zcle.trans (decide_eq_false (by omega))) rfl)
    · rw [← Bool.not_eq_true, Bool.and_eq_true, decide_eq_true_eq, decide_eq_true_eq]
      exact b
  have f1 : zcmp .lt y1 0 = false := zcl.trans (decide_eq_false (by omega))
  have f2 : zcmp .le y1 6 = true := zcle.trans (decide_eq_true (by omega))
  have f3 : zcmp .ne (pB (decide (0 ≤ y1.toInt) && decide (y1.toInt ≤ 6))) 0 = true := znT (by rw [decide_eq_true b.1, decide_eq_true b.2]; rfl)
  obtain ⟨v, ev⟩ : ∃ v : Nat, y1.toInt = (v : Int) := ⟨y1.toInt.toNat, by omega⟩
  by_cases c : y1.toInt ≤ (s 3).toInt
  · obtain ⟨m1, d1, d2, d3⟩ := e19_9 (F := F) (m := m) (by omega) I (wo := -1) R
    have f4 : zcmp .le y1 (s 3) = true := zcle.trans (decide_eq_true c)
    have k1 : m1.1 80 = m.1 80 := d3.1 80 (by omega)
    by_cases z : v = 0
    · have f5 : zcmp .ne y1 0 = false := (zcni (y := 0) rfl).trans (by rw [decide_eq_true (by omega)]; rfl)
      refine ⟨eV s (-1), m1, ob (c76_9 R) (oF g0 (oF f1 (oT f2 (ob (c80_9 R) (oT f4 (ob d1 (oF f5 rfl))))))), k1, fun m2 e2 => ?_⟩
      obtain ⟨m3, w1, w2, w3, w4⟩ := e256 (F := F) (m := m2) hF I (wo := -1) e2
      refine ⟨m3, ob r204 (oF (zeF (by rw [e2]; exact decide_eq_true a)) (ob (r158 (x := 0) (y := 6) rfl rfl) (oT f3 (ob w1 (oF f5 ?_)))))⟩
      dsimp only
      rw [w2]
    · obtain ⟨u, eu⟩ : ∃ u : Nat, v = u + 1 := ⟨v - 1, by omega⟩
      subst eu
      have f5 : zcmp .ne y1 0 = true := (zcni (y := 0) rfl).trans (by rw [decide_eq_false (by omega)]; rfl)
      have em : (y1 - 1).toInt = (u : Int) := by
        have z := xs1 (x := y1) (y := 1) (by omega) (by omega)
        omega
      have e5 : y1 - 1 = Int32.ofNat u := i32n em
      have q := c23 (F := F) (m := m1) (by omega) I d2 (v := u) (by omega)
      rw [← e5] at q
      refine ⟨_, m1, ob (c76_9 R) (oF g0 (oF f1 (oT f2 (ob (c80_9 R) (oT f4 (ob d1 (oT f5 (ob q rfl)))))))), k1, fun m2 e2 => ?_⟩
      obtain ⟨m3, w1, w2, w3, w4⟩ := e256 (F := F) (m := m2) hF I (wo := -1) e2
      refine ⟨m3, ob r204 (oF (zeF (by rw [e2]; exact decide_eq_true a)) (ob (r158 (x := 0) (y := 6) rfl rfl) (oT f3 (ob w1 (oT f5 ?_)))))⟩
      dsimp only
      rw [kmt_80 w4 e2]
      refine oT f4 (oT (gxb em (by omega)) ?_)
      rw [gxn em, w3 u (by omega)]
  · have f4 : zcmp .le y1 (s 3) = false := zcle.trans (decide_eq_false c)
    have f5 : zcmp .ne y1 0 = true := (zcni (y := 0) rfl).trans (by rw [decide_eq_false (by omega)]; rfl)
    refine ⟨-2, m, ob (c76_9 R) (oF g0 (oF f1 (oT f2 (ob (c80_9 R) (oF f4 rfl))))), rfl, fun m2 e2 => ?_⟩
    obtain ⟨m3, w1, w2, w3, w4⟩ := e256 (F := F) (m := m2) hF I (wo := -1) e2
    refine ⟨m3, ob r204 (oF (zeF (by rw [e2]; exact decide_eq_true a)) (ob (r158 (x := 0) (y := 6) rfl rfl) (oT f3 (ob w1 (oT f5 ?_)))))⟩
    dsimp only
    rw [kmt_80 w4 e2]
    exact oF f4 rfl
theorem vWorth (hF : 120000 ≤ F) {y1 : Int32} (es : m.1 80 = s) (R : R32 s (m.1 10)) (I : vI s) : ∃ v m1, D143_0 F y1 m = some (v, m1) ∧ m1.1 80 = m.1 80 ∧ ∀ m2 : xS, m2.1 80 = s → ∃ m3, D258 F y1 m2 = some (v, m3) := by
  unfold D143_0 D258
  cases c : pin s 2 y1 with
  | false =>
    exact ⟨-1, m, ob (c83_9 R) (oF (znF c) rfl), rfl, fun m2 e2 => ⟨m2, ob r206 (oT (zeT (by rw [e2]; exact c)) rfl)⟩⟩
  | true =>
    obtain ⟨m1, d1, d2, d3⟩ := e19_9 (F := F) (m := m) (by omega) I (wo := -1) R
    obtain ⟨m2, z1, z2, z3⟩ := e19_9 (F := F) (m := m1) (by omega) I (wo := y1) (by rw [d3.1 10 (by omega)]; exact R)
    refine ⟨eV s (-1) - eV s y1, m2, ob (c83_9 R) (oT (znT c) (ob d1 (ob z1 rfl))), (z3.1 80 (by omega)).trans (d3.1 80 (by omega)), fun m2 e2 => ?_⟩
    obtain ⟨m3, w1, w2, w3, w4⟩ := e256 (F := F) (m := m2) hF I (wo := -1) e2
    obtain ⟨m4, x1, x2, x3, x4⟩ := e256 (F := F) (m := m3) hF I (wo := y1) (kmt_80 w4 e2)
    exact ⟨m4, ob r206 (oF (zeF (by rw [e2]; exact c)) (ob w1 (ob x1 rfl)))⟩
end PMPR
theorem nMatch {y1 : Int32} : lP MR 142 257 [.int y1] true := eC (as := [y1].map .int) M17 (Dc := D142_0 200000 y1) (Dr := D257 200000 y1) (fun {_} H {_} h => Z142_0 H h (by decide)) (fun {_} H {_} h => Z257 H h (by decide)) (eH2 (yt1241 yXx.1) (na := 1) (bl := []) (by decide +kernel) [y1] rfl (fun s hs => by cases hs)) (fun m R I => vMatch (F := 200000) (by decide) rfl R I.1)
theorem nWorth {y1 : Int32} : lP MR 143 258 [.int y1] true := eC (as := [y1].map .int) M18 (Dc := D143_0 200000 y1) (Dr := D258 200000 y1) (fun {_} H {_} h => Z143_0 H h (by decide)) (fun {_} H {_} h => Z258 H h (by decide)) (eH2 (yt1233 yXx.1) (na := 1) (bl := []) (by decide +kernel) [y1] rfl (fun s hs => by cases hs)) (fun m R I => vWorth (F := 200000) (by decide) rfl R I.1)
