/-! tool, work, house, debt, in pairs. -/
section KQRY
variable {m : xS} {F : Nat} {s : Nat → Int32}
theorem kQ {Dc Dr : xS → Option (Int32 × xS)} {val : (Nat → Int32) → Int32} (C : ∀ m : xS, xT m → R32 (m.1 80) (m.1 10) → vI (m.1 80) → Dc m = some (val (m.1 80), m)) (Rf : ∀ m : xS, vI (m.1 80) → Dr m = some (val (m.1 80), m)) (m : xS) (hT : xT m) (M : rMx m) : xP (Dc m) (fun v1 m1 => ∀ m1', xrw m1 m1' → xT m1' → xP (Dr m1') (fun v2 m2 => (true = true → v1 = v2) ∧ rMx m2)) := by
  refine ⟨_, C m hT M.1.1 M.1.2.1, fun m1' w t1 => ⟨(val (m1'.1 80), m1'), Rf m1' ?_, fun _ => ?_, rMx_w w M⟩⟩
  · rw [w.1 80 0 148 (by decide)]
    exact M.1.2.1
  · show val (m.1 80) = val (m1'.1 80)
    rw [w.1 80 0 148 (by decide)]
def pTl (s : Nat → Int32) (a1 a2 : Int32) : Int32 := if pin s 2 a1 = true then (if 0 ≤ a2.toInt ∧ a2.toInt ≤ 7 then (if a2.toInt < 6 then s (10 + 6 * a1.toInt.toNat + a2.toInt.toNat) else if a2 = 6 then psh s a1.toInt.toNat 0 else prs s a1.toInt.toNat) else -1) else -1
theorem c128 {a1 a2 : Int32} (R : R32 s (m.1 10)) (I : vI s) : D128_0 F a1 a2 m = some (pTl s a1 a2, m) := by
  have nt := I_nt I
  unfold D128_0 pTl
  refine ob (c83_9 R) ?_
  by_cases P1 : pin s 2 a1 = true
  · obtain ⟨t, ht, t2⟩ := pin_n P1
    rw [if_pos P1, tnI ht (by omega)]
    refine oF (zeF P1) ?_
    by_cases l0 : a2.toInt < 0
    · rw [if_neg (show ¬ (0 ≤ a2.toInt ∧ a2.toInt ≤ 7) by omega)]
      exact oT (zcl.trans (decide_eq_true l0)) rfl
    refine oF (zcl.trans (decide_eq_false l0)) ?_
    by_cases l7 : a2.toInt ≤ 7
    · rw [if_pos (show 0 ≤ a2.toInt ∧ a2.toInt ≤ 7 by omega)]
      refine oT (zcle.trans (decide_eq_true l7)) ?_
      by_cases l6 : a2 = 6
      · subst l6
        rw [if_neg (show ¬ (6 : Int32).toInt < 6 by decide), if_pos (show (6 : Int32) = 6 from rfl)]
        exact oF (by decide) (ob (c99_9 R I ht t2) rfl)
      · refine oT (by rw [zcn]; simp [l6]) ?_
        have n6 : a2.toInt ≠ 6 := fun z => l6 (Int32.toInt_inj.mp z)
        by_cases l8 : a2 = 7
        · subst l8
          rw [if_neg (show ¬ (7 : Int32).toInt < 6 by decide), if_neg (show ¬ (7 : Int32) = 6 by decide)]
          exact oF (by decide) (ob (c98_9 R I ht t2) rfl)
        · have n7 : a2.toInt ≠ 7 := fun z => l8 (Int32.toInt_inj.mp z)
          rw [if_pos (show a2.toInt < 6 by omega)]
          exact oT (by rw [zcn]; simp [l8]) (ob (c87_9 R ht (w := a2.toInt.toNat) (i32n (by omega)) (by omega) (by omega)) rfl)
    · rw [if_neg (show ¬ (0 ≤ a2.toInt ∧ a2.toInt ≤ 7) by omega)]
      exact oF (zcle.trans (decide_eq_false l7)) rfl
  · rw [if_neg P1]
    exact oT (zeT (bF P1)) rfl
theorem r217 {a1 a2 : Int32} (I : vI (m.1 80)) : D217 F a1 a2 m = some (pTl (m.1 80) a1 a2, m) := by
  have nt := I_nt I
  unfold D217 pTl
  refine ob r206 ?_
  by_cases P1 : pin (m.1 80) 2 a1 = true
  · obtain ⟨t, ht, t2⟩ := pin_n P1
    rw [if_pos P1, tnI ht (by omega)]
    refine oF (zeF P1) (ob (r158 (x := 0) (y := 7) rfl rfl) ?_)
    by_cases l07 : 0 ≤ a2.toInt ∧ a2.toInt ≤ 7
    · rw [if_pos l07]
      refine oT (znT (by rw [decide_eq_true l07.1, decide_eq_true l07.2]; rfl)) ?_
      by_cases l6 : a2.toInt < 6
      · rw [if_pos l6]
        exact oF (zc.trans (decide_eq_false (by show ¬ (6 : Int) ≤ _; omega))) (ob (r208 ht (w := a2.toInt.toNat) (i32n (by omega)) (by omega) (by omega)) rfl)
      · rw [if_neg l6]
        refine oT (zc.trans (decide_eq_true (by show (6 : Int) ≤ _; omega))) ?_
        by_cases e6 : a2 = 6
        · rw [if_pos e6]
          exact oF (by rw [zcn, e6]; rfl) (ob (r214 ht (by omega)) rfl)
        · rw [if_neg e6]
          exact oT (by rw [zcn]; simp [e6]) (ob (r213 ht (by omega)) rfl)
    · rw [if_neg l07]
      refine oF (znF ?_) rfl
      rw [Bool.and_eq_false_iff, decide_eq_false_iff_not, decide_eq_false_iff_not]
      omega
  · rw [if_neg P1]
    exact oT (zeT (bF P1)) rfl
theorem kq_4 {y1 y2 : Int32} (hT : xT m) (M : rMx m) : xP (D128_0 3000 y1 y2 m) (fun v1 m1 => ∀ m1', xrw m1 m1' → xT m1' → xP (D217 3000 y1 y2 m1') (fun v2 m2 => (true = true → v1 = v2) ∧ rMx m2)) := kQ (val := fun s => pTl s y1 y2) (fun m _ R I => c128 R I) (fun m I => r217 I) m hT M
def pWl (s : Nat → Int32) (a1 a2 : Int32) : Int32 := if pin s 3 a1 = true then (if 0 ≤ a2.toInt ∧ a2.toInt ≤ 5 then (if a2.toInt < 4 then s (124 + 4 * a1.toInt.toNat + a2.toInt.toNat) else if a2 = 4 then s (118 + a1.toInt.toNat) else pB (pcd s a1.toInt.toNat)) else -2) else -2
theorem c129 {a1 a2 : Int32} (hF : 500 ≤ F) (R : R32 s (m.1 10)) (I : vI s) : D129_0 F a1 a2 m = some (pWl s a1 a2, m) := by
  have nw := I_nw I
  unfold D129_0 pWl
  refine ob (c84_9 R) ?_
  by_cases P1 : pin s 3 a1 = true
  · obtain ⟨t, ht, t2⟩ := pin_n P1
    rw [if_pos P1, tnI ht (by omega)]
    refine oF (zeF P1) ?_
    by_cases l0 : a2.toInt < 0
    · rw [if_neg (show ¬ (0 ≤ a2.toInt ∧ a2.toInt ≤ 5) by omega)]
      exact oT (zcl.trans (decide_eq_true l0)) rfl
    refine oF (zcl.trans (decide_eq_false l0)) ?_
    by_cases l5 : a2.toInt ≤ 5
    · rw [if_pos (show 0 ≤ a2.toInt ∧ a2.toInt ≤ 5 by omega)]
      refine oT (zcle.trans (decide_eq_true l5)) ?_
      by_cases e5 : a2 = 5
      · subst e5
        rw [if_neg (show ¬ (5 : Int32).toInt < 4 by decide), if_neg (show ¬ (5 : Int32) = 4 by decide)]
        refine oF (by decide) (ob (c107_9 hF R I ht t2) (oi (p := !pcd s t) pB1 (fun a => ?_) (fun a => ?_)))
        · rw [show pcd s t = false by simpa using a]
          rfl
        · rw [show pcd s t = true by simpa using a]
          rfl
      · have n5 : a2.toInt ≠ 5 := fun z => e5 (Int32.toInt_inj.mp z)
        refine oT (by rw [zcn]; simp [e5]) ?_
        by_cases e4 : a2 = 4
        · subst e4
          rw [if_neg (show ¬ (4 : Int32).toInt < 4 by decide), if_pos (show (4 : Int32) = 4 from rfl)]
          exact ob (c89d_9 R ht (by omega) t2) rfl
        · have n4 : a2.toInt ≠ 4 := fun z => e4 (Int32.toInt_inj.mp z)
          rw [if_pos (show a2.toInt < 4 by omega)]
          exact ob (c89_9 R ht (k := a2.toInt.toNat) (i32n (by omega)) (by omega) (by omega)) rfl
    · rw [if_neg (show ¬ (0 ≤ a2.toInt ∧ a2.toInt ≤ 5) by omega)]
      exact oF (zcle.trans (decide_eq_false l5)) rfl
  · rw [if_neg P1]
    exact oT (zeT (bF P1)) rfl
theorem r218 {a1 a2 : Int32} (hF : 500 ≤ F) (I : vI (m.1 80)) : D218 F a1 a2 m = some (pWl (m.1 80) a1 a2, m) := by
  have nw := I_nw I
  unfold D218 pWl
  refine ob r207 ?_
  by_cases P1 : pin (m.1 80) 3 a1 = true
  · obtain ⟨t, ht, t2⟩ := pin_n P1
    rw [if_pos P1, tnI ht (by omega)]
    refine oF (zeF P1) (ob (r158 (x := 0) (y := 5) rfl rfl) ?_)
    by_cases l05 : 0 ≤ a2.toInt ∧ a2.toInt ≤ 5
    · rw [if_pos l05]
      refine oT (znT (by rw [decide_eq_true l05.1, decide_eq_true l05.2]; rfl)) ?_
      by_cases l4 : a2.toInt < 4
      · rw [if_pos l4]
        exact oF (zc.trans (decide_eq_false (by show ¬ (4 : Int) ≤ _; omega))) (ob (r209 ht (k := a2.toInt.toNat) (i32n (by omega)) (by omega) (by omega)) rfl)
      · rw [if_neg l4]
        refine oT (zc.trans (decide_eq_true (by show (4 : Int) ≤ _; omega))) ?_
        by_cases e4 : a2 = 4
        · rw [if_pos e4]
          refine oF (by rw [zcn, e4]; rfl) ?_
          subst ht
          have i := ix1 (A := 118) (B := 118) (d := t) rfl (by decide) (by omega)
          dsimp only
          rw [gxn i, if_pos (gxb i (by omega))]
        · rw [if_neg e4]
          refine oT (by rw [zcn]; simp [e4]) (ob (r216 hF (I_nt I) ht (by omega)) (oi (p := !pcd (m.1 80) t) pB1 (fun a => ?_) (fun a => ?_)))
          · rw [show pcd (m.1 80) t = false by simpa using a]
            rfl
          · rw [show pcd (m.1 80) t = true by simpa using a]
            rfl
    · rw [if_neg l05]
      refine oF (znF ?_) rfl
      rw [Bool.and_eq_false_iff, decide_eq_false_iff_not, decide_eq_false_iff_not]
      omega
  · rw [if_neg P1]
    exact oT (zeT (bF P1)) rfl
theorem kq_5 {y1 y2 : Int32} (hT : xT m) (M : rMx m) : xP (D129_0 3000 y1 y2 m) (fun v1 m1 => ∀ m1', xrw m1 m1' → xT m1' → xP (D218 3000 y1 y2 m1') (fun v2 m2 => (true = true → v1 = v2) ∧ rMx m2)) := kQ (val := fun s => pWl s y1 y2) (fun m _ R I => c129 (by decide) R I) (fun m I => r218 (by decide) I) m hT M
def pHl (s : Nat → Int32) (a1 a2 a3 : Int32) : Int32 := if (pin s 0 a1 && (pin s 0 a2 && !(a1 == a2))) = true then (if a3 = 0 then pB (ptr s a1.toInt.toNat a2.toInt.toNat) else if a3 = 1 then s (82 + 6 * a1.toInt.toNat + a2.toInt.toNat) else -1) else -1
theorem c130 {a1 a2 a3 : Int32} (hT : xT m) (R : R32 s (m.1 10)) (I : vI s) : D130_0 F a1 a2 a3 m = some (pHl s a1 a2 a3, m) := by
  have n6 := I_n6 I
  unfold D130_0 pHl
  refine ob (c86_9 R) ?_
  by_cases P : (pin s 0 a1 && (pin s 0 a2 && !(a1 == a2))) = true
  · have P0 := P
    simp only [Bool.and_eq_true, Bool.not_eq_true', beq_eq_false_iff_ne] at P0
    obtain ⟨P1, P2, P4⟩ := P0
    obtain ⟨t, ht, t2⟩ := pin_n P1
    obtain ⟨h, hh2, h2⟩ := pin_n P2
    rw [if_pos P, tnI ht (by omega), tnI hh2 (by omega)]
    refine oF (zeF P) ?_
    by_cases l0 : a3.toInt < 0
    · rw [if_neg (show ¬ a3 = 0 from fun z => by rw [z] at l0; exact absurd l0 (by decide)), if_neg (show ¬ a3 = 1 from fun z => by rw [z] at l0; exact absurd l0 (by decide))]
      exact oT (zcl.trans (decide_eq_true l0)) rfl
    refine oF (zcl.trans (decide_eq_false l0)) ?_
    by_cases l1 : a3.toInt ≤ 1
    · refine oT (zcle.trans (decide_eq_true l1)) ?_
      by_cases e0 : a3 = 0
      · rw [if_pos e0]
        refine oF (znz e0) (ob (c92_9 hT R ht hh2 (by omega) (by omega)) (oi (p := !ptr s t h) pB1 (fun a => ?_) (fun a => ?_)))
        · rw [show ptr s t h = false by simpa using a]
          rfl
        · rw [show ptr s t h = true by simpa using a]
          rfl
      · have n0 : a3.toInt ≠ 0 := fun z => e0 (Int32.toInt_inj.mp z)
        have e1 : a3 = 1 := Int32.toInt_inj.mp (by show _ = (1 : Int); omega)
        rw [if_neg e0, if_pos e1]
        exact oT (znn e0) (ob (c94_9 R ht hh2 (by omega) (by omega)) rfl)
    · rw [if_neg (show ¬ a3 = 0 from fun z => l1 (by rw [z]; decide)), if_neg (show ¬ a3 = 1 from fun z => l1 (by rw [z]; decide))]
      exact oF (zcle.trans (decide_eq_false l1)) rfl
  · rw [if_neg P]
    exact oT (zeT (bF P)) rfl
theorem oV {v w : Int32} {o : Option (Int32 × xS)} (hv : w = v) (h : o = some (v, m)) : o = some (w, m) := by
  rw [hv]
  exact h
theorem r219 {a1 a2 a3 : Int32} (I : vI (m.1 80)) : D219 F a1 a2 a3 m = some (pHl (m.1 80) a1 a2 a3, m) := by
  have n6 := I_n6 I
  by_cases P1 : pin (m.1 80) 0 a1 = true
  · obtain ⟨t, ht, t2⟩ := pin_n P1
    by_cases P2 : pin (m.1 80) 0 a2 = true
    · obtain ⟨h, hh2, h2⟩ := pin_n P2
      by_cases P4 : (a1 == a2) = true
      · refine oV (v := -1) (by unfold pHl; rw [P1, P2, P4, if_neg (by decide)]) ?_
        unfold D219
        exact ob r205 (oF (zeF P1) (ob r205 (oF (zeF P2) (oT (zce.trans P4) rfl))))
      · have hv : pHl (m.1 80) a1 a2 a3 = if a3 = 0 then pB (ptr (m.1 80) t h) else if a3 = 1 then m.1 80 (82 + 6 * t + h) else -1 := by
          unfold pHl
          rw [P1, P2, bF P4, if_pos (show (true && (true && !false)) = true from rfl), tnI ht (by omega), tnI hh2 (by omega)]
        by_cases l01 : 0 ≤ a3.toInt ∧ a3.toInt ≤ 1
        · have b01 : (decide (0 ≤ a3.toInt) && decide (a3.toInt ≤ 1)) = true := by rw [decide_eq_true l01.1, decide_eq_true l01.2]; rfl
          by_cases e1 : a3 = 1
          · refine oV (v := m.1 80 (82 + 6 * t + h)) (by rw [hv, e1, if_neg (by decide), if_pos rfl]) ?_
            unfold D219
            exact ob r205 (oF (zeF P1) (ob r205 (oF (zeF P2) (oF (zce.trans (bF P4)) (ob (r158 (x := 0) (y := 1) rfl rfl) (oT (znT b01) (oF (by rw [e1]; decide) (ob (r211 ht hh2 (by omega) (by omega)) rfl))))))))
          · have n1 : a3.toInt ≠ 1 := fun z => e1 (Int32.toInt_inj.mp z)
            have e0 : a3 = 0 := Int32.toInt_inj.mp (by show _ = (0 : Int); omega)
            refine oV (v := pB (ptr (m.1 80) t h)) (by rw [hv, if_pos e0]) ?_
            unfold D219
            refine ob r205 (oF (zeF P1) (ob r205 (oF (zeF P2) (oF (zce.trans (bF P4)) (ob (r158 (x := 0) (y := 1) rfl rfl) (oT (znT b01) (oT (by rw [e0]; decide) (ob (r210 ht hh2 (by omega) (by omega)) ?_))))))))
            refine oi (p := !ptr (m.1 80) t h) pB1 (fun a => ?_) (fun a => ?_)
            · rw [show ptr (m.1 80) t h = false by simpa using a]
              rfl
            · rw [show ptr (m.1 80) t h = true by simpa using a]
              rfl
        · refine oV (v := -1) (by rw [hv, if_neg (fun z => l01 (by rw [z]; decide)), if_neg (fun z => l01 (by rw [z]; decide))]) ?_
          unfold D219
          refine ob r205 (oF (zeF P1) (ob r205 (oF (zeF P2) (oF (zce.trans (bF P4)) (ob (r158 (x := 0) (y := 1) rfl rfl) (oF (znF ?_) rfl))))))
          rw [Bool.and_eq_false_iff, decide_eq_false_iff_not, decide_eq_false_iff_not]
          omega
    · refine oV (v := -1) (by unfold pHl; rw [bF P2, Bool.false_and, Bool.and_false, if_neg (by decide)]) ?_
      unfold D219
      exact ob r205 (oF (zeF P1) (ob r205 (oT (zeT (bF P2)) rfl)))
  · refine oV (v := -1) (by unfold pHl; rw [bF P1, Bool.false_and, if_neg (by decide)]) ?_
    unfold D219
    exact ob r205 (oT (zeT (bF P1)) rfl)
theorem kq_6 {y1 y2 y3 : Int32} (hT : xT m) (M : rMx m) : xP (D130_0 3000 y1 y2 y3 m) (fun v1 m1 => ∀ m1', xrw m1 m1' → xT m1' → xP (D219 3000 y1 y2 y3 m1') (fun v2 m2 => (true = true → v1 = v2) ∧ rMx m2)) := kQ (val := fun s => pHl s y1 y2 y3) (fun m hT R I => c130 hT R I) (fun m I => r219 I) m hT M
/-- debt -/
def pdb (s : Nat → Int32) (a : Nat) : Nat → Nat → Int32 → Int32
  | _, 0, v => v
  | d, n + 1, v => pdb s a (d + 1) n (v + (s (82 + 6 * a + d) - s (82 + 6 * d + a)))
def pDb (s : Nat → Int32) (a1 : Int32) : Int32 := if pin s 0 a1 = true then pdb s a1.toInt.toNat 0 (s 0).toInt.toNat 0 else -1000
theorem c95_9_4 (R : R32 s (m.1 10)) (I : vI s) {a : Nat} {v1 : Int32} (h1 : v1 = Int32.ofNat a) (ha : a < 6) : ∀ (f : Nat) {d : Nat} {v : Int32}, (d : Int) ≤ (s 0).toInt → 6 - d < f → 0 ≤ (s 0).toInt → D95_9_4 F f v1 v (Int32.ofNat d) m = some (pdb s a d ((s 0).toInt.toNat - d) v, m) := by
  have n6 := I_n6 I
  intro f
  induction f with
  | zero => intro d v _ l; omega
  | succ f ih =>
    intro d v hd l n0
    have ed := nJ (n := d) (by omega)
    unfold D95_9_4
    refine ob (c77_9 R) (oi (p := decide ((s 0).toInt ≤ (Int32.ofNat d).toInt)) zc (fun h => ?_) (fun h => ?_))
    · have h := of_decide_eq_true h
      rw [show (s 0).toInt.toNat - d = 0 by omega]
      rfl
    · have h := of_decide_eq_false h
      rw [show (s 0).toInt.toNat - d = ((s 0).toInt.toNat - (d + 1)) + 1 by omega]
      refine ob (c94_9 R h1 rfl ha (by omega)) (ob (c94_9 R rfl h1 (by omega) ha) ?_)
      rw [show Int32.ofNat d + Int32.ofInt 1 = Int32.ofNat (d + 1) from xadd (a := d) (b := 1) (by omega)]
      exact ih (by omega) (by omega) n0
theorem c147 {a1 : Int32} (hF : 500 ≤ F) (R : R32 s (m.1 10)) (I : vI s) : D147_0 F a1 m = some (pDb s a1, m) := by
  have n6 := I_n6 I
  unfold D147_0 pDb
  refine ob (c85_9 R) ?_
  by_cases P1 : pin s 0 a1 = true
  · obtain ⟨t, ht, t2⟩ := pin_n P1
    rw [if_pos P1, tnI ht (by omega)]
    have z := c95_9_4 (F := F) R I ht (by omega) F (d := 0) (v := 0) (by omega) (by omega) (by omega)
    rw [Nat.sub_zero] at z
    refine oF (zeF P1) (ob (a := pdb s t 0 (s 0).toInt.toNat 0) (m := m) ?_ rfl)
    unfold D95_9
    exact z
  · rw [if_neg P1]
    exact oT (zeT (bF P1)) rfl
theorem r265_16 (I : vI (m.1 80)) {a : Nat} {v1 : Int32} (h1 : v1 = Int32.ofNat a) (ha : a < 6) : ∀ (f : Nat) {d : Nat} {v : Int32}, (d : Int) ≤ (m.1 80 0).toInt → 6 - d < f → 0 ≤ (m.1 80 0).toInt → D265_16 F f v1 v (Int32.ofNat d) m = some (pdb (m.1 80) a d ((m.1 80 0).toInt.toNat - d) v, m) := by
  have n6 := I_n6 I
  intro f
  induction f with
  | zero => intro d v _ l; omega
  | succ f ih =>
    intro d v hd l n0
    have ed := nJ (n := d) (by omega)
    unfold D265_16
    refine oi (p := decide ((m.1 80 0).toInt ≤ (Int32.ofNat d).toInt)) zc (fun h => ?_) (fun h => ?_)
    · have h := of_decide_eq_true h
      rw [show (m.1 80 0).toInt.toNat - d = 0 by omega]
      rfl
    · have h := of_decide_eq_false h
      rw [show (m.1 80 0).toInt.toNat - d = ((m.1 80 0).toInt.toNat - (d + 1)) + 1 by omega]
      refine ob (r211 h1 rfl ha (by omega)) (ob (r211 rfl h1 (by omega) ha) ?_)
      rw [show Int32.ofNat d + Int32.ofInt 1 = Int32.ofNat (d + 1) from xadd (a := d) (b := 1) (by omega)]
      exact ih (by omega) (by omega) n0
theorem r265 {a1 : Int32} (hF : 500 ≤ F) (I : vI (m.1 80)) : D265 F a1 m = some (pDb (m.1 80) a1, m) := by
  have n6 := I_n6 I
  unfold D265 pDb
  refine ob r205 ?_
  by_cases P1 : pin (m.1 80) 0 a1 = true
  · obtain ⟨t, ht, t2⟩ := pin_n P1
    rw [if_pos P1, tnI ht (by omega)]
    have z := r265_16 (F := F) I ht (by omega) F (d := 0) (v := 0) (by omega) (by omega) (by omega)
    rw [Nat.sub_zero] at z
    exact oT (znT P1) z
  · rw [if_neg P1]
    exact oF (znF (bF P1)) rfl
theorem kq_22 {y1 : Int32} (hT : xT m) (M : rMx m) : xP (D147_0 3000 y1 m) (fun v1 m1 => ∀ m1', xrw m1 m1' → xT m1' → xP (D265 3000 y1 m1') (fun v2 m2 => (true = true → v1 = v2) ∧ rMx m2)) := kQ (val := fun s => pDb s y1) (fun m hT R I => c147 (by decide) R I) (fun m I => r265 (by decide) I) m hT M
end KQRY
