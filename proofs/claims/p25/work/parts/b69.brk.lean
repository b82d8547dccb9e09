/-! breaks, as a pair. -/
section PBRK
variable {s : Nat → Int32} {m : xS} {F : Nat}
theorem c93u (R : R32 s (m.1 10)) {a d : Nat} {v1 v2 : Int32} (h1 : v1 = Int32.ofNat a) (h2 : v2 = Int32.ofNat d) (ha : a < 6) (hd : d < 6) : D93_9 F v1 v2 m = some (pB (ptr s a d || ptr s d a), m) := by
  unfold D93_9 D93_9_18
  refine ob (c92u R h1 h2 ha hd) (oi (p := ptr s a d) pB2 (fun b => ?_) (fun b => ?_))
  · rw [b, Bool.true_or]
    rfl
  rw [b, Bool.false_or]
  refine ob (c92u R h2 h1 hd ha) (oi (p := !ptr s d a) pB1 (fun c => ?_) (fun c => ?_))
  · rw [show ptr s d a = false by simpa using c]
    rfl
  · rw [show ptr s d a = true by simpa using c]
    rfl
/-- what stands after one more pair -/
def bkq (s : Nat → Int32) (a d : Nat) (q : Int32 × Int32 × Int32) : Int32 × Int32 × Int32 := if (ptr s a d || ptr s d a) = true then (if q.1.toInt < 0 ∨ (eV (pqu s a d) (-1)).toInt < q.2.2.toInt then (Int32.ofNat a, Int32.ofNat d, eV (pqu s a d) (-1)) else q) else q
theorem bk1_s {a d n : Nat} {q : Int32 × Int32 × Int32} : bk1 s a d (n + 1) q = bk1 s a (d + 1) n (bkq s a d q) := rfl
theorem c145_51 (hF : 500 ≤ F) (I : vI s) {a : Nat} (ha : (a : Int) < (s 0).toInt) {v1 : Int32} {g33 : Int32 → Int32 → Int32 → Int32 → Int32 → xS → Option (Int32 × xS)} : ∀ (f : Nat) {m : xS} {d : Nat} {q : Int32 × Int32 × Int32}, R32 s (m.1 10) → a < d → (d : Int) ≤ (s 0).toInt → 7 - d < f → ∃ m', D145_0_51 F g33 f v1 q.1 q.2.1 q.2.2 (Int32.ofNat a) (Int32.ofNat d) m = g33 v1 (bk1 s a d ((s 0).toInt.toNat - d) q).1 (bk1 s a d ((s 0).toInt.toNat - d) q).2.1 (bk1 s a d ((s 0).toInt.toNat - d) q).2.2 (Int32.ofNat (a + 1)) m' ∧ kOm m m' := by
  have n6 := I_n6 I
  have l0 : (0 : Int32).toInt = 0 := rfl
  have a6 : a < 6 := by omega
  intro f
  induction f with
  | zero => intro m d q _ _ _ l; omega
  | succ f ih =>
    intro m d q R ad hd l
    have ed := nJ (n := d) (by omega)
    have r77 := c77_9 (F := F) R
    unfold D145_0_51
    by_cases z : (s 0).toInt ≤ (d : Int)
    · rw [show (s 0).toInt.toNat - d = 0 by omega]
      refine ⟨m, ob r77 (oT (zc.trans (decide_eq_true (by dsimp only; omega))) ?_), kOm_r m⟩
      rw [(o1 (n := a) (by omega)).2.2]
      rfl
    · rw [show (s 0).toInt.toNat - d = ((s 0).toInt.toNat - (d + 1)) + 1 by omega, bk1_s]
      have g : zcmp .ge (Int32.ofNat d) (s 0) = false := zc.trans (decide_eq_false (by omega))
      have d6 : d < 6 := by omega
      have r93 := c93u (F := F) R (a := a) (d := d) rfl rfl a6 d6
      have nx : ∀ {m2 : xS} (q' : Int32 × Int32 × Int32), R32 s (m2.1 10) → kOm m m2 → ∃ m', D145_0_134 F g33 (D145_0_51 F g33 f) v1 q'.1 q'.2.1 q'.2.2 (Int32.ofNat a) (Int32.ofNat d) m2 = g33 v1 (bk1 s a (d + 1) ((s 0).toInt.toNat - (d + 1)) q').1 (bk1 s a (d + 1) ((s 0).toInt.toNat - (d + 1)) q').2.1 (bk1 s a (d + 1) ((s 0).toInt.toNat - (d + 1)) q').2.2 (Int32.ofNat (a + 1)) m' ∧ kOm m m' := fun {m2} q' k1 k2 => by
        obtain ⟨m', d1, d2⟩ := ih (m := m2) (d := d + 1) (q := q') k1 (by omega) (by omega) (by omega)
        refine ⟨m', ?_, kOm_t k2 d2⟩
        unfold D145_0_134
        rw [(o1 (n := d) (by omega)).2.2]
        exact d1
      cases c : (ptr s a d || ptr s d a) with
      | false =>
        have e : bkq s a d q = q := by
          unfold bkq
          rw [c, if_neg (show ¬ (false = true) by decide)]
        rw [e]
        obtain ⟨m', d1, d2⟩ := nx (m2 := m) q R (kOm_r m)
        exact ⟨m', ob r77 (oF g (ob r93 (oT (zeT c) d1))), d2⟩
      | true =>
        have R0 : R32 s ((xcp m 12 10 114).1 12) := R_c R (fun _ _ => rfl) (fun j hj => xcp_s hj)
        obtain ⟨c', y1, y2⟩ := a105j (F := F) (m := xcp m 12 10 114) R0 (a := a) (d := d) rfl rfl a6 d6 (by omega)
        have J := I_qu I a6 d6
        obtain ⟨m2, z1, -, z3⟩ := e19_11t (s := pqu s a d) (F := F) (m := xr (xcp m 12 10 114) 12 c') (by omega) J (wo := -1) (by rw [xr_s]; exact y2)
        have k2 : kOm m m2 := ⟨fun i x y => (z3.1 i y).trans ((xr_o x).trans (xcp_o x)), z3.2⟩
        have R2 : R32 s (m2.1 10) := by rw [k2.1 10 (by decide) (by decide)]; exact R
        have n124 : ∃ m', D145_0_124 F g33 (D145_0_51 F g33 f) v1 q.1 q.2.1 q.2.2 (Int32.ofNat a) (Int32.ofNat d) (eV (pqu s a d) (-1)) m2 = g33 v1 (bk1 s a (d + 1) ((s 0).toInt.toNat - (d + 1)) (Int32.ofNat a, Int32.ofNat d, eV (pqu s a d) (-1))).1 (bk1 s a (d + 1) ((s 0).toInt.toNat - (d + 1)) (Int32.ofNat a, Int32.ofNat d, eV (pqu s a d) (-1))).2.1 (bk1 s a (d + 1) ((s 0).toInt.toNat - (d + 1)) (Int32.ofNat a, Int32.ofNat d, eV (pqu s a d) (-1))).2.2 (Int32.ofNat (a + 1)) m' ∧ kOm m m' := by
          unfold D145_0_124
          exact nx (m2 := m2) (Int32.ofNat a, Int32.ofNat d, eV (pqu s a d) (-1)) R2 k2
        by_cases lt : q.1.toInt < 0
        · have e : bkq s a d q = (Int32.ofNat a, Int32.ofNat d, eV (pqu s a d) (-1)) := by
            unfold bkq
            rw [c, if_pos (show true = true from rfl), if_pos (Or.inl lt)]
          rw [e]
          obtain ⟨m', d1, d2⟩ := n124
          exact ⟨m', ob r77 (oF g (ob r93 (oF (zeF c) (ob (a := ()) (m := xcp m 12 10 114) rfl (ob y1 (ob z1 (oT (zcl.trans (decide_eq_true (by omega))) d1))))))), d2⟩
        · by_cases le : (eV (pqu s a d) (-1)).toInt < q.2.2.toInt
          · have e : bkq s a d q = (Int32.ofNat a, Int32.ofNat d, eV (pqu s a d) (-1)) := by
              unfold bkq
              rw [c, if_pos (show true = true from rfl), if_pos (Or.inr le)]
            rw [e]
            obtain ⟨m', d1, d2⟩ := n124
            exact ⟨m', ob r77 (oF g (ob r93 (oF (zeF c) (ob (a := ()) (m := xcp m 12 10 114) rfl (ob y1 (ob z1 (oF (zcl.trans (decide_eq_false (by omega))) (oF (zc.trans (decide_eq_false (by dsimp only; omega))) d1)))))))), d2⟩
          · have e : bkq s a d q = q := by
              unfold bkq
              rw [c, if_pos (show true = true from rfl), if_neg (fun z => z.elim lt le)]
            rw [e]
            obtain ⟨m', d1, d2⟩ := nx (m2 := m2) q R2 k2
            exact ⟨m', ob r77 (oF g (ob r93 (oF (zeF c) (ob (a := ()) (m := xcp m 12 10 114) rfl (ob y1 (ob z1 (oF (zcl.trans (decide_eq_false (by omega))) (oT (zc.trans (decide_eq_true (by dsimp only; omega))) d1)))))))), d2⟩
/-- what is said in the end -/
def bkr (s : Nat → Int32) (v1 : Int32) (q : Int32 × Int32 × Int32) : Int32 := if v1.toInt < 2 ∨ q.1.toInt < 0 then (if v1 = 0 then q.1 else q.2.1) else eV s (-1) - q.2.2
theorem c145_33 (hF : 500 ≤ F) (I : vI s) {v1 : Int32} : ∀ (f : Nat) {m : xS} {a : Nat} {q : Int32 × Int32 × Int32}, R32 s (m.1 10) → (a : Int) ≤ (s 0).toInt → 7 - a < f → ∃ m', D145_0_33 F f v1 q.1 q.2.1 q.2.2 (Int32.ofNat a) m = some (bkr s v1 (bko s (s 0).toInt.toNat a ((s 0).toInt.toNat - a) q), m') ∧ kOm m m' := by
  have n6 := I_n6 I
  have l0 : (0 : Int32).toInt = 0 := rfl
  have l2 : (2 : Int32).toInt = 2 := rfl
  intro f
  induction f with
  | zero => intro m a q _ _ l; omega
  | succ f ih =>
    intro m a q R ha l
    have ea := nJ (n := a) (by omega)
    have r77 := c77_9 (F := F) R
    unfold D145_0_33
    by_cases z : (s 0).toInt ≤ (a : Int)
    · rw [show (s 0).toInt.toNat - a = 0 by omega]
      have g : zcmp .ge (Int32.ofNat a) (s 0) = true := zc.trans (decide_eq_true (by omega))
      show ∃ m', _ = some (bkr s v1 q, m') ∧ _
      have n155 : ∀ {m2 : xS}, (v1.toInt < 2 ∨ q.1.toInt < 0) → D145_0_155 F v1 q.1 q.2.1 q.2.2 (Int32.ofNat a) m2 = some (bkr s v1 q, m2) := fun {m2} h => by
        unfold D145_0_155 bkr
        rw [if_pos h]
        by_cases w : v1 = 0
        · rw [if_pos w]
          exact oF (by rw [zcn, w]; rfl) rfl
        · rw [if_neg w]
          exact oT (by rw [zcn, beq_eq_false_iff_ne.mpr w]; rfl) rfl
      by_cases c1 : v1.toInt < 2
      · exact ⟨m, ob r77 (oT g (oT (zcl.trans (decide_eq_true (by omega))) (n155 (Or.inl c1)))), kOm_r m⟩
      · by_cases c2 : q.1.toInt < 0
        · exact ⟨m, ob r77 (oT g (oF (zcl.trans (decide_eq_false (by omega))) (oF (zc.trans (decide_eq_false (by omega))) (n155 (Or.inr c2))))), kOm_r m⟩
        · obtain ⟨m2, z1, -, z3⟩ := e19_9 (F := F) (m := m) (by omega) I (wo := -1) R
          refine ⟨m2, ob r77 (oT g (oF (zcl.trans (decide_eq_false (by omega))) (oT (zc.trans (decide_eq_true (by omega))) (ob z1 ?_)))), kOm_E z3⟩
          unfold bkr
          rw [if_neg (fun z => z.elim c1 c2)]
    · have g : zcmp .ge (Int32.ofNat a) (s 0) = false := zc.trans (decide_eq_false (by omega))
      rw [show (s 0).toInt.toNat - a = ((s 0).toInt.toNat - (a + 1)) + 1 by omega]
      obtain ⟨m1, y1, y2⟩ := c145_51 (F := F) hF I (a := a) (by omega) (v1 := v1) (g33 := D145_0_33 F f) F (m := m) (d := a + 1) (q := q) R (by omega) (by omega) (by omega)
      obtain ⟨m', d1, d2⟩ := ih (m := m1) (a := a + 1) (q := bk1 s a (a + 1) ((s 0).toInt.toNat - (a + 1)) q) (by rw [y2.1 10 (by decide) (by decide)]; exact R) (by omega) (by omega)
      refine ⟨m', ob r77 (oF g ?_), kOm_t y2 d2⟩
      dsimp only
      rw [show Int32.ofNat a + 1 = Int32.ofNat (a + 1) from xadd (a := a) (b := 1) (by omega)]
      exact y1.trans d1
/-- the reference -/
theorem r262_57 (hF : 120000 ≤ F) (I : vI s) {a : Nat} (ha : (a : Int) < (s 0).toInt) {v1 v2 : Int32} {g40 : Int32 → Int32 → Int32 → Int32 → Int32 → Int32 → xS → Option (Int32 × xS)} : ∀ (f : Nat) {m : xS} {d : Nat} {q : Int32 × Int32 × Int32}, m.1 80 = s → a < d → (d : Int) ≤ (s 0).toInt → 7 - d < f → ∃ m', D262_57 F g40 f v1 v2 q.1 q.2.1 q.2.2 (Int32.ofNat a) (Int32.ofNat d) m = g40 v1 v2 (bk1 s a d ((s 0).toInt.toNat - d) q).1 (bk1 s a d ((s 0).toInt.toNat - d) q).2.1 (bk1 s a d ((s 0).toInt.toNat - d) q).2.2 (Int32.ofNat (a + 1)) m' ∧ m'.1 80 = s := by
  have n6 := I_n6 I
  have l0 : (0 : Int32).toInt = 0 := rfl
  have a6 : a < 6 := by omega
  intro f
  induction f with
  | zero => intro m d q _ _ _ l; omega
  | succ f ih =>
    intro m d q es ad hd l
    have ed := nJ (n := d) (by omega)
    unfold D262_57
    rw [es]
    by_cases z : (s 0).toInt ≤ (d : Int)
    · rw [show (s 0).toInt.toNat - d = 0 by omega]
      refine ⟨m, oT (zc.trans (decide_eq_true (by omega))) ?_, es⟩
      rw [(o1 (n := a) (by omega)).2.2]
      rfl
    · rw [show (s 0).toInt.toNat - d = ((s 0).toInt.toNat - (d + 1)) + 1 by omega, bk1_s]
      have g : zcmp .ge (Int32.ofNat d) (s 0) = false := zc.trans (decide_eq_false (by omega))
      have d6 : d < 6 := by omega
      have q1 := r210 (F := F) (m := m) (a := a) (d := d) rfl rfl a6 d6
      have q2 := r210 (F := F) (m := m) (a := d) (d := a) rfl rfl d6 a6
      rw [es] at q1 q2
      have nx : ∀ {m2 : xS} (q' : Int32 × Int32 × Int32), m2.1 80 = s → ∃ m', D262_141 F g40 (D262_57 F g40 f) v1 v2 q'.1 q'.2.1 q'.2.2 (Int32.ofNat a) (Int32.ofNat d) m2 = g40 v1 v2 (bk1 s a (d + 1) ((s 0).toInt.toNat - (d + 1)) q').1 (bk1 s a (d + 1) ((s 0).toInt.toNat - (d + 1)) q').2.1 (bk1 s a (d + 1) ((s 0).toInt.toNat - (d + 1)) q').2.2 (Int32.ofNat (a + 1)) m' ∧ m'.1 80 = s := fun {m2} q' k1 => by
        obtain ⟨m', d1, d2⟩ := ih (m := m2) (d := d + 1) (q := q') k1 (by omega) (by omega) (by omega)
        refine ⟨m', ?_, d2⟩
        unfold D262_141
        rw [(o1 (n := d) (by omega)).2.2]
        exact d1
      cases c : (ptr s a d || ptr s d a) with
      | false =>
        have e : bkq s a d q = q := by
          unfold bkq
          rw [c, if_neg (show ¬ (false = true) by decide)]
        rw [e]
        rw [Bool.or_eq_false_iff] at c
        obtain ⟨m', d1, d2⟩ := nx (m2 := m) q es
        exact ⟨m', oF g (ob q1 (oF (znF c.1) (ob q2 (oF (znF c.2) d1)))), d2⟩
      | true =>
        have go : ∃ m', D262_93 F g40 (D262_57 F g40 f) v1 v2 q.1 q.2.1 q.2.2 (Int32.ofNat a) (Int32.ofNat d) m = g40 v1 v2 (bk1 s a (d + 1) ((s 0).toInt.toNat - (d + 1)) (bkq s a d q)).1 (bk1 s a (d + 1) ((s 0).toInt.toNat - (d + 1)) (bkq s a d q)).2.1 (bk1 s a (d + 1) ((s 0).toInt.toNat - (d + 1)) (bkq s a d q)).2.2 (Int32.ofNat (a + 1)) m' ∧ m'.1 80 = s := by
          unfold D262_93
          obtain ⟨cc, z1, z2⟩ := r259 (F := F) (m := m) (by omega)
          have J := I_qu I a6 d6
          have y1 := r229 (F := F) (m := xr m 84 cc) (a := a) (d := d) (v1 := Int32.ofNat a) (v2 := Int32.ofNat d) rfl rfl a6 d6
          rw [xr_o (by decide), es] at y1
          obtain ⟨m3, w1, -, -, k3⟩ := e256 (s := pqu s a d) (F := F) (m := xr (xr m 84 cc) 80 (pqu s a d)) hF J (wo := -1) (xr_s _ _ _)
          obtain ⟨u1, u2⟩ := kow_b (F := F) (by omega) es z2 k3 (fun j hj => pqu_k a6 d6 hj)
          have n130 : ∃ m', D262_130 F g40 (D262_57 F g40 f) v1 v2 q.1 q.2.1 q.2.2 (Int32.ofNat a) (Int32.ofNat d) (eV (pqu s a d) (-1)) (xr m3 80 s) = g40 v1 v2 (bk1 s a (d + 1) ((s 0).toInt.toNat - (d + 1)) (Int32.ofNat a, Int32.ofNat d, eV (pqu s a d) (-1))).1 (bk1 s a (d + 1) ((s 0).toInt.toNat - (d + 1)) (Int32.ofNat a, Int32.ofNat d, eV (pqu s a d) (-1))).2.1 (bk1 s a (d + 1) ((s 0).toInt.toNat - (d + 1)) (Int32.ofNat a, Int32.ofNat d, eV (pqu s a d) (-1))).2.2 (Int32.ofNat (a + 1)) m' ∧ m'.1 80 = s := by
            unfold D262_130
            exact nx (m2 := xr m3 80 s) (Int32.ofNat a, Int32.ofNat d, eV (pqu s a d) (-1)) (xr_s _ _ _)
          by_cases lt : q.1.toInt < 0
          · have e : bkq s a d q = (Int32.ofNat a, Int32.ofNat d, eV (pqu s a d) (-1)) := by
              unfold bkq
              rw [c, if_pos (show true = true from rfl), if_pos (Or.inl lt)]
            rw [e]
            obtain ⟨m', d1, d2⟩ := n130
            exact ⟨m', ob z1 (ob y1 (ob w1 (ob u1 (oT (zcl.trans (decide_eq_true (by omega))) d1)))), d2⟩
          · by_cases le : (eV (pqu s a d) (-1)).toInt < q.2.2.toInt
            · have e : bkq s a d q = (Int32.ofNat a, Int32.ofNat d, eV (pqu s a d) (-1)) := by
                unfold bkq
                rw [c, if_pos (show true = true from rfl), if_pos (Or.inr le)]
              rw [e]
              obtain ⟨m', d1, d2⟩ := n130
              exact ⟨m', ob z1 (ob y1 (ob w1 (ob u1 (oF (zcl.trans (decide_eq_false (by omega))) (oT (zcl.trans (decide_eq_true (by dsimp only; omega))) d1))))), d2⟩
            · have e : bkq s a d q = q := by
                unfold bkq
                rw [c, if_pos (show true = true from rfl), if_neg (fun z => z.elim lt le)]
              rw [e]
              obtain ⟨m', d1, d2⟩ := nx (m2 := xr m3 80 s) q (xr_s _ _ _)
              exact ⟨m', ob z1 (ob y1 (ob w1 (ob u1 (oF (zcl.trans (decide_eq_false (by omega))) (oF (zcl.trans (decide_eq_false (by dsimp only; omega))) d1))))), d2⟩
        obtain ⟨m', d1, d2⟩ := go
        cases p : ptr s a d with
        | true => exact ⟨m', oF g (ob q1 (oT (znT p) d1)), d2⟩
        | false =>
          rw [p, Bool.false_or] at c
          exact ⟨m', oF g (ob q1 (oF (znF p) (ob q2 (oT (znT c) d1)))), d2⟩
/-- a row that was named has both its houses -/
theorem bkq_i {a d : Nat} (ha : a < 6) {q : Int32 × Int32 × Int32} (h : q.1.toInt < 0 → q.1 = -2 ∧ q.2.1 = -2) : (bkq s a d q).1.toInt < 0 → (bkq s a d q).1 = -2 ∧ (bkq s a d q).2.1 = -2 := by
  have ea := nJ (n := a) (by omega)
  unfold bkq
  split
  · split
    · intro z
      have z : (Int32.ofNat a).toInt < 0 := z
      omega
    · exact h
  · exact h
theorem bk1_i {a : Nat} (ha : a < 6) : ∀ (n : Nat) {d : Nat} {q : Int32 × Int32 × Int32}, (q.1.toInt < 0 → q.1 = -2 ∧ q.2.1 = -2) → (bk1 s a d n q).1.toInt < 0 → (bk1 s a d n q).1 = -2 ∧ (bk1 s a d n q).2.1 = -2
  | 0, _, _, h => h
  | n + 1, d, q, h => by
    rw [bk1_s]
    exact bk1_i ha n (bkq_i ha h)
theorem bko_i {N : Nat} : ∀ (n : Nat) {a : Nat} {q : Int32 × Int32 × Int32}, a + n ≤ 6 → (q.1.toInt < 0 → q.1 = -2 ∧ q.2.1 = -2) → (bko s N a n q).1.toInt < 0 → (bko s N a n q).1 = -2 ∧ (bko s N a n q).2.1 = -2
  | 0, _, _, _, h => h
  | n + 1, a, q, l, h => bko_i n (a := a + 1) (q := bk1 s a (a + 1) (N - (a + 1)) q) (by omega) (bk1_i (by omega) _ h)
theorem r262_40 (hF : 120000 ≤ F) (I : vI s) {v1 : Int32} (b1 : 0 ≤ v1.toInt ∧ v1.toInt ≤ 2) : ∀ (f : Nat) {m : xS} {a : Nat} {q : Int32 × Int32 × Int32}, m.1 80 = s → (a : Int) ≤ (s 0).toInt → ((bko s (s 0).toInt.toNat a ((s 0).toInt.toNat - a) q).1.toInt < 0 → (bko s (s 0).toInt.toNat a ((s 0).toInt.toNat - a) q).1 = -2 ∧ (bko s (s 0).toInt.toNat a ((s 0).toInt.toNat - a) q).2.1 = -2) → 7 - a < f → ∃ m', D262_40 F f v1 (eV s (-1)) q.1 q.2.1 q.2.2 (Int32.ofNat a) m = some (bkr s v1 (bko s (s 0).toInt.toNat a ((s 0).toInt.toNat - a) q), m') := by
  have n6 := I_n6 I
  have l0 : (0 : Int32).toInt = 0 := rfl
  have l1 : (1 : Int32).toInt = 1 := rfl
  have l2 : (2 : Int32).toInt = 2 := rfl
  intro f
  induction f with
  | zero => intro m a q _ _ _ l; omega
  | succ f ih =>
    intro m a q es ha hq l
    have ea := nJ (n := a) (by omega)
    unfold D262_40
    rw [es]
    by_cases z : (s 0).toInt ≤ (a : Int)
    · rw [show (s 0).toInt.toNat - a = 0 by omega] at hq ⊢
      have hq : q.1.toInt < 0 → q.1 = -2 ∧ q.2.1 = -2 := hq
      have g : zcmp .ge (Int32.ofNat a) (s 0) = true := zc.trans (decide_eq_true (by omega))
      show ∃ m', _ = some (bkr s v1 q, m')
      refine ⟨m, oT g ?_⟩
      unfold bkr
      by_cases c2 : q.1.toInt < 0
      · obtain ⟨x1, x2⟩ := hq c2
        rw [if_pos (Or.inr c2), x2]
        refine oF (zc.trans (decide_eq_false (by omega))) ?_
        by_cases w : v1 = 0
        · rw [if_pos w, x1]
        · rw [if_neg w]
      · refine oT (zc.trans (decide_eq_true (by omega))) ?_
        by_cases w : v1 = 0
        · have c1 : v1.toInt < 2 := by rw [w]; decide
          rw [if_pos (Or.inl c1), if_pos w]
          exact oF (by rw [zcn, w]; rfl) rfl
        · refine oT (by rw [zcn, beq_eq_false_iff_ne.mpr w]; rfl) ?_
          by_cases c1 : v1.toInt < 2
          · have e1 : v1 = 1 := Int32.toInt_inj.mp (by
              have : v1.toInt ≠ 0 := fun z => w (Int32.toInt_inj.mp z)
              omega)
            rw [if_pos (Or.inl c1), if_neg w]
            exact oF (by rw [zcn, e1]; rfl) rfl
          · rw [if_neg (show ¬ (v1.toInt < 2 ∨ q.1.toInt < 0) by omega)]
            exact oT ((zcni (y := 1) rfl).trans (by rw [decide_eq_false (by omega)]; rfl)) rfl
    · have g : zcmp .ge (Int32.ofNat a) (s 0) = false := zc.trans (decide_eq_false (by omega))
      rw [show (s 0).toInt.toNat - a = ((s 0).toInt.toNat - (a + 1)) + 1 by omega] at hq ⊢
      obtain ⟨m1, y1, y2⟩ := r262_57 (F := F) hF I (a := a) (by omega) (v1 := v1) (v2 := eV s (-1)) (g40 := D262_40 F f) F (m := m) (d := a + 1) (q := q) es (by omega) (by omega) (by omega)
      obtain ⟨m', d1⟩ := ih (m := m1) (a := a + 1) (q := bk1 s a (a + 1) ((s 0).toInt.toNat - (a + 1)) q) y2 (by omega) hq (by omega)
      refine ⟨m', oF g ?_⟩
      rw [show Int32.ofNat a + 1 = Int32.ofNat (a + 1) from xadd (a := a) (b := 1) (by omega)]
      exact y1.trans d1
theorem vBreaks (hF : 120000 ≤ F) {y1 : Int32} (es : m.1 80 = s) (R : R32 s (m.1 10)) (I : vI s) : ∃ v m1, D145_0 F y1 m = some (v, m1) ∧ m1.1 80 = m.1 80 ∧ ∀ m2 : xS, m2.1 80 = s → ∃ m3, D262 F y1 m2 = some (v, m3) := by
  have l0 : (0 : Int32).toInt = 0 := rfl
  have l2 : (2 : Int32).toInt = 2 := rfl
  have n0 := I_n0 I
  have n6 := I_n6 I
  unfold D145_0 D262
  by_cases a : 0 < (s 0).toInt
  rotate_left
  · exact ⟨-1, m, ob (c76_9 R) (oT (zeT (decide_eq_false a)) rfl), rfl, fun m2 e2 => ⟨m2, ob r204 (oT (zeT (by rw [e2]; exact decide_eq_false a)) rfl)⟩⟩
  have g0 : zcmp .eq (pB (decide (0 < (s 0).toInt))) 0 = false := zeF (decide_eq_true a)
  by_cases b : 0 ≤ y1.toInt ∧ y1.toInt ≤ 2
  rotate_left
  · refine ⟨-1, m, ob (c76_9 R) (oF g0 ?_), rfl, fun m2 e2 => ⟨m2, ob r204 (oF (zeF (by rw [e2]; exact decide_eq_true a)) (ob (r158 (x := 0) (y := 2) rfl rfl) (oF (znF ?_) rfl)))⟩⟩
    · by_cases q : y1.toInt < 0
      · exact oT (zcl.trans (decide_eq_true (by omega))) rfl
      · exact oF (zcl.trans (decide_eq_false (by omega))) (oF (zcle.trans (decide_eq_false (by omega))) rfl)
    · rw [← Bool.not_eq_true, Bool.and_eq_true, decide_eq_true_eq, decide_eq_true_eq]
      exact b
  obtain ⟨m1, d1, d2⟩ := c145_33 (F := F) (by omega) I (v1 := y1) F (m := m) (a := 0) (q := (-2, -2, 0)) R (by omega) (by omega)
  refine ⟨_, m1, ob (c76_9 R) (oF g0 (oF (zcl.trans (decide_eq_false (by omega))) (oT (zcle.trans (decide_eq_true (by omega))) d1))), d2.1 80 (by decide) (by decide), fun m2 e2 => ?_⟩
  obtain ⟨m3, w1, -, -, w4⟩ := e256 (F := F) (m := m2) hF I (wo := -1) e2
  obtain ⟨m4, x1⟩ := r262_40 (F := F) hF I b F (m := m3) (a := 0) (q := (-2, -2, 0)) (kmt_80 w4 e2) (by omega) (bko_i _ (by omega) (fun _ => ⟨rfl, rfl⟩)) (by omega)
  exact ⟨m4, ob r204 (oF (zeF (by rw [e2]; exact decide_eq_true a)) (ob (r158 (x := 0) (y := 2) rfl rfl) (oT (znT (by rw [decide_eq_true b.1, decide_eq_true b.2]; rfl)) (ob w1 x1))))⟩
end PBRK
theorem nBreaks1 {y1 : Int32} : lP MR 145 262 [.int y1] true := eC (as := [y1].map .int) nBreaks (Dc := D145_0 200000 y1) (Dr := D262 200000 y1) (fun {_} H {_} h => Z145_0 H h (by decide)) (fun {_} H {_} h => Z262 H h (by decide)) (eH2 (yt1193 yXx.1) (na := 1) (bl := []) (by decide +kernel) [y1] rfl (fun s hs => by cases hs)) (fun m R I => vBreaks (F := 200000) (by decide) rfl R I.1)
