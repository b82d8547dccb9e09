/-! owner and breaks, as pairs. -/
/-- whose it should be: the houses from h on -/
def own (s : Nat → Int32) (t : Nat) : Nat → Nat → Int32 → Int32 → Int32 × Int32
  | _, 0, b, v => (b, v)
  | h, n + 1, b, v => if s (10 + 6 * t) = Int32.ofNat h then own s t (h + 1) n b v else if v.toInt < (eV (pgv s t (Int32.ofNat h)) (-1)).toInt then own s t (h + 1) n (Int32.ofNat h) (eV (pgv s t (Int32.ofNat h)) (-1)) else own s t (h + 1) n b v
/-- which quarrel breaks most: the houses from d on, with a -/
def bk1 (s : Nat → Int32) (a : Nat) : Nat → Nat → Int32 × Int32 × Int32 → Int32 × Int32 × Int32
  | _, 0, q => q
  | d, n + 1, q => bk1 s a (d + 1) n (if (ptr s a d || ptr s d a) = true then (if q.1.toInt < 0 ∨ (eV (pqu s a d) (-1)).toInt < q.2.2.toInt then (Int32.ofNat a, Int32.ofNat d, eV (pqu s a d) (-1)) else q) else q)
def bko (s : Nat → Int32) (N : Nat) : Nat → Nat → Int32 × Int32 × Int32 → Int32 × Int32 × Int32
  | _, 0, q => q
  | a, n + 1, q => bko s N (a + 1) n (bk1 s a (a + 1) (N - (a + 1)) q)
def kOm (m m' : xS) : Prop := (∀ i, i ≠ 12 → ¬ (50 ≤ i ∧ i ≤ 66) → m'.1 i = m.1 i) ∧ m'.2 = m.2
theorem kOm_r (m : xS) : kOm m m := ⟨fun _ _ _ => rfl, rfl⟩
theorem kOm_t {a b c : xS} (h1 : kOm a b) (h2 : kOm b c) : kOm a c := ⟨fun i x y => (h2.1 i x y).trans (h1.1 i x y), h2.2.trans h1.2⟩
theorem kOm_E {a b : xS} (h : kEm a b) : kOm a b := ⟨fun i _ y => h.1 i y, h.2⟩
section POWN
variable {s : Nat → Int32} {m : xS} {F : Nat}
theorem c144_49 (hF : 500 ≤ F) (I : vI s) {t : Nat} (ht : (t : Int) < (s 2).toInt) {v2 : Int32} : ∀ (f : Nat) {m : xS} {h : Nat} {v3 v4 : Int32}, R32 s (m.1 10) → (h : Int) ≤ (s 0).toInt → 7 - h < f → ∃ m', D144_0_49 F f (Int32.ofNat t) v2 v3 v4 (Int32.ofNat h) m = some ((if zcmp .ne v2 0 = true then (own s t h ((s 0).toInt.toNat - h) v3 v4).2 else (own s t h ((s 0).toInt.toNat - h) v3 v4).1), m') ∧ kOm m m' := by
  have n6 := I_n6 I
  have n2 := I_nt I
  have t6 : t < 6 := by omega
  intro f
  induction f with
  | zero => intro m h v3 v4 _ _ l; omega
  | succ f ih =>
    intro m h v3 v4 R hh l
    have eh := nJ (n := h) (by omega)
    have r77 := c77_9 (F := F) R
    unfold D144_0_49
    by_cases q : (s 0).toInt ≤ (h : Int)
    · rw [show (s 0).toInt.toNat - h = 0 by omega]
      refine ⟨m, ob r77 (oT (zc.trans (decide_eq_true (by dsimp only; omega))) ?_), kOm_r m⟩
      by_cases z : zcmp .ne v2 0 = true
      · rw [if_pos z, if_pos z]
        rfl
      · rw [if_neg z, if_neg z]
        rfl
    · rw [show (s 0).toInt.toNat - h = ((s 0).toInt.toNat - (h + 1)) + 1 by omega]
      have g : zcmp .ge (Int32.ofNat h) (s 0) = false := zc.trans (decide_eq_false (by omega))
      have r0 := c87_9 (F := F) R (t := t) (w := 0) rfl rfl t6 (by decide)
      rw [Nat.add_zero] at r0
      have nx : ∀ {m2 : xS} {b v : Int32}, R32 s (m2.1 10) → kOm m m2 → ∃ m', D144_0_124 F (D144_0_49 F f) (Int32.ofNat t) v2 b v (Int32.ofNat h) m2 = some ((if zcmp .ne v2 0 = true then (own s t (h + 1) ((s 0).toInt.toNat - (h + 1)) b v).2 else (own s t (h + 1) ((s 0).toInt.toNat - (h + 1)) b v).1), m') ∧ kOm m m' := fun {m2 b v} k1 k2 => by
        obtain ⟨m', d1, d2⟩ := ih (m := m2) (h := h + 1) (v3 := b) (v4 := v) k1 (by omega) (by omega)
        refine ⟨m', ?_, kOm_t k2 d2⟩
        unfold D144_0_124
        rw [(o1 (n := h) (by omega)).2.2]
        exact d1
      have eo : own s t h ((s 0).toInt.toNat - (h + 1) + 1) v3 v4 = if s (10 + 6 * t) = Int32.ofNat h then own s t (h + 1) ((s 0).toInt.toNat - (h + 1)) v3 v4 else if v4.toInt < (eV (pgv s t (Int32.ofNat h)) (-1)).toInt then own s t (h + 1) ((s 0).toInt.toNat - (h + 1)) (Int32.ofNat h) (eV (pgv s t (Int32.ofNat h)) (-1)) else own s t (h + 1) ((s 0).toInt.toNat - (h + 1)) v3 v4 := rfl
      rw [eo]
      by_cases c : s (10 + 6 * t) = Int32.ofNat h
      · rw [if_pos c]
        obtain ⟨m', d1, d2⟩ := nx (m2 := m) (b := v3) (v := v4) R (kOm_r m)
        exact ⟨m', ob r77 (oF g (ob r0 (oT (by rw [zce, c]; exact beq_self_eq_true _) d1))), d2⟩
      · rw [if_neg c]
        have R0 : R32 s ((xcp m 12 10 114).1 12) := R_c R (fun _ _ => rfl) (fun j hj => xcp_s hj)
        have J := I_gv (v := Int32.ofNat h) I ht (by omega) (by omega)
        have y1 := a104_11t (F := F) (m := xcp m 12 10 114) (t := t) (v1 := Int32.ofNat t) (v2 := Int32.ofNat h) rfl t6
        have y2 := R_gv (v := Int32.ofNat h) R0 t6
        generalize cup (cup (cup (cup ((xcp m 12 10 114).1 12) (6 + 6 * 0 + t) (Int32.ofNat h)) (6 + 6 * 3 + t) (Int32.ofNat h)) (6 + 6 * 4 + t) 0) (6 + 6 * 5 + t) 0 = c' at y1 y2
        obtain ⟨m2, z1, -, z3⟩ := e19_11t (s := pgv s t (Int32.ofNat h)) (F := F) (m := xr (xcp m 12 10 114) 12 c') (by omega) J (wo := -1) (by rw [xr_s]; exact y2)
        have k2 : kOm m m2 := ⟨fun i x y => (z3.1 i y).trans ((xr_o x).trans (xcp_o x)), z3.2⟩
        have R2 : R32 s (m2.1 10) := by rw [k2.1 10 (by decide) (by decide)]; exact R
        have gn : zcmp .eq (Int32.ofNat h) (s (10 + 6 * t)) = false := by
          rw [zce]
          exact beq_eq_false_iff_ne.mpr (fun z => c z.symm)
        generalize eV (pgv s t (Int32.ofNat h)) (-1) = w at z1 ⊢
        by_cases d : v4.toInt < w.toInt
        · rw [if_pos d]
          obtain ⟨m', d1, d2⟩ := nx (m2 := m2) (b := Int32.ofNat h) (v := w) R2 k2
          exact ⟨m', ob r77 (oF g (ob r0 (oF gn (ob (a := ()) (m := xcp m 12 10 114) rfl (ob y1 (ob z1 (oF (zcle.trans (decide_eq_false (by dsimp only; omega))) d1))))))), d2⟩
        · rw [if_neg d]
          obtain ⟨m', d1, d2⟩ := nx (m2 := m2) (b := v3) (v := v4) R2 k2
          exact ⟨m', ob r77 (oF g (ob r0 (oF gn (ob (a := ()) (m := xcp m 12 10 114) rfl (ob y1 (ob z1 (oT (zcle.trans (decide_eq_true (by dsimp only; omega))) d1))))))), d2⟩
/-- the reference -/
theorem r261_37 (hF : 120000 ≤ F) (I : vI s) {t : Nat} (ht : (t : Int) < (s 2).toInt) {v2 : Int32} : ∀ (f : Nat) {m : xS} {h : Nat} {v3 v4 : Int32}, m.1 80 = s → (h : Int) ≤ (s 0).toInt → 7 - h < f → ∃ m', D261_37 F f (Int32.ofNat t) v2 v3 v4 (Int32.ofNat h) m = some ((if zcmp .ne v2 0 = true then (own s t h ((s 0).toInt.toNat - h) v3 v4).2 else (own s t h ((s 0).toInt.toNat - h) v3 v4).1), m') := by
  have n6 := I_n6 I
  have t6 : t < 6 := by have := I_nt I; omega
  intro f
  induction f with
  | zero => intro m h v3 v4 _ _ l; omega
  | succ f ih =>
    intro m h v3 v4 es hh l
    have eh := nJ (n := h) (by omega)
    unfold D261_37
    rw [es]
    by_cases q : (s 0).toInt ≤ (h : Int)
    · rw [show (s 0).toInt.toNat - h = 0 by omega]
      refine ⟨m, oT (zc.trans (decide_eq_true (by omega))) ?_⟩
      by_cases z : zcmp .ne v2 0 = true
      · rw [if_pos z, if_pos z]
        rfl
      · rw [if_neg z, if_neg z]
        rfl
    · rw [show (s 0).toInt.toNat - h = ((s 0).toInt.toNat - (h + 1)) + 1 by omega]
      have g : zcmp .ge (Int32.ofNat h) (s 0) = false := zc.trans (decide_eq_false (by omega))
      have r0 := r208 (F := F) (m := m) (t := t) (w := 0) rfl rfl t6 (by decide)
      rw [es, Nat.add_zero] at r0
      have nx : ∀ {m2 : xS} {b v : Int32}, m2.1 80 = s → ∃ m', D261_101 F (D261_37 F f) (Int32.ofNat t) v2 b v (Int32.ofNat h) m2 = some ((if zcmp .ne v2 0 = true then (own s t (h + 1) ((s 0).toInt.toNat - (h + 1)) b v).2 else (own s t (h + 1) ((s 0).toInt.toNat - (h + 1)) b v).1), m') := fun {m2 b v} k1 => by
        obtain ⟨m', d1⟩ := ih (m := m2) (h := h + 1) (v3 := b) (v4 := v) k1 (by omega) (by omega)
        refine ⟨m', ?_⟩
        unfold D261_101
        rw [(o1 (n := h) (by omega)).2.2]
        exact d1
      have eo : own s t h ((s 0).toInt.toNat - (h + 1) + 1) v3 v4 = if s (10 + 6 * t) = Int32.ofNat h then own s t (h + 1) ((s 0).toInt.toNat - (h + 1)) v3 v4 else if v4.toInt < (eV (pgv s t (Int32.ofNat h)) (-1)).toInt then own s t (h + 1) ((s 0).toInt.toNat - (h + 1)) (Int32.ofNat h) (eV (pgv s t (Int32.ofNat h)) (-1)) else own s t (h + 1) ((s 0).toInt.toNat - (h + 1)) v3 v4 := rfl
      rw [eo]
      by_cases c : s (10 + 6 * t) = Int32.ofNat h
      · rw [if_pos c]
        obtain ⟨m', d1⟩ := nx (m2 := m) (b := v3) (v := v4) es
        exact ⟨m', oF g (ob r0 (oF (by rw [zcn, c, beq_self_eq_true]; rfl) d1))⟩
      · rw [if_neg c]
        obtain ⟨cc, z1, z2⟩ := r259 (F := F) (m := m) (by omega)
        have J := I_gv (v := Int32.ofNat h) I ht (by omega) (by omega)
        have y1 := r231 (F := F) (m := xr m 84 cc) (t := t) (v1 := Int32.ofNat t) (v2 := Int32.ofNat h) rfl t6
        rw [xr_o (by decide), es] at y1
        obtain ⟨m3, w1, -, -, k3⟩ := e256 (s := pgv s t (Int32.ofNat h)) (F := F) (m := xr (xr m 84 cc) 80 (pgv s t (Int32.ofNat h))) hF J (wo := -1) (xr_s _ _ _)
        obtain ⟨u1, u2⟩ := kow_b (F := F) (by omega) es z2 k3 (fun j hj => pgv_o (by omega))
        have gn : zcmp .ne (Int32.ofNat h) (s (10 + 6 * t)) = true := by
          rw [zcn, beq_eq_false_iff_ne.mpr (fun z => c z.symm)]
          rfl
        generalize eV (pgv s t (Int32.ofNat h)) (-1) = w at w1 ⊢
        by_cases d : v4.toInt < w.toInt
        · rw [if_pos d]
          obtain ⟨m', d1⟩ := nx (m2 := xr m3 80 s) (b := Int32.ofNat h) (v := w) (xr_s _ _ _)
          exact ⟨m', oF g (ob r0 (oT gn (ob z1 (ob y1 (ob w1 (ob u1 (oT (zcgt.trans (decide_eq_true d)) d1)))))))⟩
        · rw [if_neg d]
          obtain ⟨m', d1⟩ := nx (m2 := xr m3 80 s) (b := v3) (v := v4) (xr_s _ _ _)
          exact ⟨m', oF g (ob r0 (oT gn (ob z1 (ob y1 (ob w1 (ob u1 (oF (zcgt.trans (decide_eq_false d)) d1)))))))⟩
theorem vOwner (hF : 120000 ≤ F) {y1 y2 : Int32} (es : m.1 80 = s) (R : R32 s (m.1 10)) (I : vI s) : ∃ v m1, D144_0 F y1 y2 m = some (v, m1) ∧ m1.1 80 = m.1 80 ∧ ∀ m2 : xS, m2.1 80 = s → ∃ m3, D261 F y1 y2 m2 = some (v, m3) := by
  have l0 : (0 : Int32).toInt = 0 := rfl
  have l1 : (1 : Int32).toInt = 1 := rfl
  have n0 := I_n0 I
  unfold D144_0 D261
  cases c : pin s 2 y1 with
  | false => exact ⟨-1, m, ob (c83_9 R) (oT (zeT c) rfl), rfl, fun m2 e2 => ⟨m2, ob r206 (oT (zeT (by rw [e2]; exact c)) rfl)⟩⟩
  | true =>
    by_cases b : 0 ≤ y2.toInt ∧ y2.toInt ≤ 1
    rotate_left
    · refine ⟨-1, m, ob (c83_9 R) (oF (zeF c) ?_), rfl, fun m2 e2 => ⟨m2, ob r206 (oF (zeF (by rw [e2]; exact c)) (ob (r158 (x := 0) (y := 1) rfl rfl) (oF (znF ?_) rfl)))⟩⟩
      · by_cases q : y2.toInt < 0
        · exact oT (zcl.trans (decide_eq_true (by omega))) rfl
        · exact oF (zcl.trans (decide_eq_false (by omega))) (oF (zcle.trans (decide_eq_false (by omega))) rfl)
      · rw [← Bool.not_eq_true, Bool.and_eq_true, decide_eq_true_eq, decide_eq_true_eq]
        exact b
    obtain ⟨t, rfl, ht⟩ := pin_n c
    have n2 := I_nt I
    have t6 : t < 6 := by omega
    have r0 := c87_9 (F := F) R (t := t) (w := 0) rfl rfl t6 (by decide)
    obtain ⟨m1, d1, d2, d3⟩ := e19_9 (F := F) (m := m) (by omega) I (wo := -1) R
    obtain ⟨m2, z1, z2⟩ := c144_49 (F := F) (by omega) I ht (v2 := y2) F (m := m1) (h := 0) (v3 := s (10 + 6 * t + 0)) (v4 := eV s (-1)) (by rw [d3.1 10 (by omega)]; exact R) (by omega) (by omega)
    refine ⟨_, m2, ob (c83_9 R) (oF (zeF c) (oF (zcl.trans (decide_eq_false (by omega))) (oT (zcle.trans (decide_eq_true (by omega))) (ob r0 (ob d1 z1))))), (z2.1 80 (by decide) (by decide)).trans (d3.1 80 (by omega)), fun m2 e2 => ?_⟩
    have q0 := r208 (F := F) (m := m2) (t := t) (w := 0) rfl rfl t6 (by decide)
    rw [e2] at q0
    obtain ⟨m3, w1, -, -, w4⟩ := e256 (F := F) (m := m2) hF I (wo := -1) e2
    obtain ⟨m4, x1⟩ := r261_37 (F := F) hF I ht (v2 := y2) F (m := m3) (h := 0) (v3 := s (10 + 6 * t + 0)) (v4 := eV s (-1)) (kmt_80 w4 e2) (by omega) (by omega)
    exact ⟨m4, ob r206 (oF (zeF (by rw [e2]; exact c)) (ob (r158 (x := 0) (y := 1) rfl rfl) (oT (znT (by rw [decide_eq_true b.1, decide_eq_true b.2]; rfl)) (ob q0 (ob w1 x1)))))⟩
end POWN
theorem nOwner1 {y1 y2 : Int32} : lP MR 144 261 [.int y1, .int y2] true := eC (as := [y1, y2].map .int) nOwner (Dc := D144_0 200000 y1 y2) (Dr := D261 200000 y1 y2) (fun {_} H {_} h => Z144_0 H h (by decide)) (fun {_} H {_} h => Z261 H h (by decide)) (eH2 (yt1225 yXx.1) (na := 2) (bl := []) (by decide +kernel) [y1, y2] rfl (fun s hs => by cases hs)) (fun m R I => vOwner (F := 200000) (by decide) rfl R I.1)
