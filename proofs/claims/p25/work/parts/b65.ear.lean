/-! What the class's matching earns. -/
theorem bst_ub {ab : Nat → Nat → Bool} {py : Nat → Int} {N : Nat} (hp : ∀ w : Nat, w < N → 0 ≤ py w ∧ py w ≤ 1000) : ∀ (k w T : Nat), w + k ≤ N → bst ab py k w T ≤ 1000 * (k : Int)
  | 0, w, T, _ => Int.le_refl _
  | k + 1, w, T, h => by
    obtain ⟨-, -, cc⟩ := bst_s (ab := ab) (py := py) k w T
    have pw := hp w (by omega)
    rcases cc with cc | ⟨u, -, -, cc⟩
    · have := bst_ub (ab := ab) hp k (w + 1) T (by omega)
      omega
    · have := bst_ub (ab := ab) hp k (w + 1) (T ||| 2 ^ u) (by omega)
      omega
theorem I_py {s : Nat → Int32} (I : vI s) : ∀ w : Nat, (w : Int) < (s 3).toInt → 0 ≤ payI s w ∧ payI s w ≤ 1000 := fun w hw => by
  have h := (I.2.2.1 w hw).2.2
  unfold payI
  omega
theorem nJm {n : Nat} (h : n < 2000) : (Int32.ofNat n + Int32.ofInt (-1)).toInt = (n : Int) - 1 := by
  have en := nJ (n := n) h
  have e1 : (Int32.ofInt (-1)).toInt = -1 := rfl
  refine (xa1 (by rw [en, e1]; show _ ≤ _ + (-1 : Int); omega) (by rw [en, e1]; omega)).trans ?_
  rw [en, e1]
  rfl
theorem sh64 {n : Nat} (h : n ≤ 6) : (if (64 : Int32) < ((1 : Int32) <<< (Int32.ofNat n &&& 31)) then (64 : Int32) else ((1 : Int32) <<< (Int32.ofNat n &&& 31))) = Int32.ofNat (2 ^ n) := by
  have key : (List.range 7).all (fun n => decide ((if (64 : Int32) < ((1 : Int32) <<< (Int32.ofNat n &&& 31)) then (64 : Int32) else ((1 : Int32) <<< (Int32.ofNat n &&& 31))) = Int32.ofNat (2 ^ n))) = true := by decide +kernel
  exact of_decide_eq_true (List.all_eq_true.mp key n (List.mem_range.mpr (by omega)))
/-- what the matching's own objects are -/
def kEm (m m' : xS) : Prop := (∀ i, ¬ (50 ≤ i ∧ i ≤ 66) → m'.1 i = m.1 i) ∧ m'.2 = m.2
theorem kEm_r (m : xS) : kEm m m := ⟨fun _ _ => rfl, rfl⟩
theorem kEm_t {a b c : xS} (h1 : kEm a b) (h2 : kEm b c) : kEm a c := ⟨fun i h => (h2.1 i h).trans (h1.1 i h), h2.2.trans h1.2⟩
def kFm (m m' : xS) : Prop := (∀ i, i ≠ 52 → i ≠ 53 → i ≠ 54 → i ≠ 57 → m'.1 i = m.1 i) ∧ m'.2 = m.2
theorem kFm_r (m : xS) : kFm m m := ⟨fun _ _ _ _ _ => rfl, rfl⟩
theorem kFm_t {a b c : xS} (h1 : kFm a b) (h2 : kFm b c) : kFm a c := ⟨fun i x y z w => (h2.1 i x y z w).trans (h1.1 i x y z w), h2.2.trans h1.2⟩
/-- which tools can, and the pays -/
def kAb (s : Nat → Int32) (wo : Int32) (m : xS) : Prop := ∀ w : Nat, (w : Int) < (s 3).toInt → m.1 57 w = Int32.ofNat (abB s wo w (s 2).toInt.toNat) ∧ m.1 58 w = s (124 + 4 * w + 3)
/-- the most from work w on, for each set of tools -/
def kBw (s : Nat → Int32) (wo : Int32) (w : Nat) (m : xS) : Prop := ∀ X, X < 2 ^ (s 2).toInt.toNat → (m.1 (60 + w) X).toInt = bst (abl s wo) (payI s) ((s 3).toInt.toNat - w) w X
/-- all that earn has laid down -/
def kBs (s : Nat → Int32) (wo : Int32) (m : xS) : Prop := m.1 50 1 = s 3 ∧ kAb s wo m ∧ ∀ w, w ≤ (s 3).toInt.toNat → kBw s wo w m
theorem ab_n {s : Nat → Int32} {wo : Int32} {w t : Nat} (h : abl s wo w t = true) : t < (s 2).toInt.toNat := by
  unfold abl at h
  rw [Bool.and_eq_true, decide_eq_true_eq] at h
  omega
theorem fl_S {F r0 : Nat} {v : Int32} : ∀ (f : Nat) {j : Nat} {m : xS}, j ≤ 64 → 64 - j < f → ∃ m', D291_S60_7_5 F r0 f v (Int32.ofNat j) (Int32.ofNat 64) m = some ((), m') ∧ (∀ i, j ≤ i → i < 64 → m'.1 r0 i = v) ∧ (∀ i, i < j → m'.1 r0 i = m.1 r0 i) ∧ (∀ i, i ≠ r0 → m'.1 i = m.1 i) ∧ m'.2 = m.2 := by
  intro f
  induction f with
  | zero => intro j m _ l; omega
  | succ f ih =>
    intro j m hj l
    have ej := nJ (n := j) (by omega)
    have eK := nJ (n := 64) (by decide)
    unfold D291_S60_7_5
    by_cases q : 64 ≤ j
    · exact ⟨m, oT (zc.trans (decide_eq_true (by omega))) rfl, fun i a b => by omega, fun _ _ => rfl, fun _ _ => rfl, rfl⟩
    · obtain ⟨m', d1, d2, d3, d4, d5⟩ := ih (j := j + 1) (m := xu m r0 j v) (by omega) (by omega)
      refine ⟨m', oF (zc.trans (decide_eq_false (by omega))) (oT (gxb ej (by omega)) ?_), fun i a b => ?_, fun i a => ?_, fun i a => (d4 i a).trans (xu_row a), d5⟩
      · rw [gxn ej, (o1 (n := j) (by omega)).2.2]
        exact d1
      · by_cases y : i = j
        · subst y
          rw [d3 i (by omega), xu_s]
        · exact d2 i (by omega) b
      · rw [d3 i (by omega), xu_o (fun z => by omega)]
section PEB9
variable {s : Nat → Int32} {F : Nat}
theorem c22_9 (hF : 100 ≤ F) (I : vI s) {wo : Int32} {t : Nat} (ht : (t : Int) < (s 2).toInt) (nw : Int32.ofNat t ≠ wo) {m : xS} (R : R32 s (m.1 10)) (h50 : m.1 50 1 = s 3) (h57 : ∀ w' : Nat, (w' : Int) < (s 3).toInt → m.1 57 w' = Int32.ofNat (abB s wo w' t)) : ∃ m', D22_50_9 F (Int32.ofNat t) m = some ((), m') ∧ (∀ w' : Nat, (w' : Int) < (s 3).toInt → m'.1 57 w' = Int32.ofNat (abB s wo w' (t + 1))) ∧ kFm m m' := by
  have n2 := I_nt I
  have n3 := I_nw I
  have it := I.2.1 t ht
  obtain ⟨m1, y1, y2, y3⟩ := meas_51_9 (F := F) (m := m) hF (I_n6 I) R (t := t) (by omega) it.1 it.2.1
  obtain ⟨m2, z1, z2, z3, z4⟩ := c22_11_9 (F := F) I ht nw F (m := m1) (w := 0) (by rw [y3.1 10 (by decide) (by decide) (by decide)]; exact R) (fun h hh => (y2 h hh).1) (by rw [y3.1 50 (by decide) (by decide) (by decide)]; exact h50) (fun w' h => by rw [y3.1 57 (by decide) (by decide) (by decide), if_neg (by omega)]; exact h57 w' h) (by omega) (by omega)
  refine ⟨m2, ?_, z2, fun i a b c d => (z3 i d).trans (y3.1 i a b c), z4.trans y3.2⟩
  unfold D22_50_9
  exact ob y1 z1
theorem c21_2_9 (I : vI s) {wo : Int32} : ∀ (f : Nat) {m : xS} {w : Nat}, R32 s (m.1 10) → m.1 50 1 = s 3 → (∀ w' : Nat, w' < w → m.1 57 w' = 0 ∧ m.1 58 w' = s (124 + 4 * w' + 3)) → (w : Int) ≤ (s 3).toInt → 7 - w < f → ∃ m', D21_50_9_2 F f wo (Int32.ofNat w) m = D21_50_9_37 F F wo 0 m' ∧ (∀ w' : Nat, (w' : Int) < (s 3).toInt → m'.1 57 w' = 0 ∧ m'.1 58 w' = s (124 + 4 * w' + 3)) ∧ (∀ i, i ≠ 57 → i ≠ 58 → m'.1 i = m.1 i) ∧ m'.2 = m.2 := by
  have n3 := I_nw I
  intro f
  induction f with
  | zero => intro m w _ _ _ _ l; omega
  | succ f ih =>
    intro m w R h50 h0 hw l
    have ew := nJ (n := w) (by omega)
    unfold D21_50_9_2
    rw [h50]
    by_cases q : (s 3).toInt ≤ (w : Int)
    · exact ⟨m, oT (zc.trans (decide_eq_true (by omega))) rfl, fun w' h => h0 w' (by omega), fun _ _ _ => rfl, rfl⟩
    · have w6 : w < 6 := by omega
      have R1 : R32 s ((xu m 57 w 0).1 10) := by rw [xu_row (by decide)]; exact R
      have r3 := c89_9 (F := F) R1 (w := w) (k := 3) rfl rfl w6 (by decide)
      obtain ⟨m', d1, d2, d3, d4⟩ := ih (m := xu (xu m 57 w 0) 58 w (s (124 + 4 * w + 3))) (w := w + 1) (by rw [xu_row (by decide), xu_row (by decide)]; exact R) (by rw [xu_row (by decide), xu_row (by decide)]; exact h50) (fun w' h => by
        by_cases y : w' = w
        · subst y
          exact ⟨by rw [xu_row (by decide), xu_s], by rw [xu_s]⟩
        · exact ⟨by rw [xu_row (by decide), xu_o (fun z => y z.2)]; exact (h0 w' (by omega)).1, by rw [xu_o (fun z => y z.2), xu_row (by decide)]; exact (h0 w' (by omega)).2⟩) (by omega) (by omega)
      refine ⟨m', oF (zc.trans (decide_eq_false (by omega))) (oT (gxb ew w6) ?_), d2, fun i a b => (d3 i a b).trans ((xu_row b).trans (xu_row a)), d4⟩
      rw [gxn ew]
      refine ob r3 (oT (gxb ew w6) ?_)
      dsimp only
      rw [(o1 (n := w) (by omega)).2.2]
      exact d1
theorem c21_37_9 (hF : 100 ≤ F) (I : vI s) {wo : Int32} : ∀ (f : Nat) {m : xS} {t : Nat}, R32 s (m.1 10) → m.1 50 1 = s 3 → (∀ w' : Nat, (w' : Int) < (s 3).toInt → m.1 57 w' = Int32.ofNat (abB s wo w' t)) → (t : Int) ≤ (s 2).toInt → 7 - t < f → ∃ m', D21_50_9_37 F f wo (Int32.ofNat t) m = some ((), m') ∧ (∀ w' : Nat, (w' : Int) < (s 3).toInt → m'.1 57 w' = Int32.ofNat (abB s wo w' (s 2).toInt.toNat)) ∧ kFm m m' := by
  have n2 := I_nt I
  have n3 := I_nw I
  intro f
  induction f with
  | zero => intro m t _ _ _ _ l; omega
  | succ f ih =>
    intro m t R h50 h57 ht l
    have et := nJ (n := t) (by omega)
    have r79 := c79_9 (F := F) R
    unfold D21_50_9_37
    by_cases q : (s 2).toInt ≤ (t : Int)
    · rw [show (s 2).toInt.toNat = t by omega]
      exact ⟨m, ob r79 (oT (zc.trans (decide_eq_true (by dsimp only; omega))) rfl), h57, kFm_r m⟩
    · have g : zcmp .ge (Int32.ofNat t) (s 2) = false := zc.trans (decide_eq_false (by omega))
      have nx : ∀ {m2 : xS}, (∀ w' : Nat, (w' : Int) < (s 3).toInt → m2.1 57 w' = Int32.ofNat (abB s wo w' (t + 1))) → kFm m m2 → ∃ m', D21_50_9_56 F (D21_50_9_37 F f) wo (Int32.ofNat t) m2 = some ((), m') ∧ (∀ w' : Nat, (w' : Int) < (s 3).toInt → m'.1 57 w' = Int32.ofNat (abB s wo w' (s 2).toInt.toNat)) ∧ kFm m m' := fun {m2} k1 k2 => by
        obtain ⟨m', d1, d2, d3⟩ := ih (m := m2) (t := t + 1) (by rw [k2.1 10 (by decide) (by decide) (by decide) (by decide)]; exact R) (by rw [k2.1 50 (by decide) (by decide) (by decide) (by decide)]; exact h50) k1 (by omega) (by omega)
        refine ⟨m', ?_, d2, kFm_t k2 d3⟩
        unfold D21_50_9_56
        rw [(o1 (n := t) (by omega)).2.2]
        exact d1
      by_cases c : Int32.ofNat t = wo
      · have hv : ∀ w', abl s wo w' t = false := fun w' => by
          unfold abl
          rw [beq_iff_eq.mpr c, Bool.not_true, Bool.false_and, Bool.and_false]
        obtain ⟨m', d1, d2⟩ := nx (m2 := m) (fun w' h => by
          rw [h57 w' h]
          show _ = Int32.ofNat (if abl s wo w' t = true then abB s wo w' t ||| 2 ^ t else abB s wo w' t)
          rw [hv w', if_neg (show ¬ (false = true) by decide)]) (kFm_r m)
        exact ⟨m', ob r79 (oF g (oT (by rw [zce]; exact beq_iff_eq.mpr c) d1)), d2⟩
      · obtain ⟨m2, z1, z2, z3⟩ := c22_9 (F := F) hF I (by omega) c R h50 h57
        obtain ⟨m', d1, d2⟩ := nx z2 z3
        exact ⟨m', ob r79 (oF g (oF (by rw [zce]; exact beq_eq_false_iff_ne.mpr c) (ob z1 d1))), d2⟩
theorem c21_9 (hF : 100 ≤ F) (I : vI s) {wo : Int32} {m : xS} (R : R32 s (m.1 10)) (h50 : m.1 50 1 = s 3) : ∃ m', D21_50_9 F wo m = some ((), m') ∧ kAb s wo m' ∧ m'.1 50 1 = s 3 ∧ kEm m m' := by
  obtain ⟨m1, y1, y2, y3, y4⟩ := c21_2_9 (F := F) I (wo := wo) F (m := m) (w := 0) R h50 (fun w' h => by omega) (by have := I_nw I; omega) (by omega)
  obtain ⟨m2, z1, z2, z3⟩ := c21_37_9 (F := F) hF I (wo := wo) F (m := m1) (t := 0) (by rw [y3 10 (by decide) (by decide)]; exact R) (by rw [y3 50 (by decide) (by decide)]; exact h50) (fun w' h => (y2 w' h).1) (by have := I_nt I; omega) (by omega)
  refine ⟨m2, ?_, fun w' h => ⟨z2 w' h, (congrFun (z3.1 58 (by decide) (by decide) (by decide) (by decide)) w').trans (y2 w' h).2⟩, (congrFun (z3.1 50 (by decide) (by decide) (by decide) (by decide)) 1).trans ((congrFun (y3 50 (by decide) (by decide)) 1).trans h50), fun i h => (z3.1 i (by omega) (by omega) (by omega) (by omega)).trans (y3 i (by omega) (by omega)), z3.2.trans y4⟩
  unfold D21_50_9
  exact y1.trans z1
theorem c19_60_9 (hF : 100 ≤ F) (I : vI s) {wo : Int32} {w : Nat} (hw : (w : Int) < (s 3).toInt) {g : Int32 → Int32 → Int32 → xS → Option (Int32 × xS)} : ∀ (f : Nat) {m : xS} {T : Nat}, kAb s wo m → kBw s wo (w + 1) m → (∀ X, X < T → (m.1 (60 + w) X).toInt = bst (abl s wo) (payI s) ((s 3).toInt.toNat - w) w X) → T ≤ 2 ^ (s 2).toInt.toNat → 65 - T < f → ∃ m', D19_50_9_60 F g f wo (Int32.ofNat (2 ^ (s 2).toInt.toNat)) (Int32.ofNat w) (Int32.ofNat T) m = g wo (Int32.ofNat (2 ^ (s 2).toInt.toNat)) (Int32.ofNat w + Int32.ofInt (-1)) m' ∧ kBw s wo w m' ∧ (∀ i, i ≠ 60 + w → m'.1 i = m.1 i) ∧ m'.2 = m.2 := by
  have n2 := I_nt I
  have n3 := I_nw I
  have h64 : (2 : Nat) ^ (s 2).toInt.toNat ≤ 2 ^ 6 := Nat.pow_le_pow_right (by decide) (by omega)
  have ew := nJ (n := w) (by omega)
  have eP := nJ (n := 2 ^ (s 2).toInt.toNat) (by omega)
  have hp := I_py I
  intro f
  induction f with
  | zero => intro m T _ _ _ _ l; omega
  | succ f ih =>
    intro m T ha hb h0 hT l
    have eT := nJ (n := T) (by omega)
    unfold D19_50_9_60
    by_cases q : 2 ^ (s 2).toInt.toNat ≤ T
    · exact ⟨m, oT (zc.trans (decide_eq_true (by omega))) rfl, fun X hX => h0 X (by omega), fun _ _ => rfl, rfl⟩
    · obtain ⟨z, d1, d2⟩ := c20 (F := F) (m := m) (s := s) hF (wo := wo) (w := w) (T := T) (k := (s 3).toInt.toNat - (w + 1)) (n := (s 2).toInt.toNat) (by omega) (by omega) (fun t h => ab_n h) (by omega) (ha w hw).1 (by rw [(ha w hw).2]; rfl) (hp w hw) (fun X hX => ⟨hb X hX, by
        have u := bst_ub (ab := abl s wo) (py := payI s) (N := (s 3).toInt.toNat) (fun w' h => hp w' (by omega)) ((s 3).toInt.toNat - (w + 1)) (w + 1) X (by omega)
        omega⟩)
      rw [show (s 3).toInt.toNat - (w + 1) + 1 = (s 3).toInt.toNat - w by omega] at d2
      obtain ⟨m', k1, k2, k3, k4⟩ := ih (m := xu m (60 + w) T z) (T := T + 1) (fun w' h => by rw [xu_row (by omega), xu_row (by omega)]; exact ha w' h) (fun X hX => by rw [xu_row (by omega)]; exact hb X hX) (fun X hX => by
        by_cases y : X = T
        · rw [y, xu_s, d2]
        · rw [xu_o (fun z => y z.2)]
          exact h0 X (by omega)) (by omega) (by omega)
      refine ⟨m', oF (zc.trans (decide_eq_false (by omega))) (oT (gxb ew (by omega)) (ob d1 (oT (gxb eT (by omega)) ?_))), k2, fun i h => (k3 i h).trans (xu_row h), k4⟩
      dsimp only
      rw [gxn ew, gxn eT, (o1 (n := T) (by omega)).2.2]
      exact k1
theorem c19_52_9 (hF : 100 ≤ F) (I : vI s) {wo : Int32} : ∀ (f : Nat) {m : xS} {u : Nat} {v4 : Int32}, kAb s wo m → (∀ w, u ≤ w → w ≤ (s 3).toInt.toNat → kBw s wo w m) → v4.toInt = (u : Int) - 1 → u ≤ (s 3).toInt.toNat → u < f → ∃ v m', D19_50_9_52 F f wo (Int32.ofNat (2 ^ (s 2).toInt.toNat)) v4 m = some (v, m') ∧ v.toInt = bst (abl s wo) (payI s) (s 3).toInt.toNat 0 0 ∧ (kAb s wo m' ∧ ∀ w, w ≤ (s 3).toInt.toNat → kBw s wo w m') ∧ (∀ i, ¬ (60 ≤ i ∧ i ≤ 66) → m'.1 i = m.1 i) ∧ m'.2 = m.2 := by
  have n2 := I_nt I
  have n3 := I_nw I
  have l0 : (0 : Int32).toInt = 0 := rfl
  have p0 : 0 < 2 ^ (s 2).toInt.toNat := Nat.two_pow_pos _
  intro f
  induction f with
  | zero => intro m u v4 _ _ _ _ l; omega
  | succ f ih =>
    intro m u v4 ha hb e4 hu l
    unfold D19_50_9_52
    by_cases q : u = 0
    · subst q
      have z := hb 0 (Nat.le_refl _) (Nat.zero_le _) 0 p0
      rw [Nat.sub_zero] at z
      exact ⟨_, m, oT (zcl.trans (decide_eq_true (by omega))) (oT (by decide) rfl), z, ⟨ha, fun w hw => hb w (Nat.zero_le _) hw⟩, fun _ _ => rfl, rfl⟩
    · obtain ⟨x, ex⟩ : ∃ x : Nat, u = x + 1 := ⟨u - 1, by omega⟩
      subst ex
      have e5 : v4 = Int32.ofNat x := i32n (by omega)
      subst e5
      obtain ⟨m1, y1, y2, y3, y4⟩ := c19_60_9 (F := F) hF I (wo := wo) (w := x) (by omega) (g := D19_50_9_52 F f) F (m := m) (T := 0) ha (hb (x + 1) (Nat.le_refl _) hu) (fun X h => by omega) (Nat.zero_le _) (by omega)
      have em := nJm (n := x) (by omega)
      obtain ⟨v, m', d1, d2, d3, d4, d5⟩ := ih (m := m1) (u := x) (fun w' h => by rw [y3 57 (by omega), y3 58 (by omega)]; exact ha w' h) (fun w h1 h2 => by
        by_cases y : w = x
        · rw [y]
          exact y2
        · intro X hX
          rw [y3 (60 + w) (by omega)]
          exact hb w (by omega) h2 X hX) em (by omega) (by omega)
      refine ⟨v, m', oF (zcl.trans (decide_eq_false (by omega))) ?_, d2, d3, fun i h => (d4 i h).trans (y3 i (by omega)), d5.trans y4⟩
      exact y1.trans d1
/-- earn -/
theorem c19_9 (hF : 100 ≤ F) (I : vI s) {wo : Int32} {m : xS} (R : R32 s (m.1 10)) : ∃ v m', D19_50_9 F wo m = some (v, m') ∧ v.toInt = bst (abl s wo) (payI s) (s 3).toInt.toNat 0 0 ∧ kBs s wo m' ∧ kEm m m' := by
  have n2 := I_nt I
  have n3 := I_nw I
  have l6 : (6 : Int32).toInt = 6 := rfl
  have l1 : (1 : Int32).toInt = 1 := rfl
  have l0 : (0 : Int32).toInt = 0 := rfl
  have e6 : (if (6 : Int32) < s 3 then (6 : Int32) else s 3) = s 3 := if_neg (fun z => by have z := Int32.lt_iff_toInt_lt.mp z; omega)
  obtain ⟨m1, y1, y2, y3, y4⟩ := c21_9 (F := F) hF I (wo := wo) (m := xu m 50 1 (s 3)) (by rw [xu_row (by decide)]; exact R) (xu_s _ _ _ _)
  have R1 : R32 s (m1.1 10) := by rw [y4.1 10 (by omega), xu_row (by decide)]; exact R
  have e3 : s 3 = Int32.ofNat (s 3).toInt.toNat := i32n (by omega)
  have ew := nJ (n := (s 3).toInt.toNat) (by omega)
  have x3 : (s 3).toInt = ((s 3).toInt.toNat : Int) := by omega
  obtain ⟨m2, z1, z2, z3, z4, z5⟩ := fl_S (F := F) (r0 := 60 + (s 3).toInt.toNat) (v := 0) F (j := 0) (m := m1) (by omega) (by omega)
  have h64 : (2 : Nat) ^ (s 2).toInt.toNat ≤ 2 ^ 6 := Nat.pow_le_pow_right (by decide) (by omega)
  have e50 : m2.1 50 1 = s 3 := (congrFun (z4 50 (by omega)) 1).trans y3
  have es1 : (s 3 - 1).toInt = ((s 3).toInt.toNat : Int) - 1 := by
    have z := xs1 (x := s 3) (y := 1) (by omega) (by omega)
    omega
  obtain ⟨v, m', d1, d2, d3, d4, d5⟩ := c19_52_9 (F := F) hF I (wo := wo) F (m := m2) (u := (s 3).toInt.toNat) (v4 := s 3 - 1) (fun w h => by rw [z4 57 (by omega), z4 58 (by omega)]; exact y2 w h) (fun w h1 h2 X hX => by
    rw [show w = (s 3).toInt.toNat by omega, z2 X (Nat.zero_le _) (by omega), Nat.sub_self]
    rfl) es1 (Nat.le_refl _) (by omega)
  refine ⟨v, m', ?_, d2, ⟨(congrFun (d4 50 (by omega)) 1).trans e50, d3⟩, fun i h => (d4 i (by omega)).trans ((z4 i (by omega)).trans ((y4.1 i h).trans (xu_row (by omega)))), d5.trans (z5.trans y4.2)⟩
  unfold D19_50_9
  refine ob (c80_9 R) ?_
  dsimp only
  rw [e6]
  refine ob y1 (ob (c79_9 R1) ?_)
  dsimp only
  rw [y3]
  refine oT (gxb x3 (by omega)) ?_
  rw [gxn x3]
  refine ob (a := ()) (m := m2) z1 ?_
  dsimp only
  rw [e50, show s 2 = Int32.ofNat (s 2).toInt.toNat from i32n (by omega), sh64 (by omega)]
  exact d1
end PEB9
section PEB11t
variable {s : Nat → Int32} {F : Nat}
theorem c22_11t (hF : 100 ≤ F) (I : vI s) {wo : Int32} {t : Nat} (ht : (t : Int) < (s 2).toInt) (nw : Int32.ofNat t ≠ wo) {m : xS} (R : R32 s (m.1 12)) (h50 : m.1 50 1 = s 3) (h57 : ∀ w' : Nat, (w' : Int) < (s 3).toInt → m.1 57 w' = Int32.ofNat (abB s wo w' t)) : ∃ m', D22_50_11t F (Int32.ofNat t) m = some ((), m') ∧ (∀ w' : Nat, (w' : Int) < (s 3).toInt → m'.1 57 w' = Int32.ofNat (abB s wo w' (t + 1))) ∧ kFm m m' := by
  have n2 := I_nt I
  have n3 := I_nw I
  have it := I.2.1 t ht
  obtain ⟨m1, y1, y2, y3⟩ := meas_51_11t (F := F) (m := m) hF (I_n6 I) R (t := t) (by omega) it.1 it.2.1
  obtain ⟨m2, z1, z2, z3, z4⟩ := c22_11_11t (F := F) I ht nw F (m := m1) (w := 0) (by rw [y3.1 12 (by decide) (by decide) (by decide)]; exact R) (fun h hh => (y2 h hh).1) (by rw [y3.1 50 (by decide) (by decide) (by decide)]; exact h50) (fun w' h => by rw [y3.1 57 (by decide) (by decide) (by decide), if_neg (by omega)]; exact h57 w' h) (by omega) (by omega)
  refine ⟨m2, ?_, z2, fun i a b c d => (z3 i d).trans (y3.1 i a b c), z4.trans y3.2⟩
  unfold D22_50_11t
  exact ob y1 z1
theorem c21_2_11t (I : vI s) {wo : Int32} : ∀ (f : Nat) {m : xS} {w : Nat}, R32 s (m.1 12) → m.1 50 1 = s 3 → (∀ w' : Nat, w' < w → m.1 57 w' = 0 ∧ m.1 58 w' = s (124 + 4 * w' + 3)) → (w : Int) ≤ (s 3).toInt → 7 - w < f → ∃ m', D21_50_11t_2 F f wo (Int32.ofNat w) m = D21_50_11t_37 F F wo 0 m' ∧ (∀ w' : Nat, (w' : Int) < (s 3).toInt → m'.1 57 w' = 0 ∧ m'.1 58 w' = s (124 + 4 * w' + 3)) ∧ (∀ i, i ≠ 57 → i ≠ 58 → m'.1 i = m.1 i) ∧ m'.2 = m.2 := by
  have n3 := I_nw I
  intro f
  induction f with
  | zero => intro m w _ _ _ _ l; omega
  | succ f ih =>
    intro m w R h50 h0 hw l
    have ew := nJ (n := w) (by omega)
    unfold D21_50_11t_2
    rw [h50]
    by_cases q : (s 3).toInt ≤ (w : Int)
    · exact ⟨m, oT (zc.trans (decide_eq_true (by omega))) rfl, fun w' h => h0 w' (by omega), fun _ _ _ => rfl, rfl⟩
    · have w6 : w < 6 := by omega
      have R1 : R32 s ((xu m 57 w 0).1 12) := by rw [xu_row (by decide)]; exact R
      have r3 := c89_11t (F := F) R1 (w := w) (k := 3) rfl rfl w6 (by decide)
      obtain ⟨m', d1, d2, d3, d4⟩ := ih (m := xu (xu m 57 w 0) 58 w (s (124 + 4 * w + 3))) (w := w + 1) (by rw [xu_row (by decide), xu_row (by decide)]; exact R) (by rw [xu_row (by decide), xu_row (by decide)]; exact h50) (fun w' h => by
        by_cases y : w' = w
        · subst y
          exact ⟨by rw [xu_row (by decide), xu_s], by rw [xu_s]⟩
        · exact ⟨by rw [xu_row (by decide), xu_o (fun z => y z.2)]; exact (h0 w' (by omega)).1, by rw [xu_o (fun z => y z.2), xu_row (by decide)]; exact (h0 w' (by omega)).2⟩) (by omega) (by omega)
      refine ⟨m', oF (zc.trans (decide_eq_false (by omega))) (oT (gxb ew w6) ?_), d2, fun i a b => (d3 i a b).trans ((xu_row b).trans (xu_row a)), d4⟩
      rw [gxn ew]
      refine ob r3 (oT (gxb ew w6) ?_)
      dsimp only
      rw [(o1 (n := w) (by omega)).2.2]
      exact d1
theorem c21_37_11t (hF : 100 ≤ F) (I : vI s) {wo : Int32} : ∀ (f : Nat) {m : xS} {t : Nat}, R32 s (m.1 12) → m.1 50 1 = s 3 → (∀ w' : Nat, (w' : Int) < (s 3).toInt → m.1 57 w' = Int32.ofNat (abB s wo w' t)) → (t : Int) ≤ (s 2).toInt → 7 - t < f → ∃ m', D21_50_11t_37 F f wo (Int32.ofNat t) m = some ((), m') ∧ (∀ w' : Nat, (w' : Int) < (s 3).toInt → m'.1 57 w' = Int32.ofNat (abB s wo w' (s 2).toInt.toNat)) ∧ kFm m m' := by
  have n2 := I_nt I
  have n3 := I_nw I
  intro f
  induction f with
  | zero => intro m t _ _ _ _ l; omega
  | succ f ih =>
    intro m t R h50 h57 ht l
    have et := nJ (n := t) (by omega)
    have r79 := c79_11t (F := F) R
    unfold D21_50_11t_37
    by_cases q : (s 2).toInt ≤ (t : Int)
    · rw [show (s 2).toInt.toNat = t by omega]
      exact ⟨m, ob r79 (oT (zc.trans (decide_eq_true (by dsimp only; omega))) rfl), h57, kFm_r m⟩
    · have g : zcmp .ge (Int32.ofNat t) (s 2) = false := zc.trans (decide_eq_false (by omega))
      have nx : ∀ {m2 : xS}, (∀ w' : Nat, (w' : Int) < (s 3).toInt → m2.1 57 w' = Int32.ofNat (abB s wo w' (t + 1))) → kFm m m2 → ∃ m', D21_50_11t_56 F (D21_50_11t_37 F f) wo (Int32.ofNat t) m2 = some ((), m') ∧ (∀ w' : Nat, (w' : Int) < (s 3).toInt → m'.1 57 w' = Int32.ofNat (abB s wo w' (s 2).toInt.toNat)) ∧ kFm m m' := fun {m2} k1 k2 => by
        obtain ⟨m', d1, d2, d3⟩ := ih (m := m2) (t := t + 1) (by rw [k2.1 12 (by decide) (by decide) (by decide) (by decide)]; exact R) (by rw [k2.1 50 (by decide) (by decide) (by decide) (by decide)]; exact h50) k1 (by omega) (by omega)
        refine ⟨m', ?_, d2, kFm_t k2 d3⟩
        unfold D21_50_11t_56
        rw [(o1 (n := t) (by omega)).2.2]
        exact d1
      by_cases c : Int32.ofNat t = wo
      · have hv : ∀ w', abl s wo w' t = false := fun w' => by
          unfold abl
          rw [beq_iff_eq.mpr c, Bool.not_true, Bool.false_and, Bool.and_false]
        obtain ⟨m', d1, d2⟩ := nx (m2 := m) (fun w' h => by
          rw [h57 w' h]
          show _ = Int32.ofNat (if abl s wo w' t = true then abB s wo w' t ||| 2 ^ t else abB s wo w' t)
          rw [hv w', if_neg (show ¬ (false = true) by decide)]) (kFm_r m)
        exact ⟨m', ob r79 (oF g (oT (by rw [zce]; exact beq_iff_eq.mpr c) d1)), d2⟩
      · obtain ⟨m2, z1, z2, z3⟩ := c22_11t (F := F) hF I (by omega) c R h50 h57
        obtain ⟨m', d1, d2⟩ := nx z2 z3
        exact ⟨m', ob r79 (oF g (oF (by rw [zce]; exact beq_eq_false_iff_ne.mpr c) (ob z1 d1))), d2⟩
theorem c21_11t (hF : 100 ≤ F) (I : vI s) {wo : Int32} {m : xS} (R : R32 s (m.1 12)) (h50 : m.1 50 1 = s 3) : ∃ m', D21_50_11t F wo m = some ((), m') ∧ kAb s wo m' ∧ m'.1 50 1 = s 3 ∧ kEm m m' := by
  obtain ⟨m1, y1, y2, y3, y4⟩ := c21_2_11t (F := F) I (wo := wo) F (m := m) (w := 0) R h50 (fun w' h => by omega) (by have := I_nw I; omega) (by omega)
  obtain ⟨m2, z1, z2, z3⟩ := c21_37_11t (F := F) hF I (wo := wo) F (m := m1) (t := 0) (by rw [y3 12 (by decide) (by decide)]; exact R) (by rw [y3 50 (by decide) (by decide)]; exact h50) (fun w' h => (y2 w' h).1) (by have := I_nt I; omega) (by omega)
  refine ⟨m2, ?_, fun w' h => ⟨z2 w' h, (congrFun (z3.1 58 (by decide) (by decide) (by decide) (by decide)) w').trans (y2 w' h).2⟩, (congrFun (z3.1 50 (by decide) (by decide) (by decide) (by decide)) 1).trans ((congrFun (y3 50 (by decide) (by decide)) 1).trans h50), fun i h => (z3.1 i (by omega) (by omega) (by omega) (by omega)).trans (y3 i (by omega) (by omega)), z3.2.trans y4⟩
  unfold D21_50_11t
  exact y1.trans z1
theorem c19_60_11t (hF : 100 ≤ F) (I : vI s) {wo : Int32} {w : Nat} (hw : (w : Int) < (s 3).toInt) {g : Int32 → Int32 → Int32 → xS → Option (Int32 × xS)} : ∀ (f : Nat) {m : xS} {T : Nat}, kAb s wo m → kBw s wo (w + 1) m → (∀ X, X < T → (m.1 (60 + w) X).toInt = bst (abl s wo) (payI s) ((s 3).toInt.toNat - w) w X) → T ≤ 2 ^ (s 2).toInt.toNat → 65 - T < f → ∃ m', D19_50_11t_60 F g f wo (Int32.ofNat (2 ^ (s 2).toInt.toNat)) (Int32.ofNat w) (Int32.ofNat T) m = g wo (Int32.ofNat (2 ^ (s 2).toInt.toNat)) (Int32.ofNat w + Int32.ofInt (-1)) m' ∧ kBw s wo w m' ∧ (∀ i, i ≠ 60 + w → m'.1 i = m.1 i) ∧ m'.2 = m.2 := by
  have n2 := I_nt I
  have n3 := I_nw I
  have h64 : (2 : Nat) ^ (s 2).toInt.toNat ≤ 2 ^ 6 := Nat.pow_le_pow_right (by decide) (by omega)
  have ew := nJ (n := w) (by omega)
  have eP := nJ (n := 2 ^ (s 2).toInt.toNat) (by omega)
  have hp := I_py I
  intro f
  induction f with
  | zero => intro m T _ _ _ _ l; omega
  | succ f ih =>
    intro m T ha hb h0 hT l
    have eT := nJ (n := T) (by omega)
    unfold D19_50_11t_60
    by_cases q : 2 ^ (s 2).toInt.toNat ≤ T
    · exact ⟨m, oT (zc.trans (decide_eq_true (by omega))) rfl, fun X hX => h0 X (by omega), fun _ _ => rfl, rfl⟩
    · obtain ⟨z, d1, d2⟩ := c20 (F := F) (m := m) (s := s) hF (wo := wo) (w := w) (T := T) (k := (s 3).toInt.toNat - (w + 1)) (n := (s 2).toInt.toNat) (by omega) (by omega) (fun t h => ab_n h) (by omega) (ha w hw).1 (by rw [(ha w hw).2]; rfl) (hp w hw) (fun X hX => ⟨hb X hX, by
        have u := bst_ub (ab := abl s wo) (py := payI s) (N := (s 3).toInt.toNat) (fun w' h => hp w' (by omega)) ((s 3).toInt.toNat - (w + 1)) (w + 1) X (by omega)
        omega⟩)
      rw [show (s 3).toInt.toNat - (w + 1) + 1 = (s 3).toInt.toNat - w by omega] at d2
      obtain ⟨m', k1, k2, k3, k4⟩ := ih (m := xu m (60 + w) T z) (T := T + 1) (fun w' h => by rw [xu_row (by omega), xu_row (by omega)]; exact ha w' h) (fun X hX => by rw [xu_row (by omega)]; exact hb X hX) (fun X hX => by
        by_cases y : X = T
        · rw [y, xu_s, d2]
        · rw [xu_o (fun z => y z.2)]
          exact h0 X (by omega)) (by omega) (by omega)
      refine ⟨m', oF (zc.trans (decide_eq_false (by omega))) (oT (gxb ew (by omega)) (ob d1 (oT (gxb eT (by omega)) ?_))), k2, fun i h => (k3 i h).trans (xu_row h), k4⟩
      dsimp only
      rw [gxn ew, gxn eT, (o1 (n := T) (by omega)).2.2]
      exact k1
theorem c19_52_11t (hF : 100 ≤ F) (I : vI s) {wo : Int32} : ∀ (f : Nat) {m : xS} {u : Nat} {v4 : Int32}, kAb s wo m → (∀ w, u ≤ w → w ≤ (s 3).toInt.toNat → kBw s wo w m) → v4.toInt = (u : Int) - 1 → u ≤ (s 3).toInt.toNat → u < f → ∃ v m', D19_50_11t_52 F f wo (Int32.ofNat (2 ^ (s 2).toInt.toNat)) v4 m = some (v, m') ∧ v.toInt = bst (abl s wo) (payI s) (s 3).toInt.toNat 0 0 ∧ (kAb s wo m' ∧ ∀ w, w ≤ (s 3).toInt.toNat → kBw s wo w m') ∧ (∀ i, ¬ (60 ≤ i ∧ i ≤ 66) → m'.1 i = m.1 i) ∧ m'.2 = m.2 := by
  have n2 := I_nt I
  have n3 := I_nw I
  have l0 : (0 : Int32).toInt = 0 := rfl
  have p0 : 0 < 2 ^ (s 2).toInt.toNat := Nat.two_pow_pos _
  intro f
  induction f with
  | zero => intro m u v4 _ _ _ _ l; omega
  | succ f ih =>
    intro m u v4 ha hb e4 hu l
    unfold D19_50_11t_52
    by_cases q : u = 0
    · subst q
      have z := hb 0 (Nat.le_refl _) (Nat.zero_le _) 0 p0
      rw [Nat.sub_zero] at z
      exact ⟨_, m, oT (zcl.trans (decide_eq_true (by omega))) (oT (by decide) rfl), z, ⟨ha, fun w hw => hb w (Nat.zero_le _) hw⟩, fun _ _ => rfl, rfl⟩
    · obtain ⟨x, ex⟩ : ∃ x : Nat, u = x + 1 := ⟨u - 1, by omega⟩
      subst ex
      have e5 : v4 = Int32.ofNat x := i32n (by omega)
      subst e5
      obtain ⟨m1, y1, y2, y3, y4⟩ := c19_60_11t (F := F) hF I (wo := wo) (w := x) (by omega) (g := D19_50_11t_52 F f) F (m := m) (T := 0) ha (hb (x + 1) (Nat.le_refl _) hu) (fun X h => by omega) (Nat.zero_le _) (by omega)
      have em := nJm (n := x) (by omega)
      obtain ⟨v, m', d1, d2, d3, d4, d5⟩ := ih (m := m1) (u := x) (fun w' h => by rw [y3 57 (by omega), y3 58 (by omega)]; exact ha w' h) (fun w h1 h2 => by
        by_cases y : w = x
        · rw [y]
          exact y2
        · intro X hX
          rw [y3 (60 + w) (by omega)]
          exact hb w (by omega) h2 X hX) em (by omega) (by omega)
      refine ⟨v, m', oF (zcl.trans (decide_eq_false (by omega))) ?_, d2, d3, fun i h => (d4 i h).trans (y3 i (by omega)), d5.trans y4⟩
      exact y1.trans d1
/-- earn -/
theorem c19_11t (hF : 100 ≤ F) (I : vI s) {wo : Int32} {m : xS} (R : R32 s (m.1 12)) : ∃ v m', D19_50_11t F wo m = some (v, m') ∧ v.toInt = bst (abl s wo) (payI s) (s 3).toInt.toNat 0 0 ∧ kBs s wo m' ∧ kEm m m' := by
  have n2 := I_nt I
  have n3 := I_nw I
  have l6 : (6 : Int32).toInt = 6 := rfl
  have l1 : (1 : Int32).toInt = 1 := rfl
  have l0 : (0 : Int32).toInt = 0 := rfl
  have e6 : (if (6 : Int32) < s 3 then (6 : Int32) else s 3) = s 3 := if_neg (fun z => by have z := Int32.lt_iff_toInt_lt.mp z; omega)
  obtain ⟨m1, y1, y2, y3, y4⟩ := c21_11t (F := F) hF I (wo := wo) (m := xu m 50 1 (s 3)) (by rw [xu_row (by decide)]; exact R) (xu_s _ _ _ _)
  have R1 : R32 s (m1.1 12) := by rw [y4.1 12 (by omega), xu_row (by decide)]; exact R
  have e3 : s 3 = Int32.ofNat (s 3).toInt.toNat := i32n (by omega)
  have ew := nJ (n := (s 3).toInt.toNat) (by omega)
  have x3 : (s 3).toInt = ((s 3).toInt.toNat : Int) := by omega
  obtain ⟨m2, z1, z2, z3, z4, z5⟩ := fl_S (F := F) (r0 := 60 + (s 3).toInt.toNat) (v := 0) F (j := 0) (m := m1) (by omega) (by omega)
  have h64 : (2 : Nat) ^ (s 2).toInt.toNat ≤ 2 ^ 6 := Nat.pow_le_pow_right (by decide) (by omega)
  have e50 : m2.1 50 1 = s 3 := (congrFun (z4 50 (by omega)) 1).trans y3
  have es1 : (s 3 - 1).toInt = ((s 3).toInt.toNat : Int) - 1 := by
    have z := xs1 (x := s 3) (y := 1) (by omega) (by omega)
    omega
  obtain ⟨v, m', d1, d2, d3, d4, d5⟩ := c19_52_11t (F := F) hF I (wo := wo) F (m := m2) (u := (s 3).toInt.toNat) (v4 := s 3 - 1) (fun w h => by rw [z4 57 (by omega), z4 58 (by omega)]; exact y2 w h) (fun w h1 h2 X hX => by
    rw [show w = (s 3).toInt.toNat by omega, z2 X (Nat.zero_le _) (by omega), Nat.sub_self]
    rfl) es1 (Nat.le_refl _) (by omega)
  refine ⟨v, m', ?_, d2, ⟨(congrFun (d4 50 (by omega)) 1).trans e50, d3⟩, fun i h => (d4 i (by omega)).trans ((z4 i (by omega)).trans ((y4.1 i h).trans (xu_row (by omega)))), d5.trans (z5.trans y4.2)⟩
  unfold D19_50_11t
  refine ob (c80_11t R) ?_
  dsimp only
  rw [e6]
  refine ob y1 (ob (c79_11t R1) ?_)
  dsimp only
  rw [y3]
  refine oT (gxb x3 (by omega)) ?_
  rw [gxn x3]
  refine ob (a := ()) (m := m2) z1 ?_
  dsimp only
  rw [e50, show s 2 = Int32.ofNat (s 2).toInt.toNat from i32n (by omega), sh64 (by omega)]
  exact d1
end PEB11t
