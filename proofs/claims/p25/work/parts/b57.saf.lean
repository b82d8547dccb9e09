/-! safe, as a pair. -/
section PSAF
variable {s : Nat → Int32} {m : xS} {F : Nat}
theorem tb_nandu {x : Int32} {d i : Nat} (hd : d < 6) (hi : i < 6) : tbt (x &&& (((1 : Int32) <<< (Int32.ofNat d &&& 31)) ^^^ (-1))) i = (tbt x i && !decide (i = d)) := by
  rw [tb_and, tb_xor, tb_one hd hi, tb_m1 hi, Bool.xor_true]
theorem a105j (R : R32 s (m.1 12)) {a d : Nat} {v1 v2 : Int32} (h1 : v1 = Int32.ofNat a) (h2 : v2 = Int32.ofNat d) (ha : a < 6) (hd : d < 6) (ne : a ≠ d) : ∃ c', D105_11t F v1 v2 m = some ((), xr m 12 c') ∧ R32 (pqu s a d) c' := by
  subst h1
  subst h2
  have R1 := R_uq (v := m.1 12 (72 + a) &&& (((1 : Int32) <<< (Int32.ofNat d &&& 31)) ^^^ (-1))) R ha hd (by rw [tb_nandu hd hd, decide_eq_true rfl]; exact Bool.and_false _) (fun i hi z => by rw [tb_nandu hd hi, decide_eq_false z]; exact Bool.and_true _)
  have e : cup (m.1 12) (72 + a) (m.1 12 (72 + a) &&& (((1 : Int32) <<< (Int32.ofNat d &&& 31)) ^^^ (-1))) (72 + d) = m.1 12 (72 + d) := cup_o (by omega)
  have R2 := R_uq (v := m.1 12 (72 + d) &&& (((1 : Int32) <<< (Int32.ofNat a &&& 31)) ^^^ (-1))) R1 hd ha (by rw [tb_nandu ha ha, decide_eq_true rfl]; exact Bool.and_false _) (fun i hi z => by rw [tb_nandu ha hi, decide_eq_false z, e]; exact Bool.and_true _)
  refine ⟨_, ?_, R2⟩
  have i := ix1 (A := 72) (B := 72) (d := a) rfl (by decide) (by omega)
  have j := ix1 (A := 72) (B := 72) (d := d) rfl (by decide) (by omega)
  unfold D105_11t
  rw [gxn i, gxn j, if_pos (gxb i (by omega)), if_pos (gxb i (by omega)), if_pos (gxb j (by omega)), if_pos (gxb j (by omega))]
  simp only [xu_xr, xr_s, xr_xr, e]
/-- no longest chain where there is no shortest one -/
theorem cvl_iff {t h : Nat} (n6 : (s 0).toInt ≤ 6) : cvl s t h true = -1 ↔ (cvl s t h false).toInt < 0 := by
  have l0 : (0 : Int32).toInt = 0 := rfl
  have lm : (-1 : Int32).toInt = -1 := rfl
  have ne0 : ¬ (0 : Int32) = -1 := by decide
  unfold cvl
  by_cases a : s (10 + 6 * t + 3) = Int32.ofNat h
  · rw [if_pos a, if_pos a, l0]
    exact ⟨fun z => absurd z ne0, fun z => by omega⟩
  rw [if_neg a, if_neg a]
  by_cases b : s (10 + 6 * t) = Int32.ofNat h
  · rw [if_pos b, if_pos b, lm]
    exact ⟨fun _ => by omega, fun _ => rfl⟩
  rw [if_neg b, if_neg b]
  by_cases N1 : 1 ≤ (s 0).toInt.toNat
  · obtain ⟨u1, u2⟩ := cho_hi (s := s) (N := (s 0).toInt.toNat) (t := t) (h := h) (r := (s 0).toInt.toNat - 1) (k := 1) (by omega) (Nat.le_refl _)
    obtain ⟨w1, w2⟩ := cho_lo (s := s) (N := (s 0).toInt.toNat) (t := t) (h := h) (r := (s 0).toInt.toNat - 1) (k := 1) (by omega) (Nat.le_refl _)
    cases y : cho s t h (s 0).toInt.toNat true 1 ((s 0).toInt.toNat - 1) with
    | none =>
      cases x : cho s t h (s 0).toInt.toNat false 1 ((s 0).toInt.toNat - 1) with
      | none => exact ⟨fun _ => by show (-1 : Int32).toInt < 0; omega, fun _ => rfl⟩
      | some q =>
        obtain ⟨a1, a2, -⟩ := w1 q x
        exact absurd a2 (u2 y q.1 a1.1 (by omega))
    | some p =>
      obtain ⟨a1, a2, -⟩ := u1 p y
      cases x : cho s t h (s 0).toInt.toNat false 1 ((s 0).toInt.toNat - 1) with
      | none => exact absurd a2 (w2 x p.1 a1.1 (by omega))
      | some q =>
        obtain ⟨b1, -, -⟩ := w1 q x
        have e1 := nJ (n := p.1) (by omega)
        have e2 := nJ (n := q.1) (by omega)
        constructor
        · intro z
          have z : Int32.ofNat p.1 = -1 := z
          have z := congrArg Int32.toInt z
          omega
        · intro z
          have z : (Int32.ofNat q.1).toInt < 0 := z
          omega
  · have e : (s 0).toInt.toNat - 1 = 0 := by omega
    rw [e]
    exact ⟨fun _ => by show (-1 : Int32).toInt < 0; omega, fun _ => rfl⟩
/-- can a house get a tool of a kind: the tools from t on -/
def cgf (s : Nat → Int32) (h : Nat) (kd : Int32) : Nat → Nat → Bool
  | _, 0 => false
  | t, n + 1 => (s (10 + 6 * t + 1) == kd && (!(s (10 + 6 * t) == Int32.ofNat h) && decide (0 ≤ (cvl s t h false).toInt))) || cgf s h kd (t + 1) n
def sff (s : Nat → Int32) (h : Nat) (kd : Int32) : Nat → Nat → Bool
  | _, 0 => true
  | d, n + 1 => (d == h || cgf (pqu s h d) h kd 0 (s 2).toInt.toNat) && sff s h kd (d + 1) n
def sfb (s : Nat → Int32) (kd : Int32) : Nat → Nat → Int32 → Int32
  | _, 0, v => v
  | h, n + 1, v => sfb s kd (h + 1) n (if sff s h kd 0 (s 0).toInt.toNat = true then v ||| (1 <<< (Int32.ofNat h &&& 31)) else v)
/-- canGet -/
theorem c4_3 (hF : 500 ≤ F) {kd : Int32} {h : Nat} (I : vI s) (hh : (h : Int) < (s 0).toInt) : ∀ (f : Nat) {m : xS} {t : Nat}, R32 s (m.1 12) → (t : Int) ≤ (s 2).toInt → 7 - t < f → ∃ m', D4_44_11t_3 F f (Int32.ofNat h) kd (Int32.ofNat t) m = some (pB (cgf s h kd t ((s 2).toInt.toNat - t)), m') ∧ km_44 m m' := by
  have n6 := I_n6 I
  have n2 := I_nt I
  have eh := nJ (n := h) (by omega)
  intro f
  induction f with
  | zero => intro m t _ _ l; omega
  | succ f ih =>
    intro m t R ht l
    have et := nJ (n := t) (by omega)
    have r79 := c79_11t (F := F) R
    unfold D4_44_11t_3
    by_cases q : (s 2).toInt ≤ (t : Int)
    · rw [show (s 2).toInt.toNat - t = 0 by omega]
      exact ⟨m, ob r79 (oT (zc.trans (decide_eq_true (by dsimp only; omega))) rfl), fun _ _ _ _ => rfl, rfl⟩
    · rw [show (s 2).toInt.toNat - t = ((s 2).toInt.toNat - (t + 1)) + 1 by omega]
      have g : zcmp .ge (Int32.ofNat t) (s 2) = false := zc.trans (decide_eq_false (by omega))
      have t6 : t < 6 := by omega
      have it := I.2.1 t (by omega)
      have nx : ∀ {m2 : xS}, R32 s (m2.1 12) → km_44 m m2 → ∃ m', D4_44_11t_53 F (D4_44_11t_3 F f) (Int32.ofNat h) kd (Int32.ofNat t) m2 = some (pB (cgf s h kd (t + 1) ((s 2).toInt.toNat - (t + 1))), m') ∧ km_44 m m' := fun {m2} k1 k2 => by
        obtain ⟨m', d1, d2⟩ := ih (m := m2) (t := t + 1) k1 (by omega) (by omega)
        refine ⟨m', ?_, km_t_44 k2 d2⟩
        unfold D4_44_11t_53
        rw [(o1 (n := t) (by omega)).2.2]
        exact d1
      have r1 := c87_11t (F := F) R (t := t) (w := 1) rfl rfl t6 (by decide)
      have r0 := c87_11t (F := F) R (t := t) (w := 0) rfl rfl t6 (by decide)
      show ∃ m', _ = some (pB ((s (10 + 6 * t + 1) == kd && (!(s (10 + 6 * t) == Int32.ofNat h) && decide (0 ≤ (cvl s t h false).toInt))) || cgf s h kd (t + 1) ((s 2).toInt.toNat - (t + 1))), m') ∧ _
      by_cases c1 : s (10 + 6 * t + 1) = kd
      · have g1 : zcmp .ne (s (10 + 6 * t + 1)) kd = false := by
          rw [zcn, c1, beq_self_eq_true]
          rfl
        rw [beq_iff_eq.mpr c1, Bool.true_and]
        by_cases c2 : s (10 + 6 * t) = Int32.ofNat h
        · have g2 : zcmp .eq (s (10 + 6 * t + 0)) (Int32.ofNat h) = true := by
            rw [Nat.add_zero, zce]
            exact beq_iff_eq.mpr c2
          obtain ⟨m', d1, d2⟩ := nx (m2 := m) R ⟨fun _ _ _ _ => rfl, rfl⟩
          rw [beq_iff_eq.mpr c2, Bool.not_true, Bool.false_and, Bool.false_or]
          exact ⟨m', ob r79 (oF g (ob r1 (oF g1 (ob r0 (oT g2 d1))))), d2⟩
        · have g2 : zcmp .eq (s (10 + 6 * t + 0)) (Int32.ofNat h) = false := by
            rw [Nat.add_zero, zce]
            exact beq_eq_false_iff_ne.mpr c2
          obtain ⟨m1, y1, y2, y3⟩ := meas_44_11t (F := F) (m := m) (by omega) n6 R t6 it.1 it.2.1
          have v := (y2 h hh).1
          rw [beq_eq_false_iff_ne.mpr c2, Bool.not_false, Bool.true_and]
          by_cases c3 : (cvl s t h false).toInt < 0
          · have g3 : zcmp .eq (m1.1 45 h) (-1) = true := by
              rw [v, (cvl_iff n6).mpr c3]
              decide
            obtain ⟨m', d1, d2⟩ := nx (m2 := m1) (by rw [y3.1 12 (by decide) (by decide) (by decide)]; exact R) y3
            rw [decide_eq_false (by omega), Bool.false_or]
            refine ⟨m', ob r79 (oF g (ob r1 (oF g1 (ob r0 (oF g2 (ob y1 ?_)))))), d2⟩
            rw [if_pos (gxb eh (by omega)), gxn eh]
            exact oT g3 d1
          · have g3 : zcmp .eq (m1.1 45 h) (-1) = false := by
              rw [v, zce]
              exact beq_eq_false_iff_ne.mpr (fun z => c3 ((cvl_iff n6).mp z))
            rw [decide_eq_true (by omega), Bool.true_or]
            refine ⟨m1, ob r79 (oF g (ob r1 (oF g1 (ob r0 (oF g2 (ob y1 ?_)))))), y3⟩
            rw [if_pos (gxb eh (by omega)), gxn eh]
            exact oF g3 rfl
      · have g1 : zcmp .ne (s (10 + 6 * t + 1)) kd = true := by
          rw [zcn, beq_eq_false_iff_ne.mpr c1]
          rfl
        obtain ⟨m', d1, d2⟩ := nx (m2 := m) R ⟨fun _ _ _ _ => rfl, rfl⟩
        rw [beq_eq_false_iff_ne.mpr c1, Bool.false_and, Bool.false_or]
        exact ⟨m', ob r79 (oF g (ob r1 (oT g1 d1))), d2⟩
theorem pqu_46 {a d j : Nat} (ha : a < 6) (hd : d < 6) (hj : j < 46) : pqu s a d j = s j := by
  unfold pqu
  rw [cup_o (by omega), cup_o (by omega)]
def kSf (m m' : xS) : Prop := (∀ i, i ≠ 12 → i ≠ 45 → i ≠ 46 → i ≠ 47 → m'.1 i = m.1 i) ∧ m'.2 = m.2
theorem kSf_t {a b c : xS} (h1 : kSf a b) (h2 : kSf b c) : kSf a c := ⟨fun i x y z w => (h2.1 i x y z w).trans (h1.1 i x y z w), h2.2.trans h1.2⟩
/-- isSafe -/
theorem c151_2 (hF : 500 ≤ F) {kd : Int32} {h : Nat} (I : vI s) (hh : (h : Int) < (s 0).toInt) : ∀ (f : Nat) {m : xS} {d : Nat}, R32 s (m.1 10) → (d : Int) ≤ (s 0).toInt → 7 - d < f → ∃ m', D151_0_2 F f (Int32.ofNat h) kd (Int32.ofNat d) m = some (pB (sff s h kd d ((s 0).toInt.toNat - d)), m') ∧ kSf m m' := by
  have n6 := I_n6 I
  have n2 := I_nt I
  have eh := nJ (n := h) (by omega)
  intro f
  induction f with
  | zero => intro m d _ _ l; omega
  | succ f ih =>
    intro m d R hd l
    have ed := nJ (n := d) (by omega)
    have r77 := c77_9 (F := F) R
    unfold D151_0_2
    by_cases q : (s 0).toInt ≤ (d : Int)
    · rw [show (s 0).toInt.toNat - d = 0 by omega]
      exact ⟨m, ob r77 (oT (zc.trans (decide_eq_true (by dsimp only; omega))) rfl), fun _ _ _ _ _ => rfl, rfl⟩
    · rw [show (s 0).toInt.toNat - d = ((s 0).toInt.toNat - (d + 1)) + 1 by omega]
      have g : zcmp .ge (Int32.ofNat d) (s 0) = false := zc.trans (decide_eq_false (by omega))
      have d6 : d < 6 := by omega
      have h6 : h < 6 := by omega
      have nx : ∀ {m2 : xS}, R32 s (m2.1 10) → kSf m m2 → ∃ m', D151_0_56 F (D151_0_2 F f) (Int32.ofNat h) kd (Int32.ofNat d) m2 = some (pB (sff s h kd (d + 1) ((s 0).toInt.toNat - (d + 1))), m') ∧ kSf m m' := fun {m2} k1 k2 => by
        obtain ⟨m', d1, d2⟩ := ih (m := m2) (d := d + 1) k1 (by omega) (by omega)
        refine ⟨m', ?_, kSf_t k2 d2⟩
        unfold D151_0_56
        rw [(o1 (n := d) (by omega)).2.2]
        exact d1
      show ∃ m', _ = some (pB ((d == h || cgf (pqu s h d) h kd 0 (s 2).toInt.toNat) && sff s h kd (d + 1) ((s 0).toInt.toNat - (d + 1))), m') ∧ _
      by_cases c : d = h
      · have g1 : zcmp .eq (Int32.ofNat d) (Int32.ofNat h) = true := by
          rw [zce, c]
          exact beq_self_eq_true _
        obtain ⟨m', d1, d2⟩ := nx (m2 := m) R ⟨fun _ _ _ _ _ => rfl, rfl⟩
        rw [beq_iff_eq.mpr c, Bool.true_or, Bool.true_and]
        exact ⟨m', ob r77 (oF g (oT g1 d1)), d2⟩
      · have g1 : zcmp .eq (Int32.ofNat d) (Int32.ofNat h) = false := by
          rw [zce]
          exact beq_eq_false_iff_ne.mpr (fun z => c ((xeq (by omega) (by omega)).mp z))
        have k0 : kSf m (xcp m 12 10 114) := ⟨fun i x _ _ _ => xcp_o x, rfl⟩
        have R0 : R32 s ((xcp m 12 10 114).1 12) := R_c R (fun _ _ => rfl) (fun j hj => xcp_s hj)
        obtain ⟨c', y1, y2⟩ := a105j (F := F) (m := xcp m 12 10 114) R0 (a := h) (d := d) rfl rfl h6 d6 (fun z => c z.symm)
        have J := I_qu I h6 d6
        obtain ⟨m2, z1, z2⟩ := c4_3 (s := pqu s h d) (F := F) (kd := kd) hF J (by rw [pqu_46 h6 d6 (by decide)]; exact hh) F (m := xr (xcp m 12 10 114) 12 c') (t := 0) (by rw [xr_s]; exact y2) (by have := I_nt J; omega) (by omega)
        have z1 : D4_44_11t F (Int32.ofNat h) kd (xr (xcp m 12 10 114) 12 c') = _ := z1
        rw [Nat.sub_zero, pqu_46 h6 d6 (by decide)] at z1
        have k2 : kSf m m2 := kSf_t k0 ⟨fun i x y z w => (z2.1 i y z w).trans (xr_o x), z2.2⟩
        rw [beq_eq_false_iff_ne.mpr c, Bool.false_or]
        cases w : cgf (pqu s h d) h kd 0 (s 2).toInt.toNat with
        | true =>
          rw [w] at z1
          obtain ⟨m', d1, d2⟩ := nx (m2 := m2) (by rw [k2.1 10 (by decide) (by decide) (by decide) (by decide)]; exact R) k2
          rw [Bool.true_and]
          exact ⟨m', ob r77 (oF g (oF g1 (ob (a := ()) (m := xcp m 12 10 114) rfl (ob y1 (ob z1 (oT (znT rfl) d1)))))), d2⟩
        | false =>
          rw [w] at z1
          rw [Bool.false_and]
          exact ⟨m2, ob r77 (oF g (oF g1 (ob (a := ()) (m := xcp m 12 10 114) rfl (ob y1 (ob z1 (oF (znF rfl) rfl)))))), k2⟩
theorem c150_25 (hF : 500 ≤ F) {kd : Int32} (I : vI s) : ∀ (f : Nat) {m : xS} {h : Nat} {v : Int32}, R32 s (m.1 10) → (h : Int) ≤ (s 0).toInt → 7 - h < f → ∃ m', D150_0_25 F f kd v (Int32.ofNat h) m = some (sfb s kd h ((s 0).toInt.toNat - h) v, m') ∧ kSf m m' := by
  have n6 := I_n6 I
  intro f
  induction f with
  | zero => intro m h v _ _ l; omega
  | succ f ih =>
    intro m h v R hh l
    have eh := nJ (n := h) (by omega)
    have r77 := c77_9 (F := F) R
    unfold D150_0_25
    by_cases q : (s 0).toInt ≤ (h : Int)
    · rw [show (s 0).toInt.toNat - h = 0 by omega]
      exact ⟨m, ob r77 (oT (zc.trans (decide_eq_true (by dsimp only; omega))) rfl), fun _ _ _ _ _ => rfl, rfl⟩
    · rw [show (s 0).toInt.toNat - h = ((s 0).toInt.toNat - (h + 1)) + 1 by omega]
      have g : zcmp .ge (Int32.ofNat h) (s 0) = false := zc.trans (decide_eq_false (by omega))
      obtain ⟨m2, z1, z2⟩ := c151_2 (F := F) (kd := kd) hF I (h := h) (by omega) F (m := m) (d := 0) R (by omega) (by omega)
      have z1 : D151_0 F (Int32.ofNat h) kd m = _ := z1
      rw [Nat.sub_zero] at z1
      have nx : ∀ {v' : Int32}, ∃ m', D150_0_51 F (D150_0_25 F f) kd v' (Int32.ofNat h) m2 = some (sfb s kd (h + 1) ((s 0).toInt.toNat - (h + 1)) v', m') ∧ kSf m m' := fun {v'} => by
        obtain ⟨m', d1, d2⟩ := ih (m := m2) (h := h + 1) (v := v') (by rw [z2.1 10 (by decide) (by decide) (by decide) (by decide)]; exact R) (by omega) (by omega)
        refine ⟨m', ?_, kSf_t z2 d2⟩
        unfold D150_0_51
        rw [(o1 (n := h) (by omega)).2.2]
        exact d1
      show ∃ m', _ = some (sfb s kd (h + 1) ((s 0).toInt.toNat - (h + 1)) (if sff s h kd 0 (s 0).toInt.toNat = true then v ||| (1 <<< (Int32.ofNat h &&& 31)) else v), m') ∧ _
      cases w : sff s h kd 0 (s 0).toInt.toNat with
      | true =>
        rw [w] at z1
        rw [if_pos rfl]
        obtain ⟨m', d1, d2⟩ := nx (v' := v ||| (1 <<< (Int32.ofNat h &&& 31)))
        exact ⟨m', ob r77 (oF g (ob z1 (oF (zeF rfl) d1))), d2⟩
      | false =>
        rw [w] at z1
        rw [if_neg (by decide)]
        obtain ⟨m', d1, d2⟩ := nx (v' := v)
        exact ⟨m', ob r77 (oF g (ob z1 (oT (zeT rfl) d1))), d2⟩
/-- the reference -/
theorem r270_2 (hF : 120000 ≤ F) (I : vI s) {kd : Int32} {h : Nat} (hh : (h : Int) < (s 0).toInt) : ∀ (f : Nat) {m : xS} {t : Nat}, m.1 80 = s → (t : Int) ≤ (s 2).toInt → 7 - t < f → ∃ m', D270_2 F f (Int32.ofNat h) kd (Int32.ofNat t) m = some (pB (cgf s h kd t ((s 2).toInt.toNat - t)), m') ∧ kmt m m' := by
  have n6 := I_n6 I
  have n2 := I_nt I
  have l0 : (0 : Int32).toInt = 0 := rfl
  intro f
  induction f with
  | zero => intro m t _ _ l; omega
  | succ f ih =>
    intro m t es ht l
    have et := nJ (n := t) (by omega)
    unfold D270_2
    rw [es]
    by_cases q : (s 2).toInt ≤ (t : Int)
    · rw [show (s 2).toInt.toNat - t = 0 by omega]
      exact ⟨m, oT (zc.trans (decide_eq_true (by omega))) rfl, kmt_r m⟩
    · rw [show (s 2).toInt.toNat - t = ((s 2).toInt.toNat - (t + 1)) + 1 by omega]
      have g : zcmp .ge (Int32.ofNat t) (s 2) = false := zc.trans (decide_eq_false (by omega))
      have t6 : t < 6 := by omega
      have nx : ∀ {m2 : xS}, kmt m m2 → ∃ m', D270_44 F (D270_2 F f) (Int32.ofNat h) kd (Int32.ofNat t) m2 = some (pB (cgf s h kd (t + 1) ((s 2).toInt.toNat - (t + 1))), m') ∧ kmt m m' := fun {m2} k2 => by
        obtain ⟨m', d1, d2⟩ := ih (m := m2) (t := t + 1) (kmt_80 k2 es) (by omega) (by omega)
        refine ⟨m', ?_, kmt_t k2 d2⟩
        unfold D270_44
        rw [(o1 (n := t) (by omega)).2.2]
        exact d1
      have r1 := r208 (F := F) (m := m) (t := t) (w := 1) rfl rfl t6 (by decide)
      have r0 := r208 (F := F) (m := m) (t := t) (w := 0) rfl rfl t6 (by decide)
      rw [es] at r1 r0
      show ∃ m', _ = some (pB ((s (10 + 6 * t + 1) == kd && (!(s (10 + 6 * t) == Int32.ofNat h) && decide (0 ≤ (cvl s t h false).toInt))) || cgf s h kd (t + 1) ((s 2).toInt.toNat - (t + 1))), m') ∧ _
      by_cases c1 : s (10 + 6 * t + 1) = kd
      · have g1 : zcmp .ne (s (10 + 6 * t + 1)) kd = false := by
          rw [zcn, c1, beq_self_eq_true]
          rfl
        rw [beq_iff_eq.mpr c1, Bool.true_and]
        by_cases c2 : s (10 + 6 * t) = Int32.ofNat h
        · have g2 : zcmp .eq (s (10 + 6 * t + 0)) (Int32.ofNat h) = true := by
            rw [Nat.add_zero, zce]
            exact beq_iff_eq.mpr c2
          obtain ⟨m', d1, d2⟩ := nx (m2 := m) (kmt_r m)
          rw [beq_iff_eq.mpr c2, Bool.not_true, Bool.false_and, Bool.false_or]
          exact ⟨m', oF g (ob r1 (oF g1 (ob r0 (oT g2 d1)))), d2⟩
        · have g2 : zcmp .eq (s (10 + 6 * t + 0)) (Int32.ofNat h) = false := by
            rw [Nat.add_zero, zce]
            exact beq_eq_false_iff_ne.mpr c2
          obtain ⟨m1, y1, y2, -⟩ := r251 (F := F) (m := m) (t := t) (h := h) (lg := false) (v3 := 0) (by decide) hF (by rw [es]; exact I) (by rw [es]; omega) (by rw [es]; exact hh)
          rw [es] at y1
          rw [beq_eq_false_iff_ne.mpr c2, Bool.not_false, Bool.true_and]
          by_cases c3 : (cvl s t h false).toInt < 0
          · obtain ⟨m', d1, d2⟩ := nx (m2 := m1) (kmt_c y2)
            rw [decide_eq_false (by omega), Bool.false_or]
            exact ⟨m', oF g (ob r1 (oF g1 (ob r0 (oF g2 (ob y1 (oT (zcl.trans (decide_eq_true (by dsimp only; omega))) d1)))))), d2⟩
          · rw [decide_eq_true (by omega), Bool.true_or]
            exact ⟨m1, oF g (ob r1 (oF g1 (ob r0 (oF g2 (ob y1 (oF (zcl.trans (decide_eq_false (by dsimp only; omega))) rfl)))))), kmt_c y2⟩
      · have g1 : zcmp .ne (s (10 + 6 * t + 1)) kd = true := by
          rw [zcn, beq_eq_false_iff_ne.mpr c1]
          rfl
        obtain ⟨m', d1, d2⟩ := nx (m2 := m) (kmt_r m)
        rw [beq_eq_false_iff_ne.mpr c1, Bool.false_and, Bool.false_or]
        exact ⟨m', oF g (ob r1 (oT g1 d1)), d2⟩
theorem r271_2 (hF : 120000 ≤ F) (I : vI s) {kd : Int32} {h : Nat} (hh : (h : Int) < (s 0).toInt) : ∀ (f : Nat) {m : xS} {d : Nat}, m.1 80 = s → (d : Int) ≤ (s 0).toInt → 7 - d < f → ∃ m', D271_2 F f (Int32.ofNat h) kd (Int32.ofNat d) m = some (pB (sff s h kd d ((s 0).toInt.toNat - d)), m') ∧ m'.1 80 = s := by
  have n6 := I_n6 I
  have n2 := I_nt I
  intro f
  induction f with
  | zero => intro m d _ _ l; omega
  | succ f ih =>
    intro m d es hd l
    have ed := nJ (n := d) (by omega)
    unfold D271_2
    rw [es]
    by_cases q : (s 0).toInt ≤ (d : Int)
    · rw [show (s 0).toInt.toNat - d = 0 by omega]
      exact ⟨m, oT (zc.trans (decide_eq_true (by omega))) rfl, es⟩
    · rw [show (s 0).toInt.toNat - d = ((s 0).toInt.toNat - (d + 1)) + 1 by omega]
      have g : zcmp .ge (Int32.ofNat d) (s 0) = false := zc.trans (decide_eq_false (by omega))
      have d6 : d < 6 := by omega
      have h6 : h < 6 := by omega
      have nx : ∀ {m2 : xS}, m2.1 80 = s → ∃ m', D271_49 F (D271_2 F f) (Int32.ofNat h) kd (Int32.ofNat d) m2 = some (pB (sff s h kd (d + 1) ((s 0).toInt.toNat - (d + 1))), m') ∧ m'.1 80 = s := fun {m2} k1 => by
        obtain ⟨m', d1, d2⟩ := ih (m := m2) (d := d + 1) k1 (by omega) (by omega)
        refine ⟨m', ?_, d2⟩
        unfold D271_49
        rw [(o1 (n := d) (by omega)).2.2]
        exact d1
      show ∃ m', _ = some (pB ((d == h || cgf (pqu s h d) h kd 0 (s 2).toInt.toNat) && sff s h kd (d + 1) ((s 0).toInt.toNat - (d + 1))), m') ∧ _
      by_cases c : d = h
      · have g1 : zcmp .ne (Int32.ofNat d) (Int32.ofNat h) = false := by
          rw [zcn, c, beq_self_eq_true]
          rfl
        obtain ⟨m', d1, d2⟩ := nx (m2 := m) es
        rw [beq_iff_eq.mpr c, Bool.true_or, Bool.true_and]
        exact ⟨m', oF g (oF g1 d1), d2⟩
      · have g1 : zcmp .ne (Int32.ofNat d) (Int32.ofNat h) = true := by
          rw [zcn, beq_eq_false_iff_ne.mpr (fun z => c ((xeq (by omega) (by omega)).mp z))]
          rfl
        obtain ⟨cc, z1, z2⟩ := r259 (F := F) (m := m) (by omega)
        have J := I_qu I h6 d6
        have y1 := r229 (F := F) (m := xr m 84 cc) (a := h) (d := d) (v1 := Int32.ofNat h) (v2 := Int32.ofNat d) rfl rfl h6 d6
        rw [xr_o (by decide), es] at y1
        obtain ⟨m3, w1, k3⟩ := r270_2 (s := pqu s h d) (F := F) (kd := kd) hF J (h := h) (by rw [pqu_46 h6 d6 (by decide)]; exact hh) F (m := xr (xr m 84 cc) 80 (pqu s h d)) (t := 0) (xr_s _ _ _) (by have := I_nt J; omega) (by omega)
        have w1 : D270 F (Int32.ofNat h) kd (xr (xr m 84 cc) 80 (pqu s h d)) = _ := w1
        rw [Nat.sub_zero, pqu_46 h6 d6 (by decide)] at w1
        obtain ⟨u1, u2⟩ := kow_b (F := F) (by omega) es z2 k3 (fun j hj => pqu_k h6 d6 hj)
        rw [beq_eq_false_iff_ne.mpr c, Bool.false_or]
        cases w : cgf (pqu s h d) h kd 0 (s 2).toInt.toNat with
        | true =>
          rw [w] at w1
          obtain ⟨m', d1, d2⟩ := nx (m2 := xr m3 80 s) (xr_s _ _ _)
          rw [Bool.true_and]
          exact ⟨m', oF g (oT g1 (ob z1 (ob y1 (ob w1 (ob u1 (oT (znT rfl) d1)))))), d2⟩
        | false =>
          rw [w] at w1
          rw [Bool.false_and]
          exact ⟨_, oF g (oT g1 (ob z1 (ob y1 (ob w1 (ob u1 (oF (znF rfl) rfl)))))), xr_s _ _ _⟩
theorem r272_25 (hF : 120000 ≤ F) {kd : Int32} (I : vI s) : ∀ (f : Nat) {m : xS} {h : Nat} {v : Int32}, m.1 80 = s → (h : Int) ≤ (s 0).toInt → 7 - h < f → ∃ m', D272_25 F f kd v (Int32.ofNat h) m = some (sfb s kd h ((s 0).toInt.toNat - h) v, m') := by
  have n6 := I_n6 I
  intro f
  induction f with
  | zero => intro m h v _ _ l; omega
  | succ f ih =>
    intro m h v es hh l
    have eh := nJ (n := h) (by omega)
    unfold D272_25
    rw [es]
    by_cases q : (s 0).toInt ≤ (h : Int)
    · rw [show (s 0).toInt.toNat - h = 0 by omega]
      exact ⟨m, oT (zc.trans (decide_eq_true (by omega))) rfl⟩
    · rw [show (s 0).toInt.toNat - h = ((s 0).toInt.toNat - (h + 1)) + 1 by omega]
      have g : zcmp .ge (Int32.ofNat h) (s 0) = false := zc.trans (decide_eq_false (by omega))
      obtain ⟨m2, z1, z2⟩ := r271_2 (F := F) (kd := kd) hF I (h := h) (by omega) F (m := m) (d := 0) es (by omega) (by omega)
      have z1 : D271 F (Int32.ofNat h) kd m = _ := z1
      rw [Nat.sub_zero] at z1
      have nx : ∀ {w0 : Int32}, ∃ m', D272_52 F (D272_25 F f) kd v (Int32.ofNat h) w0 v m2 = some (sfb s kd (h + 1) ((s 0).toInt.toNat - (h + 1)) (v ||| w0), m') := fun {w0} => by
        obtain ⟨m', d1⟩ := ih (m := m2) (h := h + 1) (v := v ||| w0) z2 (by omega) (by omega)
        refine ⟨m', ?_⟩
        unfold D272_52
        rw [(o1 (n := h) (by omega)).2.2]
        exact d1
      show ∃ m', _ = some (sfb s kd (h + 1) ((s 0).toInt.toNat - (h + 1)) (if sff s h kd 0 (s 0).toInt.toNat = true then v ||| (1 <<< (Int32.ofNat h &&& 31)) else v), m')
      cases w : sff s h kd 0 (s 0).toInt.toNat with
      | true =>
        rw [w] at z1
        rw [if_pos (show true = true from rfl)]
        obtain ⟨m', d1⟩ := nx (w0 := 1 <<< (Int32.ofNat h &&& 31))
        exact ⟨m', oF g (ob z1 (oF (zeF rfl) d1))⟩
      | false =>
        rw [w] at z1
        rw [if_neg (show ¬ (false = true) by decide)]
        obtain ⟨m', d1⟩ := nx (w0 := 0)
        rw [Int32.or_zero] at d1
        exact ⟨m', oF g (ob z1 (oT (zeT rfl) d1))⟩
theorem vSafe (hF : 120000 ≤ F) {y1 : Int32} (es : m.1 80 = s) (R : R32 s (m.1 10)) (I : vI s) : ∃ v m1, D150_0 F y1 m = some (v, m1) ∧ m1.1 80 = m.1 80 ∧ ∀ m2 : xS, m2.1 80 = s → ∃ m3, D272 F y1 m2 = some (v, m3) := by
  have l0 : (0 : Int32).toInt = 0 := rfl
  have l5 : (5 : Int32).toInt = 5 := rfl
  have n6 := I_n6 I
  have n0 := I_n0 I
  unfold D150_0 D272
  by_cases a : 0 < (s 0).toInt
  · by_cases b : 0 ≤ y1.toInt ∧ y1.toInt ≤ 4
    · obtain ⟨m1, d1, d2⟩ := c150_25 (F := F) (kd := y1) (by omega) I F (m := m) (h := 0) (v := 0) R (by omega) (by omega)
      refine ⟨_, m1, ob (c76_9 R) (oF (zeF (decide_eq_true a)) (oF (zcl.trans (decide_eq_false (by omega))) (oT (zcl.trans (decide_eq_true (by omega))) d1))), d2.1 80 (by decide) (by decide) (by decide) (by decide), fun m2 e2 => ?_⟩
      obtain ⟨m3, f1⟩ := r272_25 (F := F) (kd := y1) hF I F (m := m2) (h := 0) (v := 0) e2 (by omega) (by omega)
      exact ⟨m3, ob r204 (oF (zeF (by rw [e2]; exact decide_eq_true a)) (ob (r158 (x := 0) (y := 4) rfl rfl) (oT (znT (by rw [decide_eq_true b.1, decide_eq_true b.2]; rfl)) f1)))⟩
    · refine ⟨-1, m, ob (c76_9 R) (oF (zeF (decide_eq_true a)) ?_), rfl, fun m2 e2 => ⟨m2, ob r204 (oF (zeF (by rw [e2]; exact decide_eq_true a)) (ob (r158 (x := 0) (y := 4) rfl rfl) (oF (znF ?_) rfl)))⟩⟩
      · by_cases q : y1.toInt < 0
        · exact oT (zcl.trans (decide_eq_true (by omega))) rfl
        · exact oF (zcl.trans (decide_eq_false (by omega))) (oF (zcl.trans (decide_eq_false (by omega))) rfl)
      · rw [← Bool.not_eq_true, Bool.and_eq_true, decide_eq_true_eq, decide_eq_true_eq]
        exact b
  · exact ⟨-1, m, ob (c76_9 R) (oT (zeT (decide_eq_false a)) rfl), rfl, fun m2 e2 => ⟨m2, ob r204 (oT (zeT (by rw [e2]; exact decide_eq_false a)) rfl)⟩⟩
end PSAF
theorem nSafe1 {y1 : Int32} : lP MR 150 272 [.int y1] true := eC (as := [y1].map .int) nSafe (Dc := D150_0 200000 y1) (Dr := D272 200000 y1) (fun {_} H {_} h => Z150_0 H h (by decide)) (fun {_} H {_} h => Z272 H h (by decide)) (eH2 (yt861 yXx.1) (na := 1) (bl := []) (by decide +kernel) [y1] rfl (fun s hs => by cases hs)) (fun m R I => vSafe (F := 200000) (by decide) rfl R I.1)
