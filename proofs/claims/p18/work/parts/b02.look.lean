/-! The class looks. -/
theorem mx0 {x : Int32} : (if (0 : Int32) < x then x else 0) = if x.toInt < 0 then 0 else x := by
  by_cases l : x.toInt < 0
  · rw [if_pos l, if_neg (fun q => by
      have q : (0 : Int) < x.toInt := Int32.lt_iff_toInt_lt.mp q
      omega)]
  · rw [if_neg l]
    by_cases e : x.toInt = 0
    · rw [if_neg (fun q => by
        have q : (0 : Int) < x.toInt := Int32.lt_iff_toInt_lt.mp q
        omega)]
      exact (Int32.toInt_inj.mp e).symm
    · rw [if_pos (Int32.lt_iff_toInt_lt.mpr (by show (0 : Int) < _; omega))]
section CG_9
variable {s : Nat → Int32} {m : xS} {F : Nat}
theorem c79_9 (R : R32 s (m.1 10)) : D79_9 F m = some (s 2, m) := by
  unfold D79_9
  rw [R_j R (by decide)]
theorem c80_9 (R : R32 s (m.1 10)) : D80_9 F m = some (s 3, m) := by
  unfold D80_9
  rw [R_j R (by decide)]
theorem c77_9 (R : R32 s (m.1 10)) : D77_9 F m = some (s 0, m) := by
  unfold D77_9
  rw [R_j R (by decide)]
theorem c78_9 (R : R32 s (m.1 10)) : D78_9 F m = some (s 1, m) := by
  unfold D78_9
  rw [R_j R (by decide)]
theorem c81_9 (R : R32 s (m.1 10)) : D81_9 F m = some (s 4, m) := by
  unfold D81_9
  rw [R_j R (by decide)]
theorem c82_9 (R : R32 s (m.1 10)) : D82_9 F m = some (s 5, m) := by
  unfold D82_9
  rw [R_j R (by decide)]
theorem c83_9 (R : R32 s (m.1 10)) {v : Int32} : D83_9 F v m = some (pB (pin s 2 v), m) := by
  unfold D83_9 D83_9_16
  refine oi (p := decide (v.toInt < 0)) zcl (fun h => ?_) (fun h => ob (c79_9 R) (oi (p := decide ((s 2).toInt ≤ v.toInt)) zc (fun h2 => ?_) (fun h2 => ?_)))
  · have h := of_decide_eq_true h
    rw [show pin s 2 v = false by unfold pin; rw [decide_eq_false (by omega), Bool.false_and]]
    rfl
  · have h2 := of_decide_eq_true h2
    rw [show pin s 2 v = false by unfold pin; rw [decide_eq_false (p := v.toInt < (s 2).toInt) (by omega), Bool.and_false]]
    rfl
  · have h := of_decide_eq_false h
    have h2 := of_decide_eq_false h2
    rw [pin_iff.mpr (by omega)]
    rfl
theorem c84_9 (R : R32 s (m.1 10)) {v : Int32} : D84_9 F v m = some (pB (pin s 3 v), m) := by
  unfold D84_9 D84_9_16
  refine oi (p := decide (v.toInt < 0)) zcl (fun h => ?_) (fun h => ob (c80_9 R) (oi (p := decide ((s 3).toInt ≤ v.toInt)) zc (fun h2 => ?_) (fun h2 => ?_)))
  · have h := of_decide_eq_true h
    rw [show pin s 3 v = false by unfold pin; rw [decide_eq_false (by omega), Bool.false_and]]
    rfl
  · have h2 := of_decide_eq_true h2
    rw [show pin s 3 v = false by unfold pin; rw [decide_eq_false (p := v.toInt < (s 3).toInt) (by omega), Bool.and_false]]
    rfl
  · have h := of_decide_eq_false h
    have h2 := of_decide_eq_false h2
    rw [pin_iff.mpr (by omega)]
    rfl
theorem c85_9 (R : R32 s (m.1 10)) {v : Int32} : D85_9 F v m = some (pB (pin s 0 v), m) := by
  unfold D85_9 D85_9_16
  refine oi (p := decide (v.toInt < 0)) zcl (fun h => ?_) (fun h => ob (c77_9 R) (oi (p := decide ((s 0).toInt ≤ v.toInt)) zc (fun h2 => ?_) (fun h2 => ?_)))
  · have h := of_decide_eq_true h
    rw [show pin s 0 v = false by unfold pin; rw [decide_eq_false (by omega), Bool.false_and]]
    rfl
  · have h2 := of_decide_eq_true h2
    rw [show pin s 0 v = false by unfold pin; rw [decide_eq_false (p := v.toInt < (s 0).toInt) (by omega), Bool.and_false]]
    rfl
  · have h := of_decide_eq_false h
    have h2 := of_decide_eq_false h2
    rw [pin_iff.mpr (by omega)]
    rfl
theorem c87_9 (R : R32 s (m.1 10)) {t w : Nat} {v1 v2 : Int32} (h1 : v1 = Int32.ofNat t) (h2 : v2 = Int32.ofNat w) (ht : t < 6) (hw : w < 6) : D87_9 F v1 v2 m = some (s (10 + 6 * t + w), m) := by
  subst h1
  subst h2
  have i := ix6 (A := 6) (B := 6) (a := w) (d := t) rfl (by decide) (by omega) (by omega)
  unfold D87_9
  rw [gxn i, if_pos (gxb i (by omega)), R_t R ht hw]
theorem c89_9 (R : R32 s (m.1 10)) {w k : Nat} {v1 v2 : Int32} (h1 : v1 = Int32.ofNat w) (h2 : v2 = Int32.ofNat k) (hw : w < 6) (hk : k < 4) : D89_9 F v1 v2 m = some (s (124 + 4 * w + k), m) := by
  subst h1
  subst h2
  have i := ix6 (A := 42) (B := 42) (a := k) (d := w) rfl (by decide) (by omega) (by omega)
  unfold D89_9
  rw [gxn i, if_pos (gxb i (by omega)), R_w R hw hk]
theorem c89d_9 (R : R32 s (m.1 10)) {w : Nat} {v1 : Int32} (h1 : v1 = Int32.ofNat w) (hw : w < 6) (h3 : (w : Int) < (s 3).toInt) : D89_9 F v1 4 m = some (s (118 + w), m) := by
  subst h1
  have i := ix6 (A := 42) (B := 42) (a := 4) (d := w) rfl (by decide) (by omega) (by omega)
  have i : ((42 : Int32) + 6 * 4 + Int32.ofNat w).toInt = ((66 + w : Nat) : Int) := i
  unfold D89_9
  rw [gxn i, if_pos (gxb i (by omega)), R_d R hw h3]
theorem c97_9 (R : R32 s (m.1 10)) {t : Nat} {v1 : Int32} (h1 : v1 = Int32.ofNat t) (ht : t < 6) : D97_9 F v1 m = some (pB (phm s t), m) := by
  unfold D97_9
  refine ob (c87_9 R h1 (w := 3) rfl ht (by decide)) (ob (c87_9 R h1 (w := 0) rfl ht (by decide)) (oi (p := !phm s t) zcn (fun h => ?_) (fun h => ?_)))
  · rw [show phm s t = false by simpa using h]
    rfl
  · rw [show phm s t = true by simpa using h]
    rfl
theorem c98_9 (R : R32 s (m.1 10)) (I : vI s) {t : Nat} {v1 : Int32} (h1 : v1 = Int32.ofNat t) (ht : (t : Int) < (s 2).toInt) : D98_9 F v1 m = some (prs s t, m) := by
  have t6 : t < 6 := by have := I_nt I; omega
  unfold D98_9
  refine ob (c87_9 R h1 (w := 5) rfl t6 (by decide)) (ob (c78_9 R) ?_)
  refine congrArg (fun z => some (z, m)) ?_
  dsimp only
  unfold prs
  rw [mx0]
  by_cases hm : phm s t = true
  · have z := (I.2.1 t ht).2.2.1 (eq_of_beq hm)
    have l0 := I_late I
    rw [if_pos (Or.inl hm), z.2]
    by_cases l : ((0 : Int32) - s 1).toInt < 0
    · rw [if_pos l]
    · rw [if_neg l]
      have e : ((0 : Int32) - s 1).toInt = 0 - (s 1).toInt := xs1 (by show _ ≤ (0 : Int) - _; have := y32 (s 1); omega) (by show (0 : Int) - _ ≤ _; omega)
      exact Int32.toInt_inj.mp (by show _ = (0 : Int); omega)
  · by_cases l : (s (10 + 6 * t + 5) - s 1).toInt < 0
    · rw [if_pos (Or.inr l), if_pos l]
    · rw [if_neg (fun z => Or.elim z hm l), if_neg l]
theorem c100_14_9 (R : R32 s (m.1 10)) (I : vI s) {t : Nat} {v1 v2 : Int32} (h1 : v1 = Int32.ofNat t) (ht : (t : Int) < (s 2).toInt) : D100_9_14 F v1 v2 m = some (psh0 s t v2, m) := by
  have t6 : t < 6 := by have := I_nt I; omega
  unfold D100_9_14
  refine ob (c87_9 R h1 (w := 2) rfl t6 (by decide)) (ob (c87_9 R h1 (w := 4) rfl t6 (by decide)) (ob (c98_9 R I h1 ht) ?_))
  refine congrArg (fun z => some (z, m)) ?_
  dsimp only
  unfold psh0
  generalize s (10 + 6 * t + 2) + s (10 + 6 * t + 4) + v2 - prs s t = x
  rw [mx0]
theorem c100_9 (R : R32 s (m.1 10)) (I : vI s) {t : Nat} {v1 v2 : Int32} (h1 : v1 = Int32.ofNat t) (ht : (t : Int) < (s 2).toInt) : D100_9 F v1 v2 m = some (psh s t v2, m) := by
  have t6 : t < 6 := by have := I_nt I; omega
  unfold D100_9 psh
  refine oi (p := !(v2 == 0)) zcn (fun h => ?_) (fun h => ?_)
  · have h : ¬ v2 = 0 := by simpa using h
    rw [if_neg (fun z => h z.1)]
    exact c100_14_9 R I h1 ht
  · have h : v2 = 0 := by simpa using h
    refine ob (c97_9 R h1 t6) (oi (p := !phm s t) pB1 (fun h2 => ?_) (fun h2 => ?_))
    · have h2 : phm s t = false := by simpa using h2
      rw [if_neg (fun z => by rw [h2] at z; cases z.2)]
      exact c100_14_9 R I h1 ht
    · have h2 : phm s t = true := by simpa using h2
      rw [if_pos ⟨h, h2⟩]
theorem c99_9 (R : R32 s (m.1 10)) (I : vI s) {t : Nat} {v1 : Int32} (h1 : v1 = Int32.ofNat t) (ht : (t : Int) < (s 2).toInt) : D99_9 F v1 m = some (psh s t 0, m) := by
  unfold D99_9
  exact ob (c100_9 R I h1 ht) rfl
theorem c106_9 (R : R32 s (m.1 10)) (I : vI s) {w : Nat} {v1 : Int32} (h1 : v1 = Int32.ofNat w) (hw : (w : Int) < (s 3).toInt) : D106_9 F v1 m = some (pB (pdn s w), m) := by
  have w6 : w < 6 := by have := (I_nw I); omega
  have l := (I.2.2.1 w hw).2
  unfold D106_9
  refine ob (c89d_9 R h1 w6 hw) (oi (p := s (118 + w) == -1) zce (fun h => ?_) (fun h => ?_))
  · have h : s (118 + w) = -1 := by simpa using h
    rw [show pdn s w = false by unfold pdn; rw [h]; decide]
    rfl
  · have h : ¬ s (118 + w) = -1 := by simpa using h
    have : (s (118 + w)).toInt ≠ -1 := fun z => h (Int32.toInt_inj.mp z)
    rw [show pdn s w = true by unfold pdn; exact decide_eq_true (by omega)]
    rfl
theorem c107_12_9 (R : R32 s (m.1 10)) (I : vI s) {w : Nat} {v1 : Int32} (h1 : v1 = Int32.ofNat w) (hw : (w : Int) < (s 3).toInt) : ∀ (f : Nat) {t : Nat}, (t : Int) ≤ (s 2).toInt → 6 - t < f → D107_9_12 F f v1 (Int32.ofNat t) m = some (pB ((List.range' t ((s 2).toInt.toNat - t)).any (pfit s w)), m) := by
  have w6 : w < 6 := by have := (I_nw I); omega
  have n6 := I_nt I
  intro f
  induction f with
  | zero => intro t _ l; omega
  | succ f ih =>
    intro t ht l
    have et := nJ (n := t) (by omega)
    unfold D107_9_12
    refine ob (c79_9 R) (oi (p := decide ((s 2).toInt ≤ (Int32.ofNat t).toInt)) zc (fun h => ?_) (fun h => ?_))
    · have h := of_decide_eq_true h
      rw [show (s 2).toInt.toNat - t = 0 by omega]
      rfl
    · have h := of_decide_eq_false h
      have t2 : (t : Int) < (s 2).toInt := by omega
      have next : D107_9_66 F (D107_9_12 F f) v1 (Int32.ofNat t) m = some (pB ((List.range' (t + 1) ((s 2).toInt.toNat - (t + 1))).any (pfit s w)), m) := by
        unfold D107_9_66
        rw [show Int32.ofNat t + Int32.ofInt 1 = Int32.ofNat (t + 1) from xadd (a := t) (b := 1) (by omega)]
        exact ih (by omega) (by omega)
      rw [show (s 2).toInt.toNat - t = ((s 2).toInt.toNat - (t + 1)) + 1 by omega, List.range'_succ, List.any_cons]
      refine ob (c87_9 R (t := t) (w := 1) rfl rfl (by omega) (by decide)) (ob (c89_9 R h1 (k := 1) rfl w6 (by decide)) (oi (p := !(s (10 + 6 * t + 1) == s (124 + 4 * w + 1))) zcn (fun a => ?_) (fun a => ?_)))
      · rw [show pfit s w t = false by unfold pfit; rw [show (s (10 + 6 * t + 1) == s (124 + 4 * w + 1)) = false by simpa using a, Bool.false_and], Bool.false_or]
        exact next
      have a : (s (10 + 6 * t + 1) == s (124 + 4 * w + 1)) = true := by simpa using a
      refine ob (c87_9 R (t := t) (w := 3) rfl rfl (by omega) (by decide)) (ob (c89_9 R h1 (k := 0) rfl w6 (by decide)) (oi (p := !(s (10 + 6 * t + 3) == s (124 + 4 * w))) zcn (fun b => ?_) (fun b => ?_)))
      · rw [show pfit s w t = false by unfold pfit; rw [show (s (10 + 6 * t + 3) == s (124 + 4 * w)) = false by simpa using b, Bool.false_and, Bool.and_false], Bool.false_or]
        exact next
      have b : (s (10 + 6 * t + 3) == s (124 + 4 * w)) = true := by simpa using b
      refine ob (c99_9 R I (t := t) rfl t2) (ob (c89_9 R h1 (k := 2) rfl w6 (by decide)) (oi (p := decide ((psh s t 0).toInt < (s (124 + 4 * w + 2)).toInt)) zcl (fun g => ?_) (fun g => ?_)))
      · have g := of_decide_eq_true g
        rw [show pfit s w t = false by unfold pfit; rw [a, b, decide_eq_false (by omega)]; rfl, Bool.false_or]
        exact next
      · have g := of_decide_eq_false g
        rw [show pfit s w t = true by unfold pfit; rw [a, b, decide_eq_true (by omega)]; rfl, Bool.true_or]
        rfl
theorem c107_9 (hF : 500 ≤ F) (R : R32 s (m.1 10)) (I : vI s) {w : Nat} {v1 : Int32} (h1 : v1 = Int32.ofNat w) (hw : (w : Int) < (s 3).toInt) : D107_9 F v1 m = some (pB (pcd s w), m) := by
  have n6 := I_nt I
  unfold D107_9 pcd
  refine ob (c106_9 R I h1 hw) (oi (p := !pdn s w) pB1 (fun h => ?_) (fun h => ?_))
  · have z := c107_12_9 (F := F) R I h1 hw F (t := 0) (by omega) (by omega)
    rw [Nat.sub_zero, ← List.range_eq_range'] at z
    rw [h, Bool.true_and]
    exact z
  · rw [h, Bool.false_and]
    rfl
theorem c91_9 (R : R32 s (m.1 10)) {a : Nat} {v1 : Int32} (h1 : v1 = Int32.ofNat a) (ha : a < 6) : D91_9 F v1 m = some (m.1 10 (72 + a), m) := by
  subst h1
  have i := ix1 (A := 72) (B := 72) (d := a) rfl (by decide) (by omega)
  unfold D91_9
  rw [gxn i, if_pos (gxb i (by omega))]
theorem c92_9 (hT : xT m) (R : R32 s (m.1 10)) {a d : Nat} {v1 v2 : Int32} (h1 : v1 = Int32.ofNat a) (h2 : v2 = Int32.ofNat d) (ha : a < 6) (hd : d < 6) : D92_9 F v1 v2 m = some (pB (ptr s a d), m) := by
  have b := b63 hT (r := 10) rfl (by decide) ha
  subst h2
  unfold D92_9
  refine ob (c91_9 R h1 ha) (oi (p := !ptr s a d) ?_ (fun h => ?_) (fun h => ?_))
  · rw [tbq b.1 b.2 hd, R_tr R ha hd]
  · rw [show ptr s a d = false by simpa using h]
    rfl
  · rw [show ptr s a d = true by simpa using h]
    rfl
theorem c94_9 (R : R32 s (m.1 10)) {a d : Nat} {v1 v2 : Int32} (h1 : v1 = Int32.ofNat a) (h2 : v2 = Int32.ofNat d) (ha : a < 6) (hd : d < 6) : D94_9 F v1 v2 m = some (s (82 + 6 * a + d), m) := by
  subst h1
  subst h2
  have i := ix6 (A := 78) (B := 78) (a := a) (d := d) rfl (by decide) (by omega) (by omega)
  unfold D94_9
  rw [gxn i, if_pos (gxb i (by omega)), R_h R ha hd]
theorem c101_9 (hT : xT m) (R : R32 s (m.1 10)) (I : vI s) {t h : Nat} {v1 v2 : Int32} (h1 : v1 = Int32.ofNat t) (h2 : v2 = Int32.ofNat h) (ht : (t : Int) < (s 2).toInt) (hh : h < 6) : D101_9 F v1 v2 m = some (pB (pcl s t h), m) := by
  have t6 : t < 6 := by have := I_nt I; omega
  have it := I.2.1 t ht
  have n6 := I_n6 I
  have eh : s (10 + 6 * t + 3) = Int32.ofNat (s (10 + 6 * t + 3)).toInt.toNat := i32n (by omega)
  subst h2
  unfold D101_9 D101_9_28
  refine ob (c87_9 R h1 (w := 0) rfl t6 (by decide)) (oi (p := Int32.ofNat h == s (10 + 6 * t)) zce (fun a => ?_) (fun a => ?_))
  · have a : Int32.ofNat h = s (10 + 6 * t) := by simpa using a
    rw [show pcl s t h = false by unfold pcl; rw [← a]; simp]
    rfl
  have a : ¬ Int32.ofNat h = s (10 + 6 * t) := by simpa using a
  have a2 : (s (10 + 6 * t) == Int32.ofNat h) = false := by
    simp only [beq_eq_false_iff_ne]
    exact fun z => a z.symm
  refine ob (c87_9 R h1 (w := 3) rfl t6 (by decide)) (ob (c92_9 hT R (a := (s (10 + 6 * t + 3)).toInt.toNat) eh rfl (by omega) hh) (oi (p := !ptr s (s (10 + 6 * t + 3)).toInt.toNat h) pB1 (fun b => ?_) (fun b => ?_)))
  · have b : ptr s (s (10 + 6 * t + 3)).toInt.toNat h = false := by simpa using b
    rw [show pcl s t h = false by unfold pcl; rw [b]; simp]
    rfl
  · have b : ptr s (s (10 + 6 * t + 3)).toInt.toNat h = true := by simpa using b
    have ne : (s (10 + 6 * t + 3) == Int32.ofNat h) = false := by
      simp only [beq_eq_false_iff_ne]
      intro z
      have dg := (I.2.2.2.1 h hh).1
      rw [z, nJ (by omega), Int.toNat_natCast] at b
      unfold ptr at b
      rw [dg] at b
      exact absurd b (by decide)
    rw [show pcl s t h = true by unfold pcl; rw [b, ne, a2]; rfl]
    rfl
end CG_9
section CG_11t
variable {s : Nat → Int32} {m : xS} {F : Nat}
theorem c79_11t (R : R32 s (m.1 12)) : D79_11t F m = some (s 2, m) := by
  unfold D79_11t
  rw [R_j R (by decide)]
theorem c80_11t (R : R32 s (m.1 12)) : D80_11t F m = some (s 3, m) := by
  unfold D80_11t
  rw [R_j R (by decide)]
theorem c77_11t (R : R32 s (m.1 12)) : D77_11t F m = some (s 0, m) := by
  unfold D77_11t
  rw [R_j R (by decide)]
theorem c78_11t (R : R32 s (m.1 12)) : D78_11t F m = some (s 1, m) := by
  unfold D78_11t
  rw [R_j R (by decide)]
theorem c81_11t (R : R32 s (m.1 12)) : D81_11t F m = some (s 4, m) := by
  unfold D81_11t
  rw [R_j R (by decide)]
theorem c82_11t (R : R32 s (m.1 12)) : D82_11t F m = some (s 5, m) := by
  unfold D82_11t
  rw [R_j R (by decide)]
theorem c87_11t (R : R32 s (m.1 12)) {t w : Nat} {v1 v2 : Int32} (h1 : v1 = Int32.ofNat t) (h2 : v2 = Int32.ofNat w) (ht : t < 6) (hw : w < 6) : D87_11t F v1 v2 m = some (s (10 + 6 * t + w), m) := by
  subst h1
  subst h2
  have i := ix6 (A := 6) (B := 6) (a := w) (d := t) rfl (by decide) (by omega) (by omega)
  unfold D87_11t
  rw [gxn i, if_pos (gxb i (by omega)), R_t R ht hw]
theorem c89_11t (R : R32 s (m.1 12)) {w k : Nat} {v1 v2 : Int32} (h1 : v1 = Int32.ofNat w) (h2 : v2 = Int32.ofNat k) (hw : w < 6) (hk : k < 4) : D89_11t F v1 v2 m = some (s (124 + 4 * w + k), m) := by
  subst h1
  subst h2
  have i := ix6 (A := 42) (B := 42) (a := k) (d := w) rfl (by decide) (by omega) (by omega)
  unfold D89_11t
  rw [gxn i, if_pos (gxb i (by omega)), R_w R hw hk]
theorem c89d_11t (R : R32 s (m.1 12)) {w : Nat} {v1 : Int32} (h1 : v1 = Int32.ofNat w) (hw : w < 6) (h3 : (w : Int) < (s 3).toInt) : D89_11t F v1 4 m = some (s (118 + w), m) := by
  subst h1
  have i := ix6 (A := 42) (B := 42) (a := 4) (d := w) rfl (by decide) (by omega) (by omega)
  have i : ((42 : Int32) + 6 * 4 + Int32.ofNat w).toInt = ((66 + w : Nat) : Int) := i
  unfold D89_11t
  rw [gxn i, if_pos (gxb i (by omega)), R_d R hw h3]
theorem c97_11t (R : R32 s (m.1 12)) {t : Nat} {v1 : Int32} (h1 : v1 = Int32.ofNat t) (ht : t < 6) : D97_11t F v1 m = some (pB (phm s t), m) := by
  unfold D97_11t
  refine ob (c87_11t R h1 (w := 3) rfl ht (by decide)) (ob (c87_11t R h1 (w := 0) rfl ht (by decide)) (oi (p := !phm s t) zcn (fun h => ?_) (fun h => ?_)))
  · rw [show phm s t = false by simpa using h]
    rfl
  · rw [show phm s t = true by simpa using h]
    rfl
theorem c98_11t (R : R32 s (m.1 12)) (I : vI s) {t : Nat} {v1 : Int32} (h1 : v1 = Int32.ofNat t) (ht : (t : Int) < (s 2).toInt) : D98_11t F v1 m = some (prs s t, m) := by
  have t6 : t < 6 := by have := I_nt I; omega
  unfold D98_11t
  refine ob (c87_11t R h1 (w := 5) rfl t6 (by decide)) (ob (c78_11t R) ?_)
  refine congrArg (fun z => some (z, m)) ?_
  dsimp only
  unfold prs
  rw [mx0]
  by_cases hm : phm s t = true
  · have z := (I.2.1 t ht).2.2.1 (eq_of_beq hm)
    have l0 := I_late I
    rw [if_pos (Or.inl hm), z.2]
    by_cases l : ((0 : Int32) - s 1).toInt < 0
    · rw [if_pos l]
    · rw [if_neg l]
      have e : ((0 : Int32) - s 1).toInt = 0 - (s 1).toInt := xs1 (by show _ ≤ (0 : Int) - _; have := y32 (s 1); omega) (by show (0 : Int) - _ ≤ _; omega)
      exact Int32.toInt_inj.mp (by show _ = (0 : Int); omega)
  · by_cases l : (s (10 + 6 * t + 5) - s 1).toInt < 0
    · rw [if_pos (Or.inr l), if_pos l]
    · rw [if_neg (fun z => Or.elim z hm l), if_neg l]
theorem c100_14_11t (R : R32 s (m.1 12)) (I : vI s) {t : Nat} {v1 v2 : Int32} (h1 : v1 = Int32.ofNat t) (ht : (t : Int) < (s 2).toInt) : D100_11t_14 F v1 v2 m = some (psh0 s t v2, m) := by
  have t6 : t < 6 := by have := I_nt I; omega
  unfold D100_11t_14
  refine ob (c87_11t R h1 (w := 2) rfl t6 (by decide)) (ob (c87_11t R h1 (w := 4) rfl t6 (by decide)) (ob (c98_11t R I h1 ht) ?_))
  refine congrArg (fun z => some (z, m)) ?_
  dsimp only
  unfold psh0
  generalize s (10 + 6 * t + 2) + s (10 + 6 * t + 4) + v2 - prs s t = x
  rw [mx0]
theorem c100_11t (R : R32 s (m.1 12)) (I : vI s) {t : Nat} {v1 v2 : Int32} (h1 : v1 = Int32.ofNat t) (ht : (t : Int) < (s 2).toInt) : D100_11t F v1 v2 m = some (psh s t v2, m) := by
  have t6 : t < 6 := by have := I_nt I; omega
  unfold D100_11t psh
  refine oi (p := !(v2 == 0)) zcn (fun h => ?_) (fun h => ?_)
  · have h : ¬ v2 = 0 := by simpa using h
    rw [if_neg (fun z => h z.1)]
    exact c100_14_11t R I h1 ht
  · have h : v2 = 0 := by simpa using h
    refine ob (c97_11t R h1 t6) (oi (p := !phm s t) pB1 (fun h2 => ?_) (fun h2 => ?_))
    · have h2 : phm s t = false := by simpa using h2
      rw [if_neg (fun z => by rw [h2] at z; cases z.2)]
      exact c100_14_11t R I h1 ht
    · have h2 : phm s t = true := by simpa using h2
      rw [if_pos ⟨h, h2⟩]
theorem c99_11t (R : R32 s (m.1 12)) (I : vI s) {t : Nat} {v1 : Int32} (h1 : v1 = Int32.ofNat t) (ht : (t : Int) < (s 2).toInt) : D99_11t F v1 m = some (psh s t 0, m) := by
  unfold D99_11t
  exact ob (c100_11t R I h1 ht) rfl
theorem c106_11t (R : R32 s (m.1 12)) (I : vI s) {w : Nat} {v1 : Int32} (h1 : v1 = Int32.ofNat w) (hw : (w : Int) < (s 3).toInt) : D106_11t F v1 m = some (pB (pdn s w), m) := by
  have w6 : w < 6 := by have := (I_nw I); omega
  have l := (I.2.2.1 w hw).2
  unfold D106_11t
  refine ob (c89d_11t R h1 w6 hw) (oi (p := s (118 + w) == -1) zce (fun h => ?_) (fun h => ?_))
  · have h : s (118 + w) = -1 := by simpa using h
    rw [show pdn s w = false by unfold pdn; rw [h]; decide]
    rfl
  · have h : ¬ s (118 + w) = -1 := by simpa using h
    have : (s (118 + w)).toInt ≠ -1 := fun z => h (Int32.toInt_inj.mp z)
    rw [show pdn s w = true by unfold pdn; exact decide_eq_true (by omega)]
    rfl
theorem c107_12_11t (R : R32 s (m.1 12)) (I : vI s) {w : Nat} {v1 : Int32} (h1 : v1 = Int32.ofNat w) (hw : (w : Int) < (s 3).toInt) : ∀ (f : Nat) {t : Nat}, (t : Int) ≤ (s 2).toInt → 6 - t < f → D107_11t_12 F f v1 (Int32.ofNat t) m = some (pB ((List.range' t ((s 2).toInt.toNat - t)).any (pfit s w)), m) := by
  have w6 : w < 6 := by have := (I_nw I); omega
  have n6 := I_nt I
  intro f
  induction f with
  | zero => intro t _ l; omega
  | succ f ih =>
    intro t ht l
    have et := nJ (n := t) (by omega)
    unfold D107_11t_12
    refine ob (c79_11t R) (oi (p := decide ((s 2).toInt ≤ (Int32.ofNat t).toInt)) zc (fun h => ?_) (fun h => ?_))
    · have h := of_decide_eq_true h
      rw [show (s 2).toInt.toNat - t = 0 by omega]
      rfl
    · have h := of_decide_eq_false h
      have t2 : (t : Int) < (s 2).toInt := by omega
      have next : D107_11t_66 F (D107_11t_12 F f) v1 (Int32.ofNat t) m = some (pB ((List.range' (t + 1) ((s 2).toInt.toNat - (t + 1))).any (pfit s w)), m) := by
        unfold D107_11t_66
        rw [show Int32.ofNat t + Int32.ofInt 1 = Int32.ofNat (t + 1) from xadd (a := t) (b := 1) (by omega)]
        exact ih (by omega) (by omega)
      rw [show (s 2).toInt.toNat - t = ((s 2).toInt.toNat - (t + 1)) + 1 by omega, List.range'_succ, List.any_cons]
      refine ob (c87_11t R (t := t) (w := 1) rfl rfl (by omega) (by decide)) (ob (c89_11t R h1 (k := 1) rfl w6 (by decide)) (oi (p := !(s (10 + 6 * t + 1) == s (124 + 4 * w + 1))) zcn (fun a => ?_) (fun a => ?_)))
      · rw [show pfit s w t = false by unfold pfit; rw [show (s (10 + 6 * t + 1) == s (124 + 4 * w + 1)) = false by simpa using a, Bool.false_and], Bool.false_or]
        exact next
      have a : (s (10 + 6 * t + 1) == s (124 + 4 * w + 1)) = true := by simpa using a
      refine ob (c87_11t R (t := t) (w := 3) rfl rfl (by omega) (by decide)) (ob (c89_11t R h1 (k := 0) rfl w6 (by decide)) (oi (p := !(s (10 + 6 * t + 3) == s (124 + 4 * w))) zcn (fun b => ?_) (fun b => ?_)))
      · rw [show pfit s w t = false by unfold pfit; rw [show (s (10 + 6 * t + 3) == s (124 + 4 * w)) = false by simpa using b, Bool.false_and, Bool.and_false], Bool.false_or]
        exact next
      have b : (s (10 + 6 * t + 3) == s (124 + 4 * w)) = true := by simpa using b
      refine ob (c99_11t R I (t := t) rfl t2) (ob (c89_11t R h1 (k := 2) rfl w6 (by decide)) (oi (p := decide ((psh s t 0).toInt < (s (124 + 4 * w + 2)).toInt)) zcl (fun g => ?_) (fun g => ?_)))
      · have g := of_decide_eq_true g
        rw [show pfit s w t = false by unfold pfit; rw [a, b, decide_eq_false (by omega)]; rfl, Bool.false_or]
        exact next
      · have g := of_decide_eq_false g
        rw [show pfit s w t = true by unfold pfit; rw [a, b, decide_eq_true (by omega)]; rfl, Bool.true_or]
        rfl
theorem c107_11t (hF : 500 ≤ F) (R : R32 s (m.1 12)) (I : vI s) {w : Nat} {v1 : Int32} (h1 : v1 = Int32.ofNat w) (hw : (w : Int) < (s 3).toInt) : D107_11t F v1 m = some (pB (pcd s w), m) := by
  have n6 := I_nt I
  unfold D107_11t pcd
  refine ob (c106_11t R I h1 hw) (oi (p := !pdn s w) pB1 (fun h => ?_) (fun h => ?_))
  · have z := c107_12_11t (F := F) R I h1 hw F (t := 0) (by omega) (by omega)
    rw [Nat.sub_zero, ← List.range_eq_range'] at z
    rw [h, Bool.true_and]
    exact z
  · rw [h, Bool.false_and]
    rfl
theorem c91_11t (R : R32 s (m.1 12)) {a : Nat} {v1 : Int32} (h1 : v1 = Int32.ofNat a) (ha : a < 6) : D91_11t F v1 m = some (m.1 12 (72 + a), m) := by
  subst h1
  have i := ix1 (A := 72) (B := 72) (d := a) rfl (by decide) (by omega)
  unfold D91_11t
  rw [gxn i, if_pos (gxb i (by omega))]
theorem c92_11t (hT : xT m) (R : R32 s (m.1 12)) {a d : Nat} {v1 v2 : Int32} (h1 : v1 = Int32.ofNat a) (h2 : v2 = Int32.ofNat d) (ha : a < 6) (hd : d < 6) : D92_11t F v1 v2 m = some (pB (ptr s a d), m) := by
  have b := b63 hT (r := 12) rfl (by decide) ha
  subst h2
  unfold D92_11t
  refine ob (c91_11t R h1 ha) (oi (p := !ptr s a d) ?_ (fun h => ?_) (fun h => ?_))
  · rw [tbq b.1 b.2 hd, R_tr R ha hd]
  · rw [show ptr s a d = false by simpa using h]
    rfl
  · rw [show ptr s a d = true by simpa using h]
    rfl
theorem c94_11t (R : R32 s (m.1 12)) {a d : Nat} {v1 v2 : Int32} (h1 : v1 = Int32.ofNat a) (h2 : v2 = Int32.ofNat d) (ha : a < 6) (hd : d < 6) : D94_11t F v1 v2 m = some (s (82 + 6 * a + d), m) := by
  subst h1
  subst h2
  have i := ix6 (A := 78) (B := 78) (a := a) (d := d) rfl (by decide) (by omega) (by omega)
  unfold D94_11t
  rw [gxn i, if_pos (gxb i (by omega)), R_h R ha hd]
theorem c101_11t (hT : xT m) (R : R32 s (m.1 12)) (I : vI s) {t h : Nat} {v1 v2 : Int32} (h1 : v1 = Int32.ofNat t) (h2 : v2 = Int32.ofNat h) (ht : (t : Int) < (s 2).toInt) (hh : h < 6) : D101_11t F v1 v2 m = some (pB (pcl s t h), m) := by
  have t6 : t < 6 := by have := I_nt I; omega
  have it := I.2.1 t ht
  have n6 := I_n6 I
  have eh : s (10 + 6 * t + 3) = Int32.ofNat (s (10 + 6 * t + 3)).toInt.toNat := i32n (by omega)
  subst h2
  unfold D101_11t D101_11t_28
  refine ob (c87_11t R h1 (w := 0) rfl t6 (by decide)) (oi (p := Int32.ofNat h == s (10 + 6 * t)) zce (fun a => ?_) (fun a => ?_))
  · have a : Int32.ofNat h = s (10 + 6 * t) := by simpa using a
    rw [show pcl s t h = false by unfold pcl; rw [← a]; simp]
    rfl
  have a : ¬ Int32.ofNat h = s (10 + 6 * t) := by simpa using a
  have a2 : (s (10 + 6 * t) == Int32.ofNat h) = false := by
    simp only [beq_eq_false_iff_ne]
    exact fun z => a z.symm
  refine ob (c87_11t R h1 (w := 3) rfl t6 (by decide)) (ob (c92_11t hT R (a := (s (10 + 6 * t + 3)).toInt.toNat) eh rfl (by omega) hh) (oi (p := !ptr s (s (10 + 6 * t + 3)).toInt.toNat h) pB1 (fun b => ?_) (fun b => ?_)))
  · have b : ptr s (s (10 + 6 * t + 3)).toInt.toNat h = false := by simpa using b
    rw [show pcl s t h = false by unfold pcl; rw [b]; simp]
    rfl
  · have b : ptr s (s (10 + 6 * t + 3)).toInt.toNat h = true := by simpa using b
    have ne : (s (10 + 6 * t + 3) == Int32.ofNat h) = false := by
      simp only [beq_eq_false_iff_ne]
      intro z
      have dg := (I.2.2.2.1 h hh).1
      rw [z, nJ (by omega), Int.toNat_natCast] at b
      unfold ptr at b
      rw [dg] at b
      exact absurd b (by decide)
    rw [show pcl s t h = true by unfold pcl; rw [b, ne, a2]; rfl]
    rfl
end CG_11t
