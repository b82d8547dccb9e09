section
/-! The class on its trial: DAY may stand still, OUT goes on. -/
def vJt (D : Int) (s : Nat → Int32) : Prop := ∀ t : Nat, (t : Int) < (s 2).toInt → (0 ≤ (s (10 + 6 * t)).toInt ∧ (s (10 + 6 * t)).toInt < (s 0).toInt) ∧ (0 ≤ (s (10 + 6 * t + 3)).toInt ∧ (s (10 + 6 * t + 3)).toInt < (s 0).toInt) ∧ (s (10 + 6 * t + 3) = s (10 + 6 * t) → s (10 + 6 * t + 4) = 0 ∧ s (10 + 6 * t + 5) = 0) ∧ (0 ≤ (s (10 + 6 * t + 5)).toInt ∧ (s (10 + 6 * t + 5)).toInt ≤ D)
def vJD (D : Int) (s : Nat → Int32) : Prop := vIa s ∧ vJt D s ∧ vIw s ∧ vIh s
theorem J_n6 {D : Int} {s : Nat → Int32} (I : vJD D s) : (s 0).toInt ≤ 6 := I.1.1.2
theorem J_n0 {D : Int} {s : Nat → Int32} (I : vJD D s) : (s 0).toInt = 0 ∨ 2 ≤ (s 0).toInt := I.1.1.1
theorem J_late {D : Int} {s : Nat → Int32} (I : vJD D s) : 0 ≤ (s 1).toInt := I.1.2.1
theorem J_nt {D : Int} {s : Nat → Int32} (I : vJD D s) : 0 ≤ (s 2).toInt ∧ (s 2).toInt ≤ 6 := I.1.2.2.1
theorem J_nw {D : Int} {s : Nat → Int32} (I : vJD D s) : 0 ≤ (s 3).toInt ∧ (s 3).toInt ≤ 6 := I.1.2.2.2.1
theorem J_day {D : Int} {s : Nat → Int32} (I : vJD D s) : 0 ≤ (s 4).toInt ∧ (s 4).toInt ≤ 2000 := I.1.2.2.2.2
theorem vJ_of {s : Nat → Int32} (I : vI s) : vJD (s 4).toInt s := I
def vJo (D : Int) (s : Nat → Int32) (t : Nat) : Prop := (0 ≤ (s (10 + 6 * t)).toInt ∧ (s (10 + 6 * t)).toInt < (s 0).toInt) ∧ (0 ≤ (s (10 + 6 * t + 3)).toInt ∧ (s (10 + 6 * t + 3)).toInt < (s 0).toInt) ∧ (s (10 + 6 * t + 3) = s (10 + 6 * t) → s (10 + 6 * t + 4) = 0 ∧ s (10 + 6 * t + 5) = 0) ∧ (0 ≤ (s (10 + 6 * t + 5)).toInt ∧ (s (10 + 6 * t + 5)).toInt ≤ D)
section PJV
variable {s s' : Nat → Int32} {v : Int32} {D : Int}
theorem J_tool (I : vJD D s) {t0 : Nat} (h : ∀ j, ¬ (10 + 6 * t0 ≤ j ∧ j < 16 + 6 * t0) → ¬ (82 ≤ j ∧ j < 118) → s' j = s j) (t6 : t0 < 6) (hq : vJo D s' t0) (hh : ∀ a d : Nat, a < 6 → d < 6 → 0 ≤ (s' (82 + 6 * a + d)).toInt ∧ (s' (82 + 6 * a + d)).toInt ≤ 99) (hd : ∀ a : Nat, a < 6 → s' (82 + 6 * a + a) = 0) : vJD D s' := by
  have e0 : s' 0 = s 0 := h 0 (by omega) (by omega)
  have e1 : s' 1 = s 1 := h 1 (by omega) (by omega)
  have e2 : s' 2 = s 2 := h 2 (by omega) (by omega)
  have e3 : s' 3 = s 3 := h 3 (by omega) (by omega)
  have e4 : s' 4 = s 4 := h 4 (by omega) (by omega)
  refine ⟨?_, fun t ht => ?_, fun w hw => ?_, fun a ha => ⟨?_, hd a ha⟩, hh⟩
  · unfold vIa
    rw [e0, e1, e2, e3, e4]
    exact I.1
  · by_cases z : t = t0
    · subst z
      exact hq
    · rw [e2] at ht
      have l := J_nt I
      rw [h (10 + 6 * t) (by omega) (by omega), h (10 + 6 * t + 3) (by omega) (by omega), h (10 + 6 * t + 4) (by omega) (by omega), h (10 + 6 * t + 5) (by omega) (by omega), e0]
      exact I.2.1 t ht
  · rw [e3] at hw
    have l := J_nw I
    rw [h (124 + 4 * w) (by omega) (by omega), h (118 + w) (by omega) (by omega), e0]
    exact I.2.2.1 w hw
  · rw [h (46 + 6 * a + a) (by omega) (by omega)]
    exact (I.2.2.2.1 a ha).1
theorem J_gv (I : vJD D s) {t : Nat} (hD : 0 ≤ D) (ht : (t : Int) < (s 2).toInt) (h0 : 0 ≤ v.toInt) (h1 : v.toInt < (s 0).toInt) : vJD D (pgv s t v) := by
  have l := J_nt I
  have dy := J_day I
  refine J_tool I (t0 := t) (fun j z _ => pgv_o z) (by omega) ?_ (fun a d ha hd => ?_) (fun a ha => ?_)
  · unfold vJo
    rw [pgv_0, pgv_3, pgv_4, pgv_5, pgv_o (by omega)]
    exact ⟨⟨h0, h1⟩, ⟨h0, h1⟩, fun _ => ⟨rfl, rfl⟩, Int.le_refl _, hD⟩
  · rw [pgv_o (by omega)]
    exact I.2.2.2.2 a d ha hd
  · rw [pgv_o (by omega)]
    exact (I.2.2.2.1 a ha).2
theorem J_ld (I : vJD D s) {t h : Nat} (ht : (t : Int) < (s 2).toInt) (hh : (h : Int) < (s 0).toInt) (c : pcl s t h = true) : vJD D (pld s t h) := by
  have l := J_nt I
  have n6 := J_n6 I
  obtain ⟨i0, i3, -, i5⟩ := I.2.1 t ht
  obtain ⟨c1, c2, -⟩ := pcl_iff.mp c
  obtain ⟨hol, eh⟩ : ∃ n : Nat, n = (s (10 + 6 * t + 3)).toInt.toNat := ⟨_, rfl⟩
  have eh2 : s (10 + 6 * t + 3) = Int32.ofNat hol := by rw [eh]; exact i32n (by omega)
  have ne : hol ≠ h := fun z => c1 (by rw [eh2, z])
  have eI := nJ (n := h) (by omega)
  refine J_tool I (t0 := t) (fun j z1 z2 => ?_) (by omega) ?_ (fun a d ha hd => ?_) (fun a ha => ?_)
  · rw [pld_o (by omega) (by omega), pth_o (by omega)]
  · unfold vJo
    rw [pld_3, pld_4, pld_o (by omega) (by omega), pld_o (by omega) (by omega), pld_o (by omega) (by omega), ← eh, pth_o (by omega), pth_o (by omega), pth_o (by omega), eI]
    exact ⟨i0, ⟨by omega, hh⟩, fun z => absurd z.symm c2, i5⟩
  · rw [pld_o (by omega) (by omega), ← eh]
    have b := I.2.2.2.2 a d ha hd
    by_cases z : 82 + 6 * a + d = 82 + 6 * h + hol
    · rw [z, pth_s, ← z]
      split
      · have e1 : (s (82 + 6 * a + d) + 1).toInt = (s (82 + 6 * a + d)).toInt + 1 := xa1 (by show _ ≤ _ + (1 : Int); omega) (by show _ + (1 : Int) ≤ _; omega)
        omega
      · exact b
    · rw [pth_o z]
      exact b
  · rw [pld_o (by omega) (by omega), ← eh, pth_o (by omega)]
    exact (I.2.2.2.1 a ha).2
theorem J_wk (I : vJD D s) {w : Nat} (hw : (w : Int) < (s 3).toInt) : vJD D (pwk s w) := by
  have l := J_nw I
  have lt := J_nt I
  have dy := J_day I
  have e : ∀ j, j ≠ 5 → j ≠ 118 + w → pwk s w j = s j := fun j z1 z2 => (cup_o z1).trans (cup_o z2)
  have ew : pwk s w (118 + w) = s 4 := (cup_o (by omega)).trans (cup_s _ _ _)
  refine ⟨?_, fun t ht => ?_, fun u hu => ?_, fun a ha => ?_, fun a d ha hd => ?_⟩
  · unfold vIa
    rw [e 0 (by omega) (by omega), e 1 (by omega) (by omega), e 2 (by omega) (by omega), e 3 (by omega) (by omega), e 4 (by omega) (by omega)]
    exact I.1
  · rw [e 2 (by omega) (by omega)] at ht
    rw [e 0 (by omega) (by omega), e _ (by omega) (by omega), e _ (by omega) (by omega), e _ (by omega) (by omega), e _ (by omega) (by omega)]
    exact I.2.1 t ht
  · rw [e 3 (by omega) (by omega)] at hu
    rw [e 0 (by omega) (by omega), e (124 + 4 * u) (by omega) (by omega)]
    refine ⟨(I.2.2.1 u hu).1, ?_⟩
    by_cases z : u = w
    · subst z
      rw [ew]
      omega
    · rw [e _ (by omega) (by omega)]
      exact (I.2.2.1 u hu).2
  · rw [e _ (by omega) (by omega), e _ (by omega) (by omega)]
    exact I.2.2.2.1 a ha
  · rw [e _ (by omega) (by omega)]
    exact I.2.2.2.2 a d ha hd
end PJV
section PJR
variable {s c : Nat → Int32} {v : Int32} {D : Int}
theorem R_thj (R : R32 s c) (I : vJD D s) {a d : Nat} (ha : a < 6) (hd : d < 6) : R32 (pth s (82 + 6 * a + d)) (cup c (78 + 6 * a + d) (if s (82 + 6 * a + d) + 1 < 99 then s (82 + 6 * a + d) + 1 else 99)) := by
  have b := I.2.2.2.2 a d ha hd
  have e1 : (s (82 + 6 * a + d) + 1).toInt = (s (82 + 6 * a + d)).toInt + 1 := xa1 (by show _ ≤ _ + (1 : Int); omega) (by show _ + (1 : Int) ≤ _; omega)
  unfold pth
  by_cases l : (s (82 + 6 * a + d)).toInt < 99
  · rw [if_pos l]
    have e : (if s (82 + 6 * a + d) + 1 < 99 then s (82 + 6 * a + d) + 1 else 99) = s (82 + 6 * a + d) + 1 := by
      by_cases z : s (82 + 6 * a + d) + 1 < 99
      · rw [if_pos z]
      · rw [if_neg z]
        apply Int32.toInt_inj.mp
        have z : ¬ (s (82 + 6 * a + d) + 1).toInt < (99 : Int) := fun y => z (Int32.lt_iff_toInt_lt.mpr y)
        show (99 : Int) = _
        omega
    rw [e]
    exact R_uh R ha hd
  · rw [if_neg l]
    have z : ¬ s (82 + 6 * a + d) + 1 < 99 := fun y => by
      have y : (s (82 + 6 * a + d) + 1).toInt < (99 : Int) := Int32.lt_iff_toInt_lt.mp y
      omega
    rw [if_neg z, cup_id]
    · exact R
    · rw [R_h R ha hd]
      apply Int32.toInt_inj.mp
      show _ = (99 : Int)
      omega
end PJR
section PJG
variable {s : Nat → Int32} {m : xS} {F : Nat} {D : Int}
theorem c98_11tj (R : R32 s (m.1 12)) (I : vJD D s) {t : Nat} {v1 : Int32} (h1 : v1 = Int32.ofNat t) (ht : (t : Int) < (s 2).toInt) : D98_11t F v1 m = some (prs s t, m) := by
  have t6 : t < 6 := by have := J_nt I; omega
  unfold D98_11t
  refine ob (c87_11t R h1 (w := 5) rfl t6 (by decide)) (ob (c78_11t R) ?_)
  refine congrArg (fun z => some (z, m)) ?_
  dsimp only
  unfold prs
  rw [mx0]
  by_cases hm : phm s t = true
  · have z := (I.2.1 t ht).2.2.1 (eq_of_beq hm)
    have l0 := J_late I
    rw [if_pos (Or.inl hm), z.2]
    by_cases l : ((0 : Int32) - s 1).toInt < 0
    · rw [if_pos l]
    · rw [if_neg l]
      have e : ((0 : Int32) - s 1).toInt = 0 - (s 1).toInt := xs1 (by show _ ≤ (0 : Int) - _; have := y32 (s 1); omega) (by show (0 : Int) - _ ≤ _; omega)
      exact Int32.toInt_inj.mp (by show _ = (0 : Int); omega)
  · by_cases l : (s (10 + 6 * t + 5) - s 1).toInt < 0
    · rw [if_pos (Or.inr l), if_pos l]
    · rw [if_neg (fun z => Or.elim z hm l), if_neg l]
theorem c100_14_11tj (R : R32 s (m.1 12)) (I : vJD D s) {t : Nat} {v1 v2 : Int32} (h1 : v1 = Int32.ofNat t) (ht : (t : Int) < (s 2).toInt) : D100_11t_14 F v1 v2 m = some (psh0 s t v2, m) := by
  have t6 : t < 6 := by have := J_nt I; omega
  unfold D100_11t_14
  refine ob (c87_11t R h1 (w := 2) rfl t6 (by decide)) (ob (c87_11t R h1 (w := 4) rfl t6 (by decide)) (ob (c98_11tj R I h1 ht) ?_))
  refine congrArg (fun z => some (z, m)) ?_
  dsimp only
  unfold psh0
  generalize s (10 + 6 * t + 2) + s (10 + 6 * t + 4) + v2 - prs s t = x
  rw [mx0]
theorem c100_11tj (R : R32 s (m.1 12)) (I : vJD D s) {t : Nat} {v1 v2 : Int32} (h1 : v1 = Int32.ofNat t) (ht : (t : Int) < (s 2).toInt) : D100_11t F v1 v2 m = some (psh s t v2, m) := by
  have t6 : t < 6 := by have := J_nt I; omega
  unfold D100_11t psh
  refine oi (p := !(v2 == 0)) zcn (fun h => ?_) (fun h => ?_)
  · have h : ¬ v2 = 0 := by simpa using h
    rw [if_neg (fun z => h z.1)]
    exact c100_14_11tj R I h1 ht
  · have h : v2 = 0 := by simpa using h
    refine ob (c97_11t R h1 t6) (oi (p := !phm s t) pB1 (fun h2 => ?_) (fun h2 => ?_))
    · have h2 : phm s t = false := by simpa using h2
      rw [if_neg (fun z => by rw [h2] at z; cases z.2)]
      exact c100_14_11tj R I h1 ht
    · have h2 : phm s t = true := by simpa using h2
      rw [if_pos ⟨h, h2⟩]
theorem c99_11tj (R : R32 s (m.1 12)) (I : vJD D s) {t : Nat} {v1 : Int32} (h1 : v1 = Int32.ofNat t) (ht : (t : Int) < (s 2).toInt) : D99_11t F v1 m = some (psh s t 0, m) := by
  unfold D99_11t
  exact ob (c100_11tj R I h1 ht) rfl
theorem c106_11tj (R : R32 s (m.1 12)) (I : vJD D s) {w : Nat} {v1 : Int32} (h1 : v1 = Int32.ofNat w) (hw : (w : Int) < (s 3).toInt) : D106_11t F v1 m = some (pB (pdn s w), m) := by
  have w6 : w < 6 := by have := (J_nw I); omega
  have l := (I.2.2.1 w hw).2
  unfold D106_11t
  refine ob (c89d_11t R h1 w6 hw) (oi (p := s (118 + w) == -1) zce (fun h => ?_) (fun h => ?_))
  · have h : s (118 + w) = -1 := by simpa using h
    rw [show pdn s w = false by unfold pdn; rw [h]; decide]
    rfl
  · have h : ¬ s (118 + w) = -1 := by simpa using h
    have : (s (118 + w)).toInt ≠ -1 := fun z => h (Int32.toInt_inj.mp z)
    rw [show pdn s w = true by unfold pdn; exact decide_eq_true (by omega)]
    rfl
theorem c107_12_11tj (R : R32 s (m.1 12)) (I : vJD D s) {w : Nat} {v1 : Int32} (h1 : v1 = Int32.ofNat w) (hw : (w : Int) < (s 3).toInt) : ∀ (f : Nat) {t : Nat}, (t : Int) ≤ (s 2).toInt → 6 - t < f → D107_11t_12 F f v1 (Int32.ofNat t) m = some (pB ((List.range' t ((s 2).toInt.toNat - t)).any (pfit s w)), m) := by
  have w6 : w < 6 := by have := (J_nw I); omega
  have n6 := J_nt I
  intro f
  induction f with
  | zero => intro t _ l; omega
  | succ f ih =>
    intro t ht l
    have et := nJ (n := t) (by omega)
    unfold D107_11t_12
    refine ob (c79_11t R) (oi (p := decide ((s 2).toInt ≤ (Int32.ofNat t).toInt)) zc (fun h => ?_) (fun h => ?_))
    · have h := of_decide_eq_true h
      rw [show (s 2).toInt.toNat - t = 0 by omega]
      rfl
    · have h := of_decide_eq_false h
      have t2 : (t : Int) < (s 2).toInt := by omega
      have next : D107_11t_66 F (D107_11t_12 F f) v1 (Int32.ofNat t) m = some (pB ((List.range' (t + 1) ((s 2).toInt.toNat - (t + 1))).any (pfit s w)), m) := by
        unfold D107_11t_66
        rw [show Int32.ofNat t + Int32.ofInt 1 = Int32.ofNat (t + 1) from xadd (a := t) (b := 1) (by omega)]
        exact ih (by omega) (by omega)
      rw [show (s 2).toInt.toNat - t = ((s 2).toInt.toNat - (t + 1)) + 1 by omega, List.range'_succ, List.any_cons]
      refine ob (c87_11t R (t := t) (w := 1) rfl rfl (by omega) (by decide)) (ob (c89_11t R h1 (k := 1) rfl w6 (by decide)) (oi (p := !(s (10 + 6 * t + 1) == s (124 + 4 * w + 1))) zcn (fun a => ?_) (fun a => ?_)))
      · rw [show pfit s w t = false by unfold pfit; rw [show (s (10 + 6 * t + 1) == s (124 + 4 * w + 1)) = false by simpa using a, Bool.false_and], Bool.false_or]
        exact next
      have a : (s (10 + 6 * t + 1) == s (124 + 4 * w + 1)) = true := by simpa using a
      refine ob (c87_11t R (t := t) (w := 3) rfl rfl (by omega) (by decide)) (ob (c89_11t R h1 (k := 0) rfl w6 (by decide)) (oi (p := !(s (10 + 6 * t + 3) == s (124 + 4 * w))) zcn (fun b => ?_) (fun b => ?_)))
      · rw [show pfit s w t = false by unfold pfit; rw [show (s (10 + 6 * t + 3) == s (124 + 4 * w)) = false by simpa using b, Bool.false_and, Bool.and_false], Bool.false_or]
        exact next
      have b : (s (10 + 6 * t + 3) == s (124 + 4 * w)) = true := by simpa using b
      refine ob (c99_11tj R I (t := t) rfl t2) (ob (c89_11t R h1 (k := 2) rfl w6 (by decide)) (oi (p := decide ((psh s t 0).toInt < (s (124 + 4 * w + 2)).toInt)) zcl (fun g => ?_) (fun g => ?_)))
      · have g := of_decide_eq_true g
        rw [show pfit s w t = false by unfold pfit; rw [a, b, decide_eq_false (by omega)]; rfl, Bool.false_or]
        exact next
      · have g := of_decide_eq_false g
        rw [show pfit s w t = true by unfold pfit; rw [a, b, decide_eq_true (by omega)]; rfl, Bool.true_or]
        rfl
theorem c107_11tj (hF : 500 ≤ F) (R : R32 s (m.1 12)) (I : vJD D s) {w : Nat} {v1 : Int32} (h1 : v1 = Int32.ofNat w) (hw : (w : Int) < (s 3).toInt) : D107_11t F v1 m = some (pB (pcd s w), m) := by
  have n6 := J_nt I
  unfold D107_11t pcd
  refine ob (c106_11tj R I h1 hw) (oi (p := !pdn s w) pB1 (fun h => ?_) (fun h => ?_))
  · have z := c107_12_11tj (F := F) R I h1 hw F (t := 0) (by omega) (by omega)
    rw [Nat.sub_zero, ← List.range_eq_range'] at z
    rw [h, Bool.true_and]
    exact z
  · rw [h, Bool.false_and]
    rfl
theorem c92uj (R : R32 s (m.1 12)) {a d : Nat} {v1 v2 : Int32} (h1 : v1 = Int32.ofNat a) (h2 : v2 = Int32.ofNat d) (ha : a < 6) (hd : d < 6) : D92_11t F v1 v2 m = some (pB (ptr s a d), m) := by
  subst h2
  unfold D92_11t
  refine ob (c91_11t R h1 ha) (oi (p := !ptr s a d) ?_ (fun h => ?_) (fun h => ?_))
  · rw [tbu hd, R_tr R ha hd]
  · rw [show ptr s a d = false by simpa using h]
    rfl
  · rw [show ptr s a d = true by simpa using h]
    rfl
theorem c101uj (R : R32 s (m.1 12)) (I : vJD D s) {t h : Nat} {v1 v2 : Int32} (h1 : v1 = Int32.ofNat t) (h2 : v2 = Int32.ofNat h) (ht : (t : Int) < (s 2).toInt) (hh : h < 6) : D101_11t F v1 v2 m = some (pB (pcl s t h), m) := by
  have t6 : t < 6 := by have := J_nt I; omega
  have it := I.2.1 t ht
  have n6 := J_n6 I
  have eh : s (10 + 6 * t + 3) = Int32.ofNat (s (10 + 6 * t + 3)).toInt.toNat := i32n (by omega)
  subst h2
  unfold D101_11t D101_11t_28
  refine ob (c87_11t R h1 (w := 0) rfl t6 (by decide)) (oi (p := Int32.ofNat h == s (10 + 6 * t)) zce (fun a => ?_) (fun a => ?_))
  · have a : Int32.ofNat h = s (10 + 6 * t) := by simpa using a
    rw [show pcl s t h = false by unfold pcl; rw [← a]; simp]
    rfl
  have a : ¬ Int32.ofNat h = s (10 + 6 * t) := by simpa using a
  have a2 : (s (10 + 6 * t) == Int32.ofNat h) = false := by
    simp only [beq_eq_false_iff_ne]
    exact fun z => a z.symm
  refine ob (c87_11t R h1 (w := 3) rfl t6 (by decide)) (ob (c92uj R (a := (s (10 + 6 * t + 3)).toInt.toNat) eh rfl (by omega) hh) (oi (p := !ptr s (s (10 + 6 * t + 3)).toInt.toNat h) pB1 (fun b => ?_) (fun b => ?_)))
  · have b : ptr s (s (10 + 6 * t + 3)).toInt.toNat h = false := by simpa using b
    rw [show pcl s t h = false by unfold pcl; rw [b]; simp]
    rfl
  · have b : ptr s (s (10 + 6 * t + 3)).toInt.toNat h = true := by simpa using b
    have ne : (s (10 + 6 * t + 3) == Int32.ofNat h) = false := by
      simp only [beq_eq_false_iff_ne]
      intro z
      have dg := (I.2.2.2.1 h hh).1
      rw [z, nJ (by omega), Int.toNat_natCast] at b
      unfold ptr at b
      rw [dg] at b
      exact absurd b (by decide)
    rw [show pcl s t h = true by unfold pcl; rw [b, ne, a2]; rfl]
    rfl
theorem a102j (R : R32 s (m.1 12)) (I : vJD D s) {t h : Nat} {v1 v2 : Int32} (h1 : v1 = Int32.ofNat t) (h2 : v2 = Int32.ofNat h) (ht : (t : Int) < (s 2).toInt) (hh : h < 6) : ∃ c', D102_11t F v1 v2 m = some ((), xr m 12 c') ∧ R32 (pld s t h) c' := by
  have t6 : t < 6 := by have := J_nt I; omega
  have it := I.2.1 t ht
  have n6 := J_n6 I
  obtain ⟨hol, eh⟩ : ∃ n : Nat, n = (s (10 + 6 * t + 3)).toInt.toNat := ⟨_, rfl⟩
  have eh2 : s (10 + 6 * t + 3) = Int32.ofNat hol := i32n (by omega)
  have R1 := R_thj R I hh (d := hol) (by omega)
  have e4 : pth s (82 + 6 * h + hol) (10 + 6 * t + 4) = s (10 + 6 * t + 4) := pth_o (by omega)
  have R2 := R_ut (v := s (10 + 6 * t + 4) + 1) R1 t6 (w := 4) (by decide)
  have R3 := R_ut (v := v2) R2 t6 (w := 3) (by decide)
  refine ⟨_, ?_, (by unfold pld; rw [← eh, ← h2]; exact R3)⟩
  unfold D102_11t
  refine ob (c87_11t R h1 (w := 3) rfl t6 (by decide)) (ob (c94_11t R h2 eh2 hh (by omega)) (ob (a75_11t h2 eh2 hh (by omega)) (ob (c87_11t (s := pth s (82 + 6 * h + hol)) (by rw [xr_s]; exact R1) h1 (w := 4) rfl t6 (by decide)) (ob (a88_11t h1 (w := 4) rfl t6 (by decide)) (ob (a88_11t h1 (w := 3) rfl t6 (by decide)) ?_)))))
  simp only [xr_s, xr_xr, e4]
theorem a112cj : ∀ (f : Nat) {t : Nat} {s' : Nat → Int32} {m : xS}, R32 s' (m.1 12) → s' 2 = s 2 → s' 4 = s 4 → (t : Int) ≤ (s 2).toInt → (s 2).toInt ≤ 6 → 6 - t < f → ∃ c', D112_11t_2 F f (Int32.ofNat t) m = some ((), xr m 12 c') ∧ R32 (cup (pous s' t ((s 2).toInt.toNat - t)) 4 (if s 4 + 1 < 999 then s 4 + 1 else 999)) c' := by
  intro f
  induction f with
  | zero => intro t s' m _ _ _ _ _ l; omega
  | succ f ih =>
    intro t s' m R e2 e4 ht n6 l
    have et := nJ (n := t) (by omega)
    unfold D112_11t_2
    by_cases h : (s 2).toInt ≤ (t : Int)
    · rw [show (s 2).toInt.toNat - t = 0 by omega]
      have R1 := R_uj (v := if s 4 + 1 < 999 then s 4 + 1 else 999) R (j := 4) (by decide) (by decide)
      refine ⟨_, ob (c79_11t R) (oi (p := true) (by rw [zc]; exact decide_eq_true (by dsimp only; rw [e2]; omega)) (fun _ => ob (c81_11t R) ?_) (fun z => by cases z)), R1⟩
      dsimp only
      rw [e4, xu_xr]
    · have t6 : t < 6 := by omega
      rw [show (s 2).toInt.toNat - t = ((s 2).toInt.toNat - (t + 1)) + 1 by omega]
      show ∃ c', _ ∧ R32 (cup (pous (pou s' t) (t + 1) ((s 2).toInt.toNat - (t + 1))) 4 (if s 4 + 1 < 999 then s 4 + 1 else 999)) c'
      have next : ∀ {m' : xS}, R32 (pou s' t) (m'.1 12) → ∃ c', D112_11t_32 F (D112_11t_2 F f) (Int32.ofNat t) m' = some ((), xr m' 12 c') ∧ R32 (cup (pous (pou s' t) (t + 1) ((s 2).toInt.toNat - (t + 1))) 4 (if s 4 + 1 < 999 then s 4 + 1 else 999)) c' := fun {m'} R' => by
        unfold D112_11t_32
        rw [show Int32.ofNat t + Int32.ofInt 1 = Int32.ofNat (t + 1) from xadd (a := t) (b := 1) (by omega)]
        exact ih R' (by rw [pou_o (by omega)]; exact e2) (by rw [pou_o (by omega)]; exact e4) (by omega) n6 (by omega)
      have R1 := pou_R R t6
      by_cases hm : phm s' t = true
      · rw [if_pos hm] at R1
        obtain ⟨c', k1, k2⟩ := next R1
        refine ⟨c', ob (c79_11t R) (oi (p := false) (by rw [zc]; exact decide_eq_false (by dsimp only; rw [e2]; omega)) (fun z => by cases z) (fun _ => ob (c97_11t R rfl t6) (oi (p := true) (by rw [pB2]; exact hm) (fun _ => k1) (fun z => by cases z)))), k2⟩
      · rw [if_neg hm] at R1
        obtain ⟨c', k1, k2⟩ := next (m' := xr m 12 (cup (m.1 12) (6 + 6 * 5 + t) (s' (10 + 6 * t + 5) + 1))) (by rw [xr_s]; exact R1)
        rw [xr_xr] at k1
        refine ⟨c', ob (c79_11t R) (oi (p := false) (by rw [zc]; exact decide_eq_false (by dsimp only; rw [e2]; omega)) (fun z => by cases z) (fun _ => ob (c97_11t R rfl t6) (oi (p := false) (by rw [pB2]; simpa using hm) (fun z => by cases z) (fun _ => ob (c87_11t R rfl (w := 5) rfl t6 (by decide)) (ob (a88_11t rfl (w := 5) rfl t6 (by decide)) k1))))), k2⟩
end PJG
/-- the class's trial and a stack alone have changed -/
def kfj (r0 : Nat) (m m' : xS) : Prop := (∀ i, i ≠ 12 → m'.1 i = m.1 i) ∧ ∀ i j, i ≠ r0 + 2 → m'.2 i j = m.2 i j
theorem kf_rj (r0 : Nat) (m : xS) : kfj r0 m m := ⟨fun _ _ => rfl, fun _ _ _ => rfl⟩
theorem kf_tj {r0 : Nat} {a b c : xS} (h1 : kfj r0 a b) (h2 : kfj r0 b c) : kfj r0 a c := ⟨fun i h => (h2.1 i h).trans (h1.1 i h), fun i j h => (h2.2 i j h).trans (h1.2 i j h)⟩
theorem kf_xj {r0 : Nat} {m : xS} {c : Nat → Int32} : kfj r0 m (xr m 12 c) := ⟨fun _ h => xr_o h, fun _ _ _ => rfl⟩
theorem stp_fj {r0 : Nat} {m m' : xS} {xs : List Int} (h88 : 88 ≤ r0) (k : kfj r0 m m') (h : stp m r0 xs) : stp m' r0 xs := fun j x hj => by
  rw [k.1 (r0 + 1) (by omega)]
  exact h j x hj
section PJD
variable {s : Nat → Int32} {sm : (Nat → Int32) → Nat → Nat → Int64} {D : Int}
theorem ldt_Ij (I : vJD D s) {t : Nat} {b : Int32} (ht : (t : Int) < (s 2).toInt) (h : okb s t b) : vJD D (ldt s t b) := by
  have n6 := J_n6 I
  unfold ldt
  rcases h with h | ⟨k, rfl, h1, h2⟩
  · rw [if_pos h]
    exact I
  · have ek := nJ (n := k) (by omega)
    rw [if_neg (fun z => by
      have z := congrArg Int32.toInt z
      rw [ek] at z
      have e1 : (-1 : Int32).toInt = -1 := rfl
      omega), ek, Int.toNat_natCast]
    exact J_ld I ht h1 h2
theorem lnd1_okj {t : Nat} (I : vJD D s) : okb s t (lbh s (sm s t) t 0 (s 0).toInt.toNat (-1, 0)).1 := lbh_ok _ 0 (by have := J_n0 I; omega) (Or.inl rfl)
theorem lall_Ij : ∀ (n : Nat) {s : Nat → Int32} {t : Nat}, vJD D s → ((t + n : Nat) : Int) ≤ (s 2).toInt → vJD D (lall sm t n s)
  | 0, _, _, I, _ => I
  | n + 1, s, t, I, l => by
    show vJD D (lall sm (t + 1) n (lnd1 sm s t))
    refine lall_Ij n (ldt_Ij I (by omega) (lnd1_okj I)) ?_
    show _ ≤ (ldt s t _ 2).toInt
    rw [ldt_k (by decide)]
    omega
theorem fwk_Ij : ∀ (n : Nat) {s : Nat → Int32} {w : Nat}, vJD D s → ((w + n : Nat) : Int) ≤ (s 3).toInt → vJD D (fwk w n s)
  | 0, _, _, I, _ => I
  | n + 1, s, w, I, l => by
    show vJD D (fwk (w + 1) n (if pcd s w = true then pwk s w else s))
    by_cases z : pcd s w = true
    · rw [if_pos z]
      refine fwk_Ij n (J_wk I (by omega)) ?_
      rw [pwk_k (by decide)]
      omega
    · rw [if_neg z]
      exact fwk_Ij n I (by omega)
end PJD
section PJS
variable {s : Nat → Int32} {m : xS} {F : Nat} {D : Int}
theorem c114_6j (R : R32 s (m.1 12)) (I : vJD D s) {t h x : Nat} {v4 : Int32} {g : Bool} (hg : zcmp .eq v4 0 = !g) (ht : (t : Int) < (s 2).toInt) (hx : x < 4) : ∀ (f : Nat) {k : Nat} {v : Int32}, (k : Int) ≤ (s 3).toInt → 7 - k < f → D114_11t_6 F f (Int32.ofNat t) (Int32.ofNat h) (Int32.ofNat x) v4 v (Int32.ofNat k) m = some (wnt s t h x g k ((s 3).toInt.toNat - k) v, m) := by
  have n6 := J_nw I
  have t6 : t < 6 := by have := J_nt I; omega
  intro f
  induction f with
  | zero => intro k v _ l; omega
  | succ f ih =>
    intro k v hk l
    have ek := nJ (n := k) (by omega)
    unfold D114_11t_6
    refine ob (c80_11t R) (oi (p := decide ((s 3).toInt ≤ (Int32.ofNat k).toInt)) zc (fun q => ?_) (fun q => ?_))
    · have q := of_decide_eq_true q
      rw [show (s 3).toInt.toNat - k = 0 by omega]
      rfl
    · have q := of_decide_eq_false q
      have k6 : k < 6 := by omega
      have kw : (k : Int) < (s 3).toInt := by omega
      rw [show (s 3).toInt.toNat - k = ((s 3).toInt.toNat - (k + 1)) + 1 by omega]
      have nx : Int32.ofNat k + Int32.ofInt 1 = Int32.ofNat (k + 1) := xadd (a := k) (b := 1) (by omega)
      have skip : ∀ {v' : Int32}, D114_11t_84 F (D114_11t_6 F f) (Int32.ofNat t) (Int32.ofNat h) (Int32.ofNat x) v4 v' (Int32.ofNat k) m = some (wnt s t h x g (k + 1) ((s 3).toInt.toNat - (k + 1)) v', m) := fun {v'} => by
        unfold D114_11t_84
        rw [nx]
        exact ih (by omega) (by omega)
      show _ = some (wnt s t h x g (k + 1) ((s 3).toInt.toNat - (k + 1)) (if wsel s t h k = true then _ else v), m)
      refine ob (c89_11t R (w := k) (k := 0) rfl rfl k6 (by decide)) (oi (p := !(s (124 + 4 * k + 0) == Int32.ofNat h)) zcn (fun a => ?_) (fun a => ?_))
      · have a : (s (124 + 4 * k) == Int32.ofNat h) = false := by simpa using a
        rw [show wsel s t h k = false by unfold wsel; rw [a, Bool.false_and], if_neg (by decide)]
        exact skip
      have a : (s (124 + 4 * k) == Int32.ofNat h) = true := by simpa using a
      have ln := (I.2.2.1 k kw).2
      refine ob (c89d_11t R (w := k) rfl k6 kw) (oi (p := pdn s k) ((zcni (y := -1) rfl).trans ?_) (fun b => ?_) (fun b => ?_))
      · unfold pdn
        by_cases z : (s (118 + k)).toInt = -1
        · rw [decide_eq_true z, decide_eq_false (by omega)]
          rfl
        · rw [decide_eq_false z, decide_eq_true (by omega)]
          rfl
      · rw [show wsel s t h k = false by unfold wsel; rw [b]; simp, if_neg (by decide)]
        exact skip
      refine ob (c89_11t R (w := k) (k := 1) rfl rfl k6 (by decide)) (ob (c87_11t R (t := t) (w := 1) rfl rfl t6 (by decide)) (oi (p := !(s (124 + 4 * k + 1) == s (10 + 6 * t + 1))) zcn (fun c => ?_) (fun c => ?_)))
      · have c : (s (124 + 4 * k + 1) == s (10 + 6 * t + 1)) = false := by simpa using c
        rw [show wsel s t h k = false by unfold wsel; rw [c]; simp, if_neg (by decide)]
        exact skip
      have c : (s (124 + 4 * k + 1) == s (10 + 6 * t + 1)) = true := by simpa using c
      rw [show wsel s t h k = true by unfold wsel; rw [a, b, c]; rfl, if_pos rfl]
      refine ob (c89_11t R (w := k) (k := x) rfl rfl k6 hx) (oi (p := !g) hg (fun e => ?_) (fun e => ?_))
      · rw [show g = false by simpa using e, if_neg (by decide)]
        unfold D114_11t_82
        rw [show g = false by simpa using e] at skip
        exact skip
      · rw [show g = true by simpa using e, if_pos rfl]
        unfold D114_11t_82
        rw [show g = true by simpa using e] at skip
        exact skip
theorem c114j (hF : 500 ≤ F) (R : R32 s (m.1 12)) (I : vJD D s) {t h x : Nat} {v4 : Int32} {g : Bool} (hg : zcmp .eq v4 0 = !g) (ht : (t : Int) < (s 2).toInt) (hx : x < 4) : D114_11t F (Int32.ofNat t) (Int32.ofNat h) (Int32.ofNat x) v4 m = some (wnt s t h x g 0 (s 3).toInt.toNat 0, m) := by
  have n6 := J_nw I
  have z := c114_6j (F := F) R I hg ht hx F (h := h) (k := 0) (v := 0) (by omega) (by omega)
  rw [Nat.sub_zero] at z
  unfold D114_11t
  exact z
theorem c31j (hF : 500 ≤ F) (R : R32 s (m.1 12)) (I : vJD D s) {t h i : Nat} (ht : (t : Int) < (s 2).toInt) (hh : h < 6) (hi : i < 20) : D31_11t F (Int32.ofNat i) (Int32.ofNat t) (Int32.ofNat h) m = some (wrd s t h i, m) := by
  have t6 : t < 6 := by have := J_nt I; omega
  have it := I.2.1 t ht
  have n6 := J_n6 I
  have eh : s (10 + 6 * t + 3) = Int32.ofNat (s (10 + 6 * t + 3)).toInt.toNat := i32n (by omega)
  have lh : (s (10 + 6 * t + 3)).toInt.toNat < 6 := by omega
  have k : ∀ {w : Nat}, w < 6 → D87_11t F (Int32.ofNat t) (Int32.ofNat w) m = some (s (10 + 6 * t + w), m) := fun hw => c87_11t R rfl rfl t6 hw
  have tr : ((D92_11t F (Int32.ofNat h) (s (10 + 6 * t + 3)) m).bind fun q149 => if zcmp .eq q149.1 0 = true then some ((0 : Int32), q149.2) else some (1, q149.2)) = some ((if ptr s h (s (10 + 6 * t + 3)).toInt.toNat = true then (1 : Int32) else 0), m) := ob (c92uj R rfl eh hh lh) (oi (p := !ptr s h (s (10 + 6 * t + 3)).toInt.toNat) pB1 (fun z => by
    rw [if_neg (by simpa using z)]) (fun z => by
    rw [if_pos (by simpa using z)]))
  unfold D31_11t
  refine ob (k (w := 3) (by decide)) ?_
  match i, hi with
  | 0, _ => exact oT (by decide) (rfl)
  | 1, _ => exact oF (by decide) (oT (by decide) (ob (k (w := 1) (by decide)) rfl))
  | 2, _ => exact oF (by decide) (oF (by decide) (oT (by decide) (ob (k (w := 0) (by decide)) rfl)))
  | 3, _ => exact oF (by decide) (oF (by decide) (oF (by decide) (oT (by decide) (rfl))))
  | 4, _ => exact oF (by decide) (oF (by decide) (oF (by decide) (oF (by decide) (oT (by decide) (rfl)))))
  | 5, _ => exact oF (by decide) (oF (by decide) (oF (by decide) (oF (by decide) (oF (by decide) (oT (by decide) (ob (k (w := 4) (by decide)) rfl))))))
  | 6, _ => exact oF (by decide) (oF (by decide) (oF (by decide) (oF (by decide) (oF (by decide) (oF (by decide) (oT (by decide) (ob (c100_11tj R I rfl ht) rfl)))))))
  | 7, _ => exact oF (by decide) (oF (by decide) (oF (by decide) (oF (by decide) (oF (by decide) (oF (by decide) (oF (by decide) (oT (by decide) (ob (k (w := 5) (by decide)) rfl))))))))
  | 8, _ => exact oF (by decide) (oF (by decide) (oF (by decide) (oF (by decide) (oF (by decide) (oF (by decide) (oF (by decide) (oF (by decide) (oT (by decide) (ob (c81_11t R) rfl)))))))))
  | 9, _ => exact oF (by decide) (oF (by decide) (oF (by decide) (oF (by decide) (oF (by decide) (oF (by decide) (oF (by decide) (oF (by decide) (oF (by decide) (oT (by decide) (ob (c114j hF R I (x := 2) (g := true) (by decide) ht (by decide)) rfl))))))))))
  | 10, _ => exact oF (by decide) (oF (by decide) (oF (by decide) (oF (by decide) (oF (by decide) (oF (by decide) (oF (by decide) (oF (by decide) (oF (by decide) (oF (by decide) (oT (by decide) (ob (c114j hF R I (x := 3) (g := false) (by decide) ht (by decide)) rfl)))))))))))
  | 11, _ => exact oF (by decide) (oF (by decide) (oF (by decide) (oF (by decide) (oF (by decide) (oF (by decide) (oF (by decide) (oF (by decide) (oF (by decide) (oF (by decide) (oF (by decide) (oT (by decide) (ob (c94_11t R rfl eh hh lh) rfl))))))))))))
  | 12, _ => exact oF (by decide) (oF (by decide) (oF (by decide) (oF (by decide) (oF (by decide) (oF (by decide) (oF (by decide) (oF (by decide) (oF (by decide) (oF (by decide) (oF (by decide) (oF (by decide) (tr))))))))))))
  | 13, _ => exact oF (by decide) (oF (by decide) (oF (by decide) (oF (by decide) (oF (by decide) (oF (by decide) (oF (by decide) (oF (by decide) (oF (by decide) (oF (by decide) (oF (by decide) (oF (by decide) (tr))))))))))))
  | 14, _ => exact oF (by decide) (oF (by decide) (oF (by decide) (oF (by decide) (oF (by decide) (oF (by decide) (oF (by decide) (oF (by decide) (oF (by decide) (oF (by decide) (oF (by decide) (oF (by decide) (tr))))))))))))
  | 15, _ => exact oF (by decide) (oF (by decide) (oF (by decide) (oF (by decide) (oF (by decide) (oF (by decide) (oF (by decide) (oF (by decide) (oF (by decide) (oF (by decide) (oF (by decide) (oF (by decide) (tr))))))))))))
  | 16, _ => exact oF (by decide) (oF (by decide) (oF (by decide) (oF (by decide) (oF (by decide) (oF (by decide) (oF (by decide) (oF (by decide) (oF (by decide) (oF (by decide) (oF (by decide) (oF (by decide) (tr))))))))))))
  | 17, _ => exact oF (by decide) (oF (by decide) (oF (by decide) (oF (by decide) (oF (by decide) (oF (by decide) (oF (by decide) (oF (by decide) (oF (by decide) (oF (by decide) (oF (by decide) (oF (by decide) (tr))))))))))))
  | 18, _ => exact oF (by decide) (oF (by decide) (oF (by decide) (oF (by decide) (oF (by decide) (oF (by decide) (oF (by decide) (oF (by decide) (oF (by decide) (oF (by decide) (oF (by decide) (oF (by decide) (tr))))))))))))
  | 19, _ => exact oF (by decide) (oF (by decide) (oF (by decide) (oF (by decide) (oF (by decide) (oF (by decide) (oF (by decide) (oF (by decide) (oF (by decide) (oF (by decide) (oF (by decide) (oF (by decide) (tr))))))))))))
  | i + 20, z => omega
/-- sumFor: its loop -/
theorem c28_6j (hF : 500 ≤ F) {r0 nn : Nat} (hn : nn ≤ 400) (I : vJD D s) {t h : Nat} (ht : (t : Int) < (s 2).toInt) (hh : h < 6) : ∀ (f : Nat) {m : xS} {p : Nat} {xs : List Int} {st : List Int64}, R32 s (m.1 12) → p + xs.length = nn → xs.length < f → (∀ (j : Nat) (x : Int), xs[j]? = some x → (m.1 (r0 + 1) (p + j)).toInt = x) → sC m (r0 + 2) st → st.length ≤ 64 → cgd (wrl s t h) xs st → ∃ M : Nat → Nat → Int64, D28_R_11t_6 F r0 nn f (Int32.ofNat t) (Int32.ofNat h) (Int32.ofNat st.length) (Int32.ofNat p) m = some (csum (wrl s t h) xs st, (m.1, M)) ∧ ∀ i j, i ≠ r0 + 2 → M i j = m.2 i j := by
  intro f
  induction f with
  | zero => intro m p xs st _ _ l; omega
  | succ f ih =>
    intro m p xs st R hp lf hx hs h64 hg
    have ep := nJ (n := p) (by omega)
    have en := nJ (n := nn) (by omega)
    unfold D28_R_11t_6
    cases xs with
    | nil =>
      have hp : p = nn := hp
      exact ⟨m.2, oT (zc.trans (decide_eq_true (by omega))) rfl, fun _ _ _ => rfl⟩
    | cons x xs =>
      rw [List.length_cons] at hp lf
      have X := hx 0 x rfl
      rw [Nat.add_zero] at X
      have hx' : ∀ (j : Nat) (y : Int), xs[j]? = some y → (m.1 (r0 + 1) (p + 1 + j)).toInt = y := fun j y hj => by
        rw [show p + 1 + j = p + (j + 1) by omega]
        exact hx (j + 1) y hj
      have gi : (Int32.ofNat p).toNatClampNeg = p := gxn ep
      rw [gi]
      generalize hXX : m.1 (r0 + 1) p = Y at X
      have c0 : zcmp .ge (Int32.ofNat p) (Int32.ofNat nn) = false := zc.trans (decide_eq_false (by omega))
      have c1 : xib (Int32.ofNat p) nn = true := gxb ep (by omega)
      have nx : ∀ {m1 : xS} {st1 : List Int64} {v6 : Int32}, m1.1 = m.1 → (∀ i j, i ≠ r0 + 2 → m1.2 i j = m.2 i j) → sC m1 (r0 + 2) st1 → st1.length ≤ 64 → cgd (wrl s t h) xs st1 → csum (wrl s t h) xs st1 = csum (wrl s t h) (x :: xs) st → ∃ M : Nat → Nat → Int64, D28_R_11t_198 F r0 nn (D28_R_11t_6 F r0 nn f) (Int32.ofNat t) (Int32.ofNat h) (Int32.ofNat st1.length) (Int32.ofNat p) v6 m1 = some (csum (wrl s t h) (x :: xs) st, (m.1, M)) ∧ ∀ i j, i ≠ r0 + 2 → M i j = m.2 i j := fun {m1 st1 v6} e1 e2 e3 e4 e5 e6 => by
        obtain ⟨M, d1, d2⟩ := ih (m := m1) (p := p + 1) (xs := xs) (st := st1) (by rw [e1]; exact R) (by omega) (by omega) (by rw [e1]; exact hx') e3 e4 e5
        unfold D28_R_11t_198
        rw [(o1 (n := p) (by omega)).2.2]
        exact ⟨M, by rw [d1, e6, e1], fun i j z => (d2 i j z).trans (e2 i j z)⟩
      have l0 : (20 : Int32).toInt = 20 := rfl
      have l40 : (40 : Int32).toInt = 40 := rfl
      have hg : if x = 14 then 1 ≤ st.length else if x = 15 then (2 ≤ st.length ∧ (st.reverse.getD 1 0 = 0 → cgd (wrl s t h) xs [])) else ((1 ≤ x ∧ x ≤ 13) ∨ 20 ≤ x) ∧ (20 ≤ x → st.length < 64) ∧ ∃ st', sst (wrl s t h) x st = some st' ∧ cgd (wrl s t h) xs st' := hg
      have hcs : csum (wrl s t h) (x :: xs) st = if x = 14 then st.reverse.getD 0 0 else if x = 15 then (if st.reverse.getD 1 0 ≠ 0 then st.reverse.getD 0 0 else csum (wrl s t h) xs []) else match sst (wrl s t h) x st with
        | some st' => csum (wrl s t h) xs st'
        | none => csum (wrl s t h) xs st := rfl
      by_cases k14 : x = 14
      · rw [if_pos k14] at hg hcs
        refine ⟨m.2, oF c0 (oT c1 (oT (zcl.trans (decide_eq_true (by omega))) (oF ((zcni (y := 14) rfl).trans (by rw [decide_eq_true (by omega)]; rfl)) ?_))), fun _ _ _ => rfl⟩
        rw [hcs, ← sC_g hs hg]
      rw [if_neg k14] at hg hcs
      by_cases k15 : x = 15
      · rw [if_pos k15] at hg hcs
        have g1 := sC_g hs (show 1 < st.length by omega)
        have g0 := sC_g hs (show 0 < st.length by omega)
        have two : ∀ {r : Option (Int64 × xS)} {a : Option (Int64 × xS)}, (st.reverse.getD 1 0 = 0 → a = r) → (¬ st.reverse.getD 1 0 = 0 → some ((m.2 (r0 + 2) 0), m) = r) → (if zcmp .eq (lg_cmp (m.2 (r0 + 2) 1) 0) 0 = true then a else some ((m.2 (r0 + 2) 0), m)) = r := fun {r a} h1 h2 => by
          rw [g1]
          have z := lg0 (st.reverse.getD 1 0)
          have z2 : zcmp .eq (lg_cmp (st.reverse.getD 1 0) 0) 0 = decide (st.reverse.getD 1 0 = 0) := by
            rw [zce]
            rw [zcn] at z
            have z := congrArg Bool.not z
            rw [Bool.not_not, Bool.not_not] at z
            exact z
          rw [z2]
          by_cases y : st.reverse.getD 1 0 = 0
          · rw [decide_eq_true y, if_pos rfl]
            exact h1 y
          · rw [decide_eq_false y, if_neg (by decide)]
            exact h2 y
        by_cases y : st.reverse.getD 1 0 = 0
        · rw [if_neg (fun z => z y)] at hcs
          obtain ⟨M, d1, d2⟩ := nx (m1 := m) (st1 := []) (v6 := Y) rfl (fun _ _ _ => rfl) (fun j x hx => by cases hx) (by decide) (hg.2 y) hcs.symm
          exact ⟨M, oF c0 (oT c1 (oT (zcl.trans (decide_eq_true (by omega))) (oT ((zcni (y := 14) rfl).trans (by rw [decide_eq_false (by omega)]; rfl)) (oF ((zcni (y := 15) rfl).trans (by rw [decide_eq_true (by omega)]; rfl)) (two (fun _ => d1) (fun z => absurd y z)))))), d2⟩
        · rw [if_pos y] at hcs
          refine ⟨m.2, oF c0 (oT c1 (oT (zcl.trans (decide_eq_true (by omega))) (oT ((zcni (y := 14) rfl).trans (by rw [decide_eq_false (by omega)]; rfl)) (oF ((zcni (y := 15) rfl).trans (by rw [decide_eq_true (by omega)]; rfl)) (two (fun z => absurd z y) (fun _ => ?_)))))), fun _ _ _ => rfl⟩
          rw [hcs, g0]
      rw [if_neg k15] at hg hcs
      obtain ⟨hr, h20, st', e1, e2⟩ := hg
      rw [e1] at hcs
      have hcs : csum (wrl s t h) xs st' = csum (wrl s t h) (x :: xs) st := hcs.symm
      unfold sst at e1
      by_cases k20 : 20 ≤ x
      · -- a value
        have l64 := h20 k20
        have push : ∀ {v : Int64} {v6 : Int32}, st' = v :: st → ∃ M : Nat → Nat → Int64, D28_R_11t_73 F r0 nn (D28_R_11t_6 F r0 nn f) (Int32.ofNat t) (Int32.ofNat h) (Int32.ofNat st.length) (Int32.ofNat p) v6 v (Int32.ofNat st.length) m = some (csum (wrl s t h) (x :: xs) st, (m.1, M)) ∧ ∀ i j, i ≠ r0 + 2 → M i j = m.2 i j := fun {v v6} ev => by
          subst ev
          have el := nJ (n := st.length) (by omega)
          unfold D28_R_11t_73
          rw [gxn el, (o1 (n := st.length) (by omega)).2.2, if_pos (gxb el l64)]
          exact nx (m1 := xul m (r0 + 2) st.length v) (st1 := v :: st) rfl (fun i j z => if_neg (fun y => z y.1)) (sC_up hs) (by rw [List.length_cons]; omega) e2 hcs
        have k1 : zcmp .lt Y 20 = false := zcl.trans (decide_eq_false (by omega))
        have k2 : zcmp .ge (Int32.ofNat st.length) 64 = false := zc.trans (decide_eq_false (by
          have e64 : (64 : Int32).toInt = 64 := rfl
          rw [nJ (by omega), e64]
          omega))
        by_cases k40 : 40 ≤ x
        · rw [if_pos k40] at e1
          have b := y32 Y
          have ev : (Y - 40 : Int32).toInt64 = Int64.ofInt (x - 40) := by
            apply Int64.toInt_inj.mp
            rw [Int32.toInt_toInt64, xs1 (by rw [l40]; omega) (by rw [l40]; omega), l40, X, Int64.toInt_ofInt]
            have hs : ((Int64.size : Nat) : Int) = 18446744073709551616 := rfl
            exact (Int.bmod_eq_of_le_mul_two (by omega) (by omega)).symm
          obtain ⟨M, d1, d2⟩ := push (v := (Y - 40 : Int32).toInt64) (v6 := Y) (by rw [ev]; exact (Option.some.inj e1).symm)
          exact ⟨M, oF c0 (oT c1 (oF k1 (oF k2 (oF (zcl.trans (decide_eq_false (by omega))) d1)))), d2⟩
        · rw [if_neg k40, if_pos k20] at e1
          have ei : Y - 20 = Int32.ofNat (x - 20).toNat := by
            apply Int32.toInt_inj.mp
            rw [xs1 (by rw [l0]; omega) (by rw [l0]; omega), l0, X, nJ (by omega)]
            omega
          obtain ⟨M, d1, d2⟩ := push (v := (wrd s t h (x - 20).toNat).toInt64) (v6 := Y) (Option.some.inj e1).symm
          exact ⟨M, oF c0 (oT c1 (oF k1 (oF k2 (oT (zcl.trans (decide_eq_true (by omega))) (by
            rw [ei]
            exact ob (c31j hF R I ht hh (by omega)) d1))))), d2⟩
      · rw [if_neg (by omega), if_neg k20] at e1
        have k1 : zcmp .lt Y 20 = true := zcl.trans (decide_eq_true (by omega))
        have k2 : zcmp .ne Y 14 = true := (zcni (y := 14) rfl).trans (by rw [decide_eq_false (by omega)]; rfl)
        have k3 : zcmp .ne Y 15 = true := (zcni (y := 15) rfl).trans (by rw [decide_eq_false (by omega)]; rfl)
        by_cases x3 : x = 3
        · rw [if_pos x3] at e1
          cases st with
          | nil => cases e1
          | cons v st =>
            have e1 : (1 - v) :: st = st' := Option.some.inj e1
            subst e1
            rw [List.length_cons] at h64
            obtain ⟨s1, s2⟩ := sC_tl hs
            have el := nJ (n := st.length) (by omega)
            have el1 := nJ (n := st.length + 1) (by omega)
            obtain ⟨M, d1, d2⟩ := nx (m1 := xul m (r0 + 2) st.length (1 - v)) (st1 := (1 - v) :: st) (v6 := Y) rfl (fun i j z => if_neg (fun y => z y.1)) (sC_up s1) (by rw [List.length_cons]; omega) e2 hcs
            refine ⟨M, oF c0 (oT c1 (oT k1 (oT k2 (oT k3 (oF ((zcni (y := 3) rfl).trans (by rw [decide_eq_true (by omega)]; rfl)) (oF (zcle.trans (decide_eq_false ?_)) ?_)))))), d2⟩
            · have e0 : (0 : Int32).toInt = 0 := rfl
              rw [List.length_cons, el1, e0]
              omega
            · rw [List.length_cons, (o1 (n := st.length) (by omega)).2.1, gxn el, s2, if_pos (gxb el (by omega)), if_pos (gxb el (by omega))]
              exact d1
        · rw [if_neg x3] at e1
          cases st with
          | nil => cases e1
          | cons v st =>
            cases st with
            | nil => cases e1
            | cons u st =>
              have e1 : sop x u v :: st = st' := Option.some.inj e1
              subst e1
              rw [List.length_cons, List.length_cons] at h64
              obtain ⟨s1, s2⟩ := sC_tl hs
              obtain ⟨s3, s4⟩ := sC_tl s1
              rw [List.length_cons] at s2
              have el := nJ (n := st.length) (by omega)
              have el1 := nJ (n := st.length + 1) (by omega)
              have el2 := nJ (n := st.length + 1 + 1) (by omega)
              obtain ⟨M, d1, d2⟩ := nx (m1 := xul m (r0 + 2) st.length (sop x u v)) (st1 := sop x u v :: st) (v6 := Y) rfl (fun i j z => if_neg (fun y => z y.1)) (sC_up s3) (by rw [List.length_cons]; omega) e2 hcs
              refine ⟨M, oF c0 (oT c1 (oT k1 (oT k2 (oT k3 (oT ((zcni (y := 3) rfl).trans (by rw [decide_eq_false (by omega)]; rfl)) ?_))))), d2⟩
              unfold D28_R_11t_159
              refine oF (zcle.trans (decide_eq_false ?_)) ?_
              · have e0 : (1 : Int32).toInt = 1 := rfl
                rw [List.length_cons, List.length_cons, el2, e0]
                omega
              · rw [List.length_cons, List.length_cons, (o1 (n := st.length + 1) (by omega)).1, (o1 (n := st.length) (by omega)).2.1, gxn el, gxn el1, s2, s4, if_pos (gxb el (by omega)), if_pos (gxb el1 (by omega))]
                refine ob (c29 X (by omega) (by omega) x3) ?_
                rw [if_pos (gxb el (by omega))]
                exact d1
/-- sumFor -/
theorem c28j (hF : 500 ≤ F) {r0 nn : Nat} (hn : nn ≤ 400) (R : R32 s (m.1 12)) (I : vJD D s) {t h : Nat} (ht : (t : Int) < (s 2).toInt) (hh : h < 6) {xs : List Int} (hl : xs.length = nn) (hx : ∀ (j : Nat) (x : Int), xs[j]? = some x → (m.1 (r0 + 1) j).toInt = x) (hg : cgd (wrl s t h) xs []) : ∃ M : Nat → Nat → Int64, D28_R_11t F r0 nn (Int32.ofNat t) (Int32.ofNat h) m = some (csum (wrl s t h) xs [], (m.1, M)) ∧ ∀ i j, i ≠ r0 + 2 → M i j = m.2 i j := by
  unfold D28_R_11t
  exact c28_6j hF hn I ht hh F (p := 0) (st := []) R (by omega) (by omega) (fun j x hj => by rw [Nat.zero_add]; exact hx j x hj) (fun j x hx => by cases hx) (by decide) hg
theorem c27_18j (hF : 500 ≤ F) {r0 nn : Nat} (h88 : 88 ≤ r0) (hn : nn ≤ 400) {xs : List Int} (hl : xs.length = nn) (G : ∀ w, cgd w xs []) (I : vJD D s) {t : Nat} (ht : (t : Int) < (s 2).toInt) {g2 : Int32 → xS → Option (Unit × xS)} : ∀ (f : Nat) {m : xS} {h : Nat} {a : Int32 × Int64}, R32 s (m.1 12) → stp m r0 xs → 0 ≤ a.2.toInt → (h : Int) ≤ (s 0).toInt → 7 - h < f → okb s t a.1 → ∃ m', D27_R_11t_18 F r0 nn g2 f (Int32.ofNat t) a.1 a.2 (Int32.ofNat h) m = g2 (Int32.ofNat (t + 1)) m' ∧ R32 (ldt s t (lbh s (smC xs s t) t h ((s 0).toInt.toNat - h) a).1) (m'.1 12) ∧ kfj r0 m m' := by
  have n6 := J_n6 I
  have t6 : t < 6 := by have := J_nt I; omega
  intro f
  induction f with
  | zero => intro m h a _ _ _ _ l; omega
  | succ f ih =>
    intro m h a R S a0 hh l ha
    have eh := nJ (n := h) (by omega)
    unfold D27_R_11t_18
    by_cases q : (s 0).toInt ≤ (h : Int)
    · rw [show (s 0).toInt.toNat - h = 0 by omega]
      show ∃ m' : xS, _ ∧ R32 (ldt s t a.1) (m'.1 12) ∧ _
      have g : zcmp .ge (Int32.ofNat h) (s 0) = true := zc.trans (decide_eq_true (by omega))
      rcases ha with e | ⟨k, e, k1, k2⟩
      · refine ⟨m, ob (c77_11t R) (oT g (oT (zce.trans (beq_iff_eq.mpr e)) ?_)), ?_, kf_rj r0 m⟩
        · unfold D27_R_11t_83
          rw [(o1 (n := t) (by omega)).2.2]
        · unfold ldt
          rw [if_pos e]
          exact R
      · have ek := nJ (n := k) (by omega)
        have ne : ¬ a.1 = -1 := fun z => by
          have z := congrArg Int32.toInt (e.symm.trans z)
          rw [ek] at z
          have e1 : (-1 : Int32).toInt = -1 := rfl
          omega
        obtain ⟨c', z1, z2⟩ := a102j (F := F) R I (t := t) (h := k) (v1 := Int32.ofNat t) (v2 := a.1) rfl e ht (by omega)
        refine ⟨xr m 12 c', ob (c77_11t R) (oT g (oF (zce.trans (beq_eq_false_iff_ne.mpr ne)) (ob z1 ?_))), ?_, kf_xj⟩
        · unfold D27_R_11t_83
          rw [(o1 (n := t) (by omega)).2.2]
        · unfold ldt
          rw [if_neg ne, e, ek, Int.toNat_natCast, xr_s]
          exact z2
    · have h6 : h < 6 := by omega
      rw [show (s 0).toInt.toNat - h = ((s 0).toInt.toNat - (h + 1)) + 1 by omega]
      show ∃ m' : xS, _ ∧ R32 (ldt s t (lbh s (smC xs s t) t (h + 1) ((s 0).toInt.toNat - (h + 1)) (if pcl s t h = true ∧ a.2.toInt < (smC xs s t h).toInt then (Int32.ofNat h, smC xs s t h) else a)).1) (m'.1 12) ∧ _
      have g : zcmp .ge (Int32.ofNat h) (s 0) = false := zc.trans (decide_eq_false (by omega))
      have nx : ∀ {m1 : xS} {b : Int32 × Int64} {v7 : Int64}, kfj r0 m m1 → R32 s (m1.1 12) → 0 ≤ b.2.toInt → okb s t b.1 → ∃ m', D27_R_11t_66 F r0 nn g2 (D27_R_11t_18 F r0 nn g2 f) (Int32.ofNat t) b.1 b.2 (Int32.ofNat h) v7 m1 = g2 (Int32.ofNat (t + 1)) m' ∧ R32 (ldt s t (lbh s (smC xs s t) t (h + 1) ((s 0).toInt.toNat - (h + 1)) b).1) (m'.1 12) ∧ kfj r0 m m' := fun {m1 b v7} k R1 b0 hb => by
        obtain ⟨m', d1, d2, d3⟩ := ih (m := m1) (h := h + 1) (a := b) R1 (stp_fj h88 k S) b0 (by omega) (by omega) hb
        refine ⟨m', ?_, d2, kf_tj k d3⟩
        unfold D27_R_11t_66
        rw [(o1 (n := h) (by omega)).2.2]
        exact d1
      have l0 : (0 : Int64).toInt = 0 := rfl
      by_cases c : pcl s t h = true
      · obtain ⟨M, z1, z2⟩ := c28j (F := F) hF (r0 := r0) hn R I ht h6 hl S (G _)
        have km : kfj r0 m (m.1, M) := ⟨fun _ _ => rfl, z2⟩
        have g5 := (lgS (smC xs s t h) a.2).2.2.2.2
        by_cases d : a.2.toInt < (smC xs s t h).toInt
        · rw [if_pos ⟨c, d⟩]
          obtain ⟨m', d1, d2, d3⟩ := nx (m1 := (m.1, M)) (b := (Int32.ofNat h, smC xs s t h)) (v7 := smC xs s t h) km R (by show 0 ≤ (smC xs s t h).toInt; omega) (Or.inr ⟨h, rfl, by omega, c⟩)
          refine ⟨m', ob (c77_11t R) (oF g (ob (c101uj R I rfl rfl ht h6) (oF (pB1.trans (by rw [c]; rfl)) (ob z1 ?_)))), d2, d3⟩
          unfold D27_R_11t_49
          exact oF (g5.trans (decide_eq_false (by omega))) d1
        · rw [if_neg (fun z => d z.2)]
          obtain ⟨m', d1, d2, d3⟩ := nx (m1 := (m.1, M)) (b := a) (v7 := smC xs s t h) km R a0 ha
          refine ⟨m', ob (c77_11t R) (oF g (ob (c101uj R I rfl rfl ht h6) (oF (pB1.trans (by rw [c]; rfl)) (ob z1 ?_)))), d2, d3⟩
          unfold D27_R_11t_49
          exact oT (g5.trans (decide_eq_true (by omega))) d1
      · rw [if_neg (fun z => c z.1)]
        have c' : pcl s t h = false := by simpa using c
        have g5 := (lgS 0 a.2).2.2.2.2
        obtain ⟨m', d1, d2, d3⟩ := nx (m1 := m) (b := a) (v7 := 0) (kf_rj r0 m) R a0 ha
        refine ⟨m', ob (c77_11t R) (oF g (ob (c101uj R I rfl rfl ht h6) (oT (pB1.trans (by rw [c']; rfl)) ?_))), d2, d3⟩
        unfold D27_R_11t_49
        exact oT (g5.trans (decide_eq_true (by rw [l0]; exact a0))) d1
theorem c27_2j (hF : 500 ≤ F) {r0 nn : Nat} (h88 : 88 ≤ r0) (hn : nn ≤ 400) {xs : List Int} (hl : xs.length = nn) (G : ∀ w, cgd w xs []) : ∀ (f : Nat) {s : Nat → Int32} {m : xS} {t : Nat}, vJD D s → R32 s (m.1 12) → stp m r0 xs → (t : Int) ≤ (s 2).toInt → 7 - t < f → ∃ m', D27_R_11t_2 F r0 nn f (Int32.ofNat t) m = some ((), m') ∧ R32 (lall (smC xs) t ((s 2).toInt.toNat - t) s) (m'.1 12) ∧ kfj r0 m m' := by
  intro f
  induction f with
  | zero => intro s m t _ _ _ _ l; omega
  | succ f ih =>
    intro s m t I R S ht l
    have n2 := J_nt I
    have n6 := J_n6 I
    have et := nJ (n := t) (by omega)
    unfold D27_R_11t_2
    by_cases q : (s 2).toInt ≤ (t : Int)
    · rw [show (s 2).toInt.toNat - t = 0 by omega]
      have g : zcmp .ge (Int32.ofNat t) (s 2) = true := zc.trans (decide_eq_true (by omega))
      exact ⟨m, ob (c79_11t R) (oT g rfl), R, kf_rj r0 m⟩
    · rw [show (s 2).toInt.toNat - t = ((s 2).toInt.toNat - (t + 1)) + 1 by omega]
      have n0 := J_n0 I
      obtain ⟨m1, z1, z2, z3⟩ := c27_18j (F := F) hF h88 hn hl G I (t := t) (by omega) (g2 := D27_R_11t_2 F r0 nn f) F (m := m) (h := 0) (a := (-1, 0)) R S (Int.le_refl _) (by omega) (by omega) (Or.inl rfl)
      rw [Nat.sub_zero] at z2
      have J : vJD D (lnd1 (smC xs) s t) := ldt_Ij I (by omega) (lnd1_okj I)
      have e2 : lnd1 (smC xs) s t 2 = s 2 := ldt_k (by decide)
      obtain ⟨m', d1, d2, d3⟩ := ih (s := lnd1 (smC xs) s t) (m := m1) (t := t + 1) J z2 (stp_fj h88 z3 S) (by rw [e2]; omega) (by omega)
      rw [e2] at d2
      have g : zcmp .ge (Int32.ofNat t) (s 2) = false := zc.trans (decide_eq_false (by omega))
      exact ⟨m', ob (c79_11t R) (oF g (z1.trans d1)), d2, kf_tj z3 d3⟩
/-- lendAll -/
theorem c27j (hF : 500 ≤ F) {r0 nn : Nat} (h88 : 88 ≤ r0) (hn : nn ≤ 400) {xs : List Int} (hl : xs.length = nn) (G : ∀ w, cgd w xs []) (I : vJD D s) (R : R32 s (m.1 12)) (S : stp m r0 xs) : ∃ m', D27_R_11t F r0 nn m = some ((), m') ∧ R32 (lall (smC xs) 0 (s 2).toInt.toNat s) (m'.1 12) ∧ kfj r0 m m' := by
  have n2 := J_nt I
  have z := c27_2j (F := F) hF h88 hn hl G F (s := s) (m := m) (t := 0) I R S (by omega) (by omega)
  rw [Nat.sub_zero] at z
  unfold D27_R_11t
  exact z
/-- finishWorks -/
theorem c109_2j (hF : 500 ≤ F) : ∀ (f : Nat) {s : Nat → Int32} {m : xS} {w : Nat}, vJD D s → R32 s (m.1 12) → (w : Int) ≤ (s 3).toInt → 7 - w < f → ∃ c', D109_11t_2 F f (Int32.ofNat w) m = some ((), xr m 12 c') ∧ R32 (fwk w ((s 3).toInt.toNat - w) s) c' := by
  intro f
  induction f with
  | zero => intro s m w _ _ _ l; omega
  | succ f ih =>
    intro s m w I R hw l
    have n3 := J_nw I
    have ew := nJ (n := w) (by omega)
    unfold D109_11t_2
    by_cases q : (s 3).toInt ≤ (w : Int)
    · rw [show (s 3).toInt.toNat - w = 0 by omega]
      have g : zcmp .ge (Int32.ofNat w) (s 3) = true := zc.trans (decide_eq_true (by omega))
      exact ⟨m.1 12, ob (c80_11t R) (oT g (by rw [xr_id])), R⟩
    · rw [show (s 3).toInt.toNat - w = ((s 3).toInt.toNat - (w + 1)) + 1 by omega]
      have w3 : (w : Int) < (s 3).toInt := by omega
      have g : zcmp .ge (Int32.ofNat w) (s 3) = false := zc.trans (decide_eq_false (by omega))
      show ∃ c', _ ∧ R32 (fwk (w + 1) ((s 3).toInt.toNat - (w + 1)) (if pcd s w = true then pwk s w else s)) c'
      by_cases c : pcd s w = true
      · rw [if_pos c]
        obtain ⟨c1, z1, z2⟩ := a108_11t (F := F) R (w := w) (v1 := Int32.ofNat w) rfl (by omega)
        have e3 : pwk s w 3 = s 3 := pwk_k (by decide)
        obtain ⟨c', d1, d2⟩ := ih (s := pwk s w) (m := xr m 12 c1) (w := w + 1) (J_wk I w3) (by rw [xr_s]; exact z2) (by rw [e3]; omega) (by omega)
        rw [e3] at d2
        refine ⟨c', ob (c80_11t R) (oF g (ob (c107_11tj hF R I rfl w3) (oF (pB1.trans (by rw [c]; rfl)) (ob z1 ?_)))), d2⟩
        unfold D109_11t_24
        rw [(o1 (n := w) (by omega)).2.2, d1, xr_xr]
      · rw [if_neg c]
        have c0 : pcd s w = false := by simpa using c
        obtain ⟨c', d1, d2⟩ := ih (s := s) (m := m) (w := w + 1) I R (by omega) (by omega)
        refine ⟨c', ob (c80_11t R) (oF g (ob (c107_11tj hF R I rfl w3) (oT (pB1.trans (by rw [c0]; rfl)) ?_))), d2⟩
        unfold D109_11t_24
        rw [(o1 (n := w) (by omega)).2.2]
        exact d1
theorem c109j (hF : 500 ≤ F) (I : vJD D s) (R : R32 s (m.1 12)) : ∃ c', D109_11t F m = some ((), xr m 12 c') ∧ R32 (fwk 0 (s 3).toInt.toNat s) c' := by
  have n3 := J_nw I
  have z := c109_2j (F := F) hF F (s := s) (m := m) (w := 0) I R (by omega) (by omega)
  rw [Nat.sub_zero] at z
  unfold D109_11t
  exact z
end PJS
end
section
/-! done: on a trial of the class's; the reference lays its row back. -/
section PDON
variable {s : Nat → Int32} {m : xS} {F : Nat} {D : Int}
/-- a day on the class's trial, where the day stays at 999 -/
def pdc (s : Nat → Int32) : Nat → Int32 := cup (pous s 0 (s 2).toInt.toNat) 4 (if s 4 + 1 < 999 then s 4 + 1 else 999)
theorem a112j (R : R32 s (m.1 12)) (I : vJD D s) (hF : 500 ≤ F) : ∃ c', D112_11t F m = some ((), xr m 12 c') ∧ R32 (pdc s) c' := by
  have n := J_nt I
  exact a112cj (F := F) F (t := 0) R rfl rfl (by omega) n.2 (by omega)
theorem pdc_o (I : vJD D s) {j : Nat} (h : ∀ i : Nat, i < 6 → j ≠ 10 + 6 * i + 5) (h4 : j ≠ 4) : pdc s j = s j := (cup_o h4).trans (pous_o _ (fun i a b => h i (by have := J_nt I; omega)))
theorem pdc_5 (I : vJD D s) {t : Nat} (ht : (t : Int) < (s 2).toInt) : pdc s (10 + 6 * t + 5) = if phm s t = true then s (10 + 6 * t + 5) else s (10 + 6 * t + 5) + 1 := (cup_o (by omega)).trans (pous_s _ (by omega) (by omega))
theorem pdc_4 (I : vJD D s) : 0 ≤ (pdc s 4).toInt ∧ (pdc s 4).toInt ≤ 2000 := by
  have d := J_day I
  have e : pdc s 4 = if s 4 + 1 < 999 then s 4 + 1 else 999 := cup_s _ _ _
  have k : (s 4 + 1).toInt = (s 4).toInt + 1 := xa1 (by show _ ≤ _ + (1 : Int); omega) (by show _ + (1 : Int) ≤ _; omega)
  have l : (999 : Int32).toInt = 999 := rfl
  rw [e]
  by_cases c : s 4 + 1 < 999
  · rw [if_pos c, k]
    have c := Int32.lt_iff_toInt_lt.mp c
    omega
  · rw [if_neg c, l]
    omega
theorem J_dy (I : vJD D s) (hD : D ≤ 3000) : vJD (D + 1) (pdc s) := by
  have lt := J_nt I
  have l := J_nw I
  have dy := pdc_4 I
  have e0 : pdc s 0 = s 0 := pdc_o I (fun i _ => by omega) (by decide)
  have e1 : pdc s 1 = s 1 := pdc_o I (fun i _ => by omega) (by decide)
  have e2 : pdc s 2 = s 2 := pdc_o I (fun i _ => by omega) (by decide)
  have e3 : pdc s 3 = s 3 := pdc_o I (fun i _ => by omega) (by decide)
  refine ⟨?_, fun t ht => ?_, fun u hu => ?_, fun b hb => ?_, fun b f hb hf => ?_⟩
  · unfold vIa
    rw [e0, e1, e2, e3]
    exact ⟨I.1.1, I.1.2.1, I.1.2.2.1, I.1.2.2.2.1, dy⟩
  · rw [e2] at ht
    obtain ⟨i0, i3, i4, i5⟩ := I.2.1 t ht
    rw [e0, pdc_5 I ht, pdc_o I (fun i _ => by omega) (by omega), pdc_o I (fun i _ => by omega) (by omega), pdc_o I (fun i _ => by omega) (by omega)]
    refine ⟨i0, i3, fun z => ?_, ?_⟩
    · rw [if_pos (show phm s t = true by unfold phm; rw [z]; exact beq_self_eq_true _)]
      exact i4 z
    · split
      · exact ⟨i5.1, by omega⟩
      · have k : (s (10 + 6 * t + 5) + 1).toInt = (s (10 + 6 * t + 5)).toInt + 1 := xa1 (by show _ ≤ _ + (1 : Int); omega) (by show _ + (1 : Int) ≤ _; omega)
        omega
  · rw [e3] at hu
    rw [e0, pdc_o I (fun i _ => by omega) (by omega), pdc_o I (fun i _ => by omega) (by omega)]
    exact I.2.2.1 u hu
  · rw [pdc_o I (fun i _ => by omega) (by omega), pdc_o I (fun i _ => by omega) (by omega)]
    exact I.2.2.2.1 b hb
  · rw [pdc_o I (fun i _ => by omega) (by omega)]
    exact I.2.2.2.2 b f hb hf
theorem c110j_4 (R : R32 s (m.1 12)) (I : vJD D s) : ∀ (f : Nat) {w : Nat} {v : Int32}, (w : Int) ≤ (s 3).toInt → 6 - w < f → ∃ u, D110_11t_4 F f v (Int32.ofNat w) m = some (u, m) := by
  have nw := J_nw I
  intro f
  induction f with
  | zero => intro w v _ l; omega
  | succ f ih =>
    intro w v hw l
    have ew := nJ (n := w) (by omega)
    unfold D110_11t_4
    by_cases q : (s 3).toInt ≤ (w : Int)
    · exact ⟨v, ob (c80_11t R) (oT (zc.trans (decide_eq_true (by dsimp only; omega))) rfl)⟩
    · have g : zcmp .ge (Int32.ofNat w) (s 3) = false := zc.trans (decide_eq_false (by omega))
      have next : ∀ {v' : Int32}, ∃ u, D110_11t_26 F (D110_11t_4 F f) v' (Int32.ofNat w) m = some (u, m) := fun {v'} => by
        unfold D110_11t_26
        rw [show Int32.ofNat w + Int32.ofInt 1 = Int32.ofNat (w + 1) from xadd (a := w) (b := 1) (by omega)]
        exact ih (by omega) (by omega)
      by_cases c : pdn s w = true
      · obtain ⟨u, hu⟩ := next (v' := v ||| (1 <<< (Int32.ofNat w &&& 31)))
        exact ⟨u, ob (c80_11t R) (oF g (ob (c106_11tj R I rfl (by omega)) (oF (zeF c) hu)))⟩
      · obtain ⟨u, hu⟩ := next (v' := v)
        exact ⟨u, ob (c80_11t R) (oF g (ob (c106_11tj R I rfl (by omega)) (oT (zeT (by simpa using c)) hu)))⟩
theorem c111j (R : R32 s (m.1 12)) (I : vJD D s) (hF : 500 ≤ F) : ∃ u, D111_11t F m = some (u, m) := by
  have n3 := J_nw I
  obtain ⟨b, hb⟩ := c110j_4 (F := F) R I F (w := 0) (v := 0) (by omega) (by omega)
  have hb : D110_11t F m = some (b, m) := hb
  unfold D111_11t
  by_cases c : zcmp .ne b ((1 <<< (s 3 &&& 31)) - 1) = true
  · exact ⟨0, ob hb (ob (c80_11t R) (if_pos c))⟩
  · exact ⟨1, ob hb (ob (c80_11t R) (if_neg c))⟩
theorem c111_9 (R : R32 s (m.1 10)) (I : vI s) (hF : 500 ≤ F) : ∃ u, D111_9 F m = some (u, m) := by
  have n3 := I_nw I
  have hb := c110_4 (F := F) R I F (w := 0) (v := 0) (by omega) (by omega)
  have hb : D110_9 F m = some (_, m) := hb
  unfold D111_9
  by_cases c : zcmp .ne (pbt s 0 ((s 3).toInt.toNat - 0) 0) ((1 <<< (s 3 &&& 31)) - 1) = true
  · exact ⟨0, ob hb (ob (c80_9 R) (if_pos c))⟩
  · exact ⟨1, ob hb (ob (c80_9 R) (if_neg c))⟩
/-- the class's trial: at most 60 days -/
theorem c149_51 (hF : 500 ≤ F) {r0 nn : Nat} (h88 : 88 ≤ r0) (hn : nn ≤ 400) {xs : List Int} (hl : xs.length = nn) (G : ∀ w, cgd w xs []) {ru : Int32} : ∀ (f : Nat) {s : Nat → Int32} {D : Int} {m : xS} {i : Nat}, vJD D s → D + ((60 - i : Nat) : Int) ≤ 2500 → R32 s (m.1 12) → stp m r0 xs → i ≤ 60 → 60 - i < f → ∃ v m', D149_0_A_51 F ru true r0 nn f ru (Int32.ofNat i) m = some (v, m') ∧ kfj r0 m m' := by
  have l60 : (60 : Int32).toInt = 60 := rfl
  intro f
  induction f with
  | zero => intro s D m i _ _ _ _ _ l; omega
  | succ f ih =>
    intro s D m i I hD R S hi l
    have ei := nJ (n := i) (by omega)
    unfold D149_0_A_51
    by_cases q : 60 ≤ i
    · exact ⟨-2, m, oT (zc.trans (decide_eq_true (by omega))) rfl, kf_rj r0 m⟩
    · have n2 := J_nt I
      have n3 := J_nw I
      obtain ⟨m1, z1, z2, z3⟩ := c27j (F := F) hF h88 hn hl G I R S
      have J := lall_Ij (sm := smC xs) (s 2).toInt.toNat (t := 0) I (by omega)
      obtain ⟨c2, y1, y2⟩ := c109j (F := F) (m := m1) hF J z2
      have e3 : lall (smC xs) 0 (s 2).toInt.toNat s 3 = s 3 := lall_k _ (by decide)
      rw [e3] at y2
      have K := fwk_Ij (s 3).toInt.toNat (w := 0) J (by rw [e3]; omega)
      obtain ⟨u, hu⟩ := c111j (F := F) (m := xr m1 12 c2) (by rw [xr_s]; exact y2) K hF
      have k2 : kfj r0 m (xr m1 12 c2) := kf_tj z3 kf_xj
      have g1 : zcmp .ge (Int32.ofNat i) 60 = false := zc.trans (decide_eq_false (by omega))
      by_cases c : zcmp .eq u 0 = true
      · obtain ⟨c3, x1, x2⟩ := a112j (F := F) (m := xr m1 12 c2) (by rw [xr_s]; exact y2) K hF
        have k3 : kfj r0 m (xr (xr m1 12 c2) 12 c3) := kf_tj k2 kf_xj
        obtain ⟨v, m', w1, w2⟩ := ih (m := xr (xr m1 12 c2) 12 c3) (i := i + 1) (J_dy K (by omega)) (by omega) (by rw [xr_s]; exact x2) (stp_fj h88 k3 S) (by omega) (by omega)
        refine ⟨v, m', oF g1 (oT (by rw [beq_self_eq_true]; rfl) (ob z1 (ob y1 (ob hu (oT c (ob x1 ?_)))))), kf_tj k3 w2⟩
        rw [(o1 (n := i) (by omega)).2.2]
        exact w1
      · exact ⟨_, _, oF g1 (oT (by rw [beq_self_eq_true]; rfl) (ob z1 (ob y1 (ob hu ((if_neg c).trans (ob (c81_11t (by rw [xr_s]; exact y2)) rfl)))))), k2⟩
theorem c149 (hF : 500 ≤ F) {r0 nn : Nat} (h88 : 88 ≤ r0) (hn : nn ≤ 400) {xs : List Int} (hl : xs.length = nn) (G : ∀ w, cgd w xs []) (R : R32 s (m.1 10)) (I : vI9 s) (S : stp m r0 xs) {y1 : Int32} : ∃ v m', D149_0_A F y1 true r0 nn y1 m = some (v, m') ∧ kfj r0 m m' := by
  unfold D149_0_A
  by_cases a : 0 < (s 0).toInt
  · generalize hq : (decide (0 ≤ y1.toInt) && decide (y1.toInt < (m.1 0 8).toInt)) = b
    have h140 := c140 (F := F) (m := m) (y1 := y1) (r0 := r0) (nn := nn) (fun _ => rfl)
    rw [hq] at h140
    cases b with
    | false => exact ⟨_, _, ob (c76_9 R) (oF (zeF (decide_eq_true a)) (ob h140 (oF (znF rfl) rfl))), kf_rj r0 m⟩
    | true =>
      obtain ⟨u, hu⟩ := c111_9 (F := F) (m := m) R I.1 hF
      by_cases c : zcmp .eq u 0 = true
      · have k : kfj r0 m (xcp m 12 10 114) := ⟨fun i h => xcp_o h, fun _ _ _ => rfl⟩
        have d9 := I.2
        have d0 := I_day I.1
        obtain ⟨v, m', w1, w2⟩ := c149_51 (F := F) hF h88 hn hl G (ru := y1) F (s := s) (m := xcp m 12 10 114) (i := 0) (vJ_of I.1) (by omega) (R_c R (fun _ _ => rfl) (fun j hj => xcp_s hj)) (stp_fj h88 k S) (by omega) (by omega)
        exact ⟨v, m', ob (c76_9 R) (oF (zeF (decide_eq_true a)) (ob h140 (oT (znT rfl) (ob hu (oT c (ob (a := ()) (m := xcp m 12 10 114) rfl w1)))))), kf_tj k w2⟩
      · exact ⟨_, _, ob (c76_9 R) (oF (zeF (decide_eq_true a)) (ob h140 (oT (znT rfl) (ob hu ((if_neg c).trans (ob (c81_9 R) rfl)))))), kf_rj r0 m⟩
  · exact ⟨_, _, ob (c76_9 R) (oT (zeT (decide_eq_false a)) rfl), kf_rj r0 m⟩
theorem c149n {y1 : Int32} {rk : Bool} {r0 nn : Nat} (R : R32 s (m.1 10)) (n : ¬ (0 ≤ y1.toInt ∧ y1.toInt < (m.1 0 8).toInt)) : D149_0_A F y1 rk r0 nn y1 m = some (-1, m) := by
  unfold D149_0_A
  by_cases a : 0 < (s 0).toInt
  · refine ob (c76_9 R) (oF (zeF (decide_eq_true a)) (ob (c140 (fun z => absurd z n)) (oF (znF ?_) rfl)))
    by_cases z : 0 ≤ y1.toInt
    · rw [decide_eq_false (p := y1.toInt < (m.1 0 8).toInt) (fun q => n ⟨z, q⟩), Bool.and_false]
    · rw [decide_eq_false z, Bool.false_and]
  · exact ob (c76_9 R) (oT (zeT (decide_eq_false a)) rfl)
/-- the reference: lanes of cells that a day leaves alone -/
theorem ldt_h {t : Nat} {b : Int32} {j : Nat} (I : vI s) (ht : (t : Int) < (s 2).toInt) (hb : okb s t b) (hj : 124 ≤ j) : ldt s t b j = s j := by
  have n6 := I_n6 I
  have n2 := I_nt I
  unfold ldt
  split
  · rfl
  · rcases hb with e | ⟨k, e, k1, k2⟩
    · contradiction
    · have ek := nJ (n := k) (by omega)
      have h := (I.2.1 t ht).2.1
      rw [e, ek, Int.toNat_natCast, pld_o (by omega) (by omega), pth_o (by omega)]
theorem lall_h {sm : (Nat → Int32) → Nat → Nat → Int64} : ∀ (n : Nat) {s : Nat → Int32} {t j : Nat}, vI s → ((t + n : Nat) : Int) ≤ (s 2).toInt → 124 ≤ j → lall sm t n s j = s j
  | 0, _, _, _, _, _, _ => rfl
  | n + 1, s, t, j, I, ht, hj => by
    show lall sm (t + 1) n (lnd1 sm s t) j = s j
    have ok := lnd1_ok (sm := sm) (t := t) I
    have e2 : lnd1 sm s t 2 = s 2 := ldt_k (by decide)
    rw [lall_h n (s := lnd1 sm s t) (ldt_I I (by omega) ok) (by rw [e2]; omega) hj]
    exact ldt_h I (by omega) ok hj
theorem pwk_h {w j : Nat} (hw : w < 6) (hj : 124 ≤ j) : pwk s w j = s j := (cup_o (by omega)).trans (cup_o (by omega))
theorem fwk_h : ∀ (n : Nat) {s : Nat → Int32} {w j : Nat}, w + n ≤ 6 → 124 ≤ j → fwk w n s j = s j
  | 0, _, _, _, _, _ => rfl
  | n + 1, s, w, j, hw, hj => by
    show fwk (w + 1) n (if pcd s w = true then pwk s w else s) j = s j
    rw [fwk_h n (by omega) hj]
    split
    · exact pwk_h (by omega) hj
    · rfl
theorem day1_h {sm : (Nat → Int32) → Nat → Nat → Int64} (I : vI s) {j : Nat} (hj : 124 ≤ j) : day1 sm s j = s j := by
  have n2 := I_nt I
  have n3 := I_nw I
  have J := lall_I (sm := sm) (s 2).toInt.toNat (t := 0) I (by omega)
  have K := fwk_I (s 3).toInt.toNat (w := 0) J (by rw [lall_k _ (by decide)]; omega)
  unfold day1
  rw [pdy_o K (fun i _ => by omega) (by omega), fwk_h _ (by omega) hj, lall_h _ I (by omega) hj]
theorem r268_2 (I : vI (m.1 80)) : ∀ (f : Nat) {w : Nat}, (w : Int) ≤ (m.1 80 3).toInt → 7 - w < f → ∃ v, D268_2 F f (Int32.ofNat w) m = some (v, m) := by
  have n3 := I_nw I
  intro f
  induction f with
  | zero => intro w _ l; omega
  | succ f ih =>
    intro w hw l
    have ew := nJ (n := w) (by omega)
    unfold D268_2
    by_cases q : (m.1 80 3).toInt ≤ (w : Int)
    · exact ⟨1, oT (zc.trans (decide_eq_true (by omega))) rfl⟩
    · have g : zcmp .ge (Int32.ofNat w) (m.1 80 3) = false := zc.trans (decide_eq_false (by omega))
      by_cases c : pdn (m.1 80) w = true
      · obtain ⟨v, hv⟩ := ih (w := w + 1) (by omega) (by omega)
        refine ⟨v, oF g (ob (r215 rfl (by omega)) (oT (znT c) ?_))⟩
        rw [(o1 (n := w) (by omega)).2.2]
        exact hv
      · exact ⟨0, oF g (ob (r215 rfl (by omega)) (oF (znF (by simpa using c)) rfl))⟩
theorem r268 (I : vI (m.1 80)) (hF : 500 ≤ F) : ∃ v, D268 F m = some (v, m) := by
  have n3 := I_nw I
  exact r268_2 (F := F) I F (w := 0) (by omega) (by omega)
/-- what a trial over days leaves behind -/
def kdy (s0 : Nat → Int32) (m m' : xS) : Prop := kgd m m' ∧ ∃ s', m'.1 80 = s' ∧ ∀ j, 124 ≤ j → s' j = s0 j
theorem kdy_b (hF : 500 ≤ F) {c : Nat → Int32} {m3 : xS} (es : m.1 80 = s) (hc : ∀ j, j < 124 → c j = m.1 80 j) (k : kdy s (xr m 84 c) m3) : D260 F m3 = some ((), xr m3 80 s) ∧ kow m (xr m3 80 s) := by
  obtain ⟨k, s2, e2, h2⟩ := k
  have r84 : ∀ j, m3.1 84 j = c j := fun j => (k.1 84 j (by decide) (fun y => absurd y.1 (by decide))).trans (by rw [xr_s])
  refine ⟨r260 hF (fun j hj => by rw [r84, hc j hj, es]) (fun j hj => by rw [e2, h2 j hj]), fun i j e1 e2 e3 e4 => ?_, fun i j _ q2 q3 => by show m3.2 i j = _; rw [k.2 i j q2 q3]; rfl⟩
  by_cases z : i = 80
  · subst z
    rw [xr_s, es]
  · rw [xr_o z, k.1 i j z (fun y => e4 ⟨y.1, Or.inl y.2⟩), xr_o e3]
theorem P269_40 (hF : 500 ≤ F) {r : Nat} (hr : r < 6) {cs : cLs} {s0 : Nat → Int32} {m0 : xS} (K : ∀ {v1 v2 v3 : Int32} {m' : xS}, kdy s0 m0 m' → xP (D269_78 F v1 v2 v3 m') (fun _ m2 => kow m m2)) : ∀ (f : Nat) {s : Nat → Int32} {m1 : xS} {i : Nat} {v : Int32}, m1.1 80 = s → vI s → (s 4).toInt + ((60 - i : Nat) : Int) < 2000 → cAll m1 r cs → kdy s0 m0 m1 → i ≤ 60 → 60 - i < f → xP (D269_40 F f (Int32.ofNat r) v (Int32.ofNat i) m1) (fun _ m2 => kow m m2) := by
  have l60 : (60 : Int32).toInt = 60 := rfl
  intro f
  induction f with
  | zero => intro s m1 i v _ _ _ _ _ _ l; omega
  | succ f ih =>
    intro s m1 i v es I hd C k hi l
    have ei := nJ (n := i) (by omega)
    unfold D269_40
    refine xP_i (fun _ => K k) (fun cc => xP_i (fun _ => K k) (fun _ => ?_))
    have cc := of_decide_eq_false (zc.symm.trans cc)
    have i60 : i < 60 := by omega
    obtain ⟨m2, z1, z2, z3⟩ := r247 (F := F) hF hr es I (by omega) C
    have dd := day1_d (sm := smR cs) I (by omega)
    have J := day1_I (sm := smR cs) I (by omega)
    obtain ⟨u, hu⟩ := r268 (F := F) (m := m2) (by rw [z2]; exact J) hF
    have k2 : kdy s0 m0 m2 := by
      obtain ⟨a, s', e, h⟩ := k
      exact ⟨kgd_t a z3, _, z2, fun j hj => (day1_h I hj).trans ((congrFun (es.symm.trans e) j).trans (h j hj))⟩
    have nx : ∀ {v' : Int32}, xP (D269_72 F (D269_40 F f) (Int32.ofNat r) v' (Int32.ofNat i) m2) (fun _ m2 => kow m m2) := fun {v'} => by
      unfold D269_72
      rw [(o1 (n := i) (by omega)).2.2]
      exact ih z2 J (by rw [dd]; omega) (cAll_k z3 C) k2 (by omega) (by omega)
    refine xP_b (R := fun _ m' => m' = m2) ⟨_, z1, rfl⟩ (fun v5 m5 e5 => ?_)
    subst e5
    refine xP_b (R := fun _ m' => m' = m5) ⟨_, hu, rfl⟩ (fun v6 m6 e6 => ?_)
    subst e6
    exact xP_i (fun _ => nx) (fun _ => nx)
theorem P269 (hF : 500 ≤ F) (I : vI9 (m.1 80)) {y1 : Int32} (C : ∀ j : Nat, (j : Int) < (m.1 70 2).toInt → ∃ cs, cAll m j cs) (n6 : (m.1 70 2).toInt ≤ 6) : xP (D269 F y1 m) (fun _ m' => kow m m') := by
  unfold D269
  refine xP_b (R := fun _ m' => m' = m) ⟨_, r204, rfl⟩ (fun v5 m5 e5 => ?_)
  subst e5
  refine xP_i (fun _ => xP_r (kow_r _)) (fun _ => ?_)
  by_cases b : 0 ≤ y1.toInt ∧ y1.toInt < (m5.1 70 2).toInt
  · obtain ⟨j, hj⟩ : ∃ j : Nat, y1.toInt = (j : Int) := ⟨y1.toInt.toNat, by omega⟩
    have ey : y1 = Int32.ofNat j := ofn_i hj (by omega)
    obtain ⟨cs, hcs⟩ := C j (by omega)
    subst ey
    refine xP_b (R := fun _ m' => m' = m5) ⟨_, r199, rfl⟩ (fun v6 m6 e6 => ?_)
    subst e6
    obtain ⟨u, hu⟩ := r268 (F := F) (m := m6) I.1 hF
    obtain ⟨c, h259, hc⟩ := r259 (F := F) (m := m6) hF
    refine xP_i (fun _ => ?_) (fun _ => xP_r (kow_r _))
    refine xP_b (R := fun _ m' => m' = m6) ⟨_, hu, rfl⟩ (fun v7 m7 e7 => ?_)
    subst e7
    refine xP_i (fun _ => ?_) (fun _ => xP_r (kow_r _))
    refine xP_b (R := fun _ m' => m' = xr m7 84 c) ⟨_, h259, rfl⟩ (fun v8 m8 e8 => ?_)
    subst e8
    have d9 := I.2
    have d0 := I_day I.1
    exact P269_40 (F := F) hF (r := j) (by omega) (cs := cs) (s0 := m7.1 80) (m0 := xr m7 84 c) (fun {v1 v2 v3 m'} k => by
      obtain ⟨k1, k2⟩ := kdy_b (F := F) hF rfl hc k
      unfold D269_78
      exact ⟨_, ob k1 rfl, k2⟩) F (s := m7.1 80) (i := 0) (xr_o (by decide)) I.1 (by omega) (cAll_f (by rw [xr_o (by decide)]) (by rw [xr_o (by decide)]) (by rw [xr_o (by decide)]) hcs) ⟨kgd_g (kg_r _), _, xr_o (by decide), fun _ _ => rfl⟩ (by omega) (by omega)
  · refine xP_b (R := fun v m' => m' = m5 ∧ v = 0) ⟨_, r199, rfl, ?_⟩ (fun v6 m6 e6 => ?_)
    · show pB _ = 0
      by_cases z : 0 ≤ y1.toInt
      · rw [decide_eq_false (p := y1.toInt < _) (fun q => b ⟨z, q⟩), Bool.and_false]; rfl
      · rw [decide_eq_false z, Bool.false_and]; rfl
    · obtain ⟨e6, e7⟩ := e6
      subst e6 e7
      exact xP_i (fun z => by cases z) (fun _ => xP_r (kow_r _))
end PDON
theorem kfj_ruI {z : zHp} {m : xS} {j : Nat} (H : yH0 z) (k : kfj (88 + 3 * j) (xof z) m) (h : ruI z) : ruI (xW z m) := fun i hi => by
  rw [xof_f H (show xti 0 10 8 = true by decide), k.1 0 (by decide)] at hi
  obtain ⟨o, C, r⟩ := h i hi
  refine ⟨o, ruC_d (xW_2 (fun b => congrFun (k.1 13 (by decide)) b) (fun b => k.2 13 b (by omega))) (xW_2 (fun b => congrFun (k.1 _ (by omega)) b) (fun b => k.2 _ b (by omega))) rfl C, ruR_o (fun l _ _ => ?_) (fun l _ _ => ?_) ?_ r⟩
  · rw [xof_t H (k := 0) (n := 2400) (by decide), k.1 72 (by decide)]
  · rw [xof_t H (k := 0) (n := 288) (by decide), k.1 74 (by decide)]
  · rw [xof_t H (k := 0) (n := 6) (by decide), k.1 75 (by decide)]
theorem kfj_rMx {m m' : xS} {r0 : Nat} (k : kfj r0 m m') (M : rMx m) : rMx m' := rMx_c (k.1 80 (by decide)) (k.1 10 (by decide)) ⟨congrFun (k.1 14 (by decide)) 1, congrFun (k.1 14 (by decide)) 2⟩ (congrFun (k.1 70 (by decide)) 25) (k.1 81 (by decide)) (fun a h1 h2 => k.1 a (by omega)) (fun a h1 h2 => k.1 a (by omega)) (k.1 41 (by decide)) (k.1 42 (by decide)) (k.1 85 (by decide)) (k.1 86 (by decide)) (k.1 87 (by decide)) (congrFun (k.1 70 (by decide)) 23) (congrFun (k.1 43 (by decide)) 0) M
theorem nDone {y1 : Int32} : lP MR 149 269 [.int y1] false := fun hp hI => by
  obtain ⟨x1, x2, z1, z2, a1, a2, a3, a4, a5, a6, a7, -⟩ := e0_24 (y1 := y1) hp hI.1.1
  have a3 : zCan 20 149 [.ref 0, .int y1] hp (some (.int x1), z1) := a3
  have a5 : zCan 20 269 [.ref 70, .int y1] z1 (some (.int x2), z2) := a5
  obtain ⟨x3, w1, b1, b2, b3, -⟩ := eSp (yt1013 yXx.1) (c := 0) (na := 1) (bl := []) (by decide +kernel) hI.1.1.1 (ys := [y1]) rfl (fun s hs => by cases hs)
  have u := zCan_u a3 b1
  cases u
  have R := hI.1.2.1.1
  have I := hI.1.2.1.2
  have H := hI.1.1.1.1
  have hT := xT_of H
  have b8 : (0 : Int) ≤ ((xof hp).1 0 8).toInt ∧ ((xof hp).1 0 8).toInt ≤ 6 := hT 0 8 (0, 6) rfl
  have e2 : ((xof hp).1 70 2).toInt = ((xof hp).1 0 8).toInt := hI.1.1.2.2.1
  have e08 : (xof z1).1 0 8 = (xof hp).1 0 8 := eF b3 (ydj_ok (show ydj ys1013.2.2.2.2 [(0, 0, 8)] = true by decide) 0 8 rfl)
  have e702 : (xof z1).1 70 2 = (xof hp).1 70 2 := eF b3 (ydj_ok (show ydj ys1013.2.2.2.2 [(70, 70, 2)] = true by decide) 70 2 rfl)
  have W : rMx (xof z1) ∧ ruI z1 := by
    by_cases v : 0 ≤ y1.toInt ∧ y1.toInt < ((xof hp).1 0 8).toInt
    · obtain ⟨j, hj⟩ : ∃ j : Nat, y1.toInt = (j : Int) := ⟨y1.toInt.toNat, by omega⟩
      obtain ⟨o, C, CL, Q, q1, q2, q3, q4, q5⟩ := hI.2 j (by omega)
      have A := rlA_of H C (by omega) hj
      have G : ∀ w, cgd w o.reverse [] := fun w => by
        have z := cgd_out (w := w) (rest := []) q3 (by rw [← q4]; exact q5) trivial
        rw [List.append_nil, ← q4] at z
        exact z
      obtain ⟨x, m', d1, d2⟩ := c149 (F := 500) (m := xof hp) (Nat.le_refl _) (r0 := 88 + 3 * j) (by omega) C.2.2.2.1 List.length_reverse G R I (stp_of C) (y1 := y1)
      have u := Z149_0_A H (F := 500) (ru := y1) (rk := true) (r0 := 88 + 3 * j) (nn := o.length) (fun _ => A) d1 (d := 20) (by decide)
      rw [xW_of] at u
      have u := zCan_u a3 u
      cases u
      exact ⟨rMx_w (xrw_of H _) (kfj_rMx d2 hI.1.2), kfj_ruI H d2 hI.2⟩
    · have u := Z149_0_A H (F := 500) (ru := y1) (rk := false) (r0 := 0) (nn := 0) (fun z => by cases z) (c149n R v) (d := 20) (by decide)
      rw [xW_of] at u
      have u := zCan_u a3 u
      cases u
      exact ⟨hI.1.2, hI.2⟩
  obtain ⟨M1, U1⟩ := W
  obtain ⟨y, hy, hk⟩ := P269 (F := 500) (m := xof z1) (Nat.le_refl _) M1.1.2 (y1 := y1) (fun j hj => by
    rw [e702, e2, ← e08] at hj
    obtain ⟨o, C, CL, Q, q1, -⟩ := U1 j hj
    exact ⟨CL, q1⟩) (by rw [e702]; omega)
  have u := Z269 b2.1 hy (d := 20) (by decide)
  rw [xW_of] at u
  have u := zCan_u a5 u
  cases u
  exact ⟨_, _, _, _, a1, a2, a3, a4, a5, a6, ⟨⟨a7, rMx_w (xrw_of b2.1 _) (kow_rMx hk M1)⟩, kow_ruI b2.1 hk U1⟩, fun h => by cases h⟩
end
section
/-! harvests: lots, trials, and the reference's run of them. -/
def lcg (x : Int) : Int := (x * 1103515245 + 12345) % 2147483648
theorem lcg_b (x : Int) : 0 ≤ lcg x ∧ lcg x < 2147483648 := by unfold lcg; omega
/-- a lot among k -/
def drw (x k : Int) : Int := lcg x / 65536 % k
theorem drw_b {x k : Int} (h : 0 < k) : 0 ≤ drw x k ∧ drw x k < k := ⟨Int.emod_nonneg _ (by omega), Int.emod_lt_of_pos _ h⟩
theorem b64 {a : Int} (h : -9223372036854775808 ≤ a ∧ a ≤ 9223372036854775807) : a.bmod (2 ^ 64) = a := Int.bmod_eq_of_le_mul_two (by omega) (by omega)
theorem b32 {a : Int} (h : -2147483648 ≤ a ∧ a ≤ 2147483647) : a.bmod (2 ^ 32) = a := Int.bmod_eq_of_le_mul_two (by omega) (by omega)
theorem lcg64 {X : Int64} (h : 0 ≤ X.toInt ∧ X.toInt < 2147483648) : (X * 1103515245 + 12345 - (X * 1103515245 + 12345) / 2147483648 * 2147483648).toInt = lcg X.toInt := by
  have l1 : (1103515245 : Int64).toInt = 1103515245 := rfl
  have l2 : (12345 : Int64).toInt = 12345 := rfl
  have l3 : (2147483648 : Int64).toInt = 2147483648 := rfl
  have e1 : (X * 1103515245 + 12345).toInt = X.toInt * 1103515245 + 12345 := by
    rw [Int64.toInt_add, Int64.toInt_mul, l1, l2, b64 (a := X.toInt * 1103515245) (by omega), b64 (by omega)]
  generalize X * 1103515245 + 12345 = Y at *
  have e2 : (Y / 2147483648).toInt = Y.toInt / 2147483648 := by
    rw [Int64.toInt_div, l3, Int.tdiv_eq_ediv_of_nonneg (by omega), b64 (by omega)]
  have e3 : (Y / 2147483648 * 2147483648).toInt = Y.toInt / 2147483648 * 2147483648 := by
    rw [Int64.toInt_mul, e2, l3, b64 (by omega)]
  rw [Int64.toInt_sub, e3, b64 (by omega), e1]
  unfold lcg
  omega
theorem ems {q k : Int} : q - q / k * k = q % k := by rw [Int.emod_def, Int.mul_comm]
theorem drw64 {Y : Int64} {k : Int32} (h : 0 ≤ Y.toInt ∧ Y.toInt < 2147483648) (hk : 1 ≤ k.toInt ∧ k.toInt ≤ 100) : (Y / 65536 - Y / 65536 / k.toInt64 * k.toInt64).toInt32.toInt = Y.toInt / 65536 % k.toInt := by
  have l1 : (65536 : Int64).toInt = 65536 := rfl
  have e1 : (Y / 65536).toInt = Y.toInt / 65536 := by
    rw [Int64.toInt_div, l1, Int.tdiv_eq_ediv_of_nonneg (by omega), b64 (by omega)]
  generalize Y / 65536 = Z at *
  have ek : k.toInt64.toInt = k.toInt := Int32.toInt_toInt64 _
  have z0 : 0 ≤ Z.toInt ∧ Z.toInt < 32768 := by omega
  have d0 : 0 ≤ Z.toInt / k.toInt := Int.ediv_nonneg z0.1 (by omega)
  have d1 : Z.toInt / k.toInt ≤ Z.toInt := Int.ediv_le_self _ z0.1
  have d2 : Z.toInt / k.toInt * k.toInt ≤ Z.toInt := Int.ediv_mul_le _ (by omega)
  have d3 : 0 ≤ Z.toInt / k.toInt * k.toInt := Int.mul_nonneg d0 (by omega)
  have e2 : (Z / k.toInt64).toInt = Z.toInt / k.toInt := by
    rw [Int64.toInt_div, ek, Int.tdiv_eq_ediv_of_nonneg z0.1, b64 (by omega)]
  have e3 : (Z / k.toInt64 * k.toInt64).toInt = Z.toInt / k.toInt * k.toInt := by
    rw [Int64.toInt_mul, e2, ek, b64 (by omega)]
  have e4 : (Z - Z / k.toInt64 * k.toInt64).toInt = Z.toInt / 65536 * 0 + Z.toInt % k.toInt := by
    rw [Int64.toInt_sub, e3, b64 (by omega), ems]
    omega
  have m0 := Int.emod_nonneg Z.toInt (show k.toInt ≠ 0 by omega)
  have m1 := Int.emod_lt_of_pos Z.toInt (show 0 < k.toInt by omega)
  rw [Int64.toInt_toInt32, e4, b32 (by omega), ← e1]
  omega
/-- one lot for a tool -/
def lst (s : Nat → Int32) (t : Nat) (d : Int) : Nat → Int32 := if d = (s 0).toInt then pgv s t (s (10 + 6 * t)) else if pcl s t d.toNat = true then pld s t d.toNat else s
def lct (s : Nat → Int32) (t : Nat) (d : Int) (v : Int32) : Int32 := if d = (s 0).toInt then v else if pcl s t d.toNat = true then v + 1 else v
def lots : Nat → Nat → (Nat → Int32) → Int → Int32 → (Nat → Int32) × Int × Int32
  | _, 0, s, x, v => (s, x, v)
  | t, n + 1, s, x, v => lots (t + 1) n (lst s t (drw x ((s 0).toInt + 1))) (lcg x) (lct s t (drw x ((s 0).toInt + 1)) v)
/-- days of a trial: the village, the seed, what is paid, what is lent -/
def hdy : Nat → (Nat → Int32) → Int → Int32 → Int32 → (Nat → Int32) × Int × Int32 × Int32
  | 0, s, x, p, l => (s, x, p, l)
  | n + 1, s, x, p, l => hdy n (pdy (fwk 0 (s 3).toInt.toNat (lots 0 (s 2).toInt.toNat s x 0).1)) (lots 0 (s 2).toInt.toNat s x 0).2.1 (p + (fwk 0 (s 3).toInt.toNat (lots 0 (s 2).toInt.toNat s x 0).1 5 - (lots 0 (s 2).toInt.toNat s x 0).1 5)) (l + (lots 0 (s 2).toInt.toNat s x 0).2.2)
def htr : Nat → Nat → (Nat → Int32) → Int → Int32 → Int32 → Int32 × Int32
  | 0, _, _, _, p, l => (p, l)
  | n + 1, d, s, x, p, l => htr n d s (hdy d s x p l).2.1 (hdy d s x p l).2.2.1 (hdy d s x p l).2.2.2
section PLOT
variable {s : Nat → Int32}
theorem lst_k (I : vI s) {t j : Nat} {d : Int} (hj : j < 10) : lst s t d j = s j := by
  unfold lst
  split
  · exact pgv_o (by omega)
  · split
    · rw [pld_o (by omega) (by omega), pth_o (by omega)]
    · rfl
theorem lst_h (I : vI s) {t j : Nat} {d : Int} (ht : (t : Int) < (s 2).toInt) (hd : 0 ≤ d ∧ d < (s 0).toInt + 1) (hj : 124 ≤ j) : lst s t d j = s j := by
  have n6 := I_n6 I
  have n2 := I_nt I
  have h := (I.2.1 t ht).2.1
  unfold lst
  split
  · exact pgv_o (by omega)
  · split
    · rw [pld_o (by omega) (by omega), pth_o (by omega)]
    · rfl
theorem lst_I (I : vI s) {t : Nat} {d : Int} (ht : (t : Int) < (s 2).toInt) (hd : 0 ≤ d ∧ d < (s 0).toInt + 1) : vI (lst s t d) := by
  unfold lst
  split
  · have h := (I.2.1 t ht).1
    exact I_gv I ht h.1 h.2
  · split
    · exact I_ld I ht (by omega) (by assumption)
    · exact I
theorem lots_p : ∀ (n : Nat) {s : Nat → Int32} {t : Nat} {x : Int} {v : Int32}, vI s → ((t + n : Nat) : Int) ≤ (s 2).toInt → 0 ≤ x ∧ x < 2147483648 → (∀ j, j < 10 → (lots t n s x v).1 j = s j) ∧ (∀ j, 124 ≤ j → (lots t n s x v).1 j = s j) ∧ vI (lots t n s x v).1 ∧ 0 ≤ (lots t n s x v).2.1 ∧ (lots t n s x v).2.1 < 2147483648
  | 0, _, _, _, _, I, _, hx => ⟨fun _ _ => rfl, fun _ _ => rfl, I, hx⟩
  | n + 1, s, t, x, v, I, ht, _ => by
    have n0 := I_n0 I
    have hd := drw_b (x := x) (k := (s 0).toInt + 1) (by omega)
    have e2 : lst s t (drw x ((s 0).toInt + 1)) 2 = s 2 := lst_k I (by decide)
    obtain ⟨a, b, c⟩ := lots_p n (s := lst s t (drw x ((s 0).toInt + 1))) (t := t + 1) (x := lcg x) (v := lct s t (drw x ((s 0).toInt + 1)) v) (lst_I I (by omega) hd) (by rw [e2]; omega) (lcg_b x)
    exact ⟨fun j hj => (a j hj).trans (lst_k I hj), fun j hj => (b j hj).trans (lst_h I (by omega) hd hj), c⟩
end PLOT
section PHRR
variable {s : Nat → Int32} {m : xS} {F : Nat}
/-- all but the row and the seed of trials -/
def kh (m m' : xS) : Prop := (∀ i, i ≠ 80 → m'.1 i = m.1 i) ∧ ∀ i j, i ≠ 70 → m'.2 i j = m.2 i j
theorem kh_r (m : xS) : kh m m := ⟨fun _ _ => rfl, fun _ _ _ => rfl⟩
theorem kh_t {a b c : xS} (h1 : kh a b) (h2 : kh b c) : kh a c := ⟨fun i h => (h2.1 i h).trans (h1.1 i h), fun i j h => (h2.2 i j h).trans (h1.2 i j h)⟩
theorem kh_x {a : xS} {c : Nat → Int32} : kh a (xr a 80 c) := ⟨fun _ h => xr_o h, fun _ _ _ => rfl⟩
theorem r274 {k : Int32} (hk : 1 ≤ k.toInt ∧ k.toInt ≤ 100) (hx : 0 ≤ (m.2 70 35).toInt ∧ (m.2 70 35).toInt < 2147483648) : ∃ v Y, D274 F k m = some (v, xul m 70 35 Y) ∧ v.toInt = drw (m.2 70 35).toInt k.toInt ∧ Y.toInt = lcg (m.2 70 35).toInt := by
  have e := lcg64 hx
  have hb := lcg_b (m.2 70 35).toInt
  unfold D274
  refine ⟨_, _, if_pos ?_, (drw64 (by rw [e]; exact hb) hk).trans (by rw [e]; rfl), e⟩
  have ne : ¬ k.toInt64 = 0 := fun z => by
    have z := congrArg Int64.toInt z
    rw [Int32.toInt_toInt64] at z
    have l : (0 : Int64).toInt = 0 := rfl
    omega
  rw [beq_eq_false_iff_ne.mpr ne]
  rfl
theorem xul_s (m : xS) (i j : Nat) (v : Int64) : (xul m i j v).2 i j = v := if_pos ⟨rfl, rfl⟩
theorem r275_4 : ∀ (f : Nat) {s : Nat → Int32} {m : xS} {t : Nat} {v : Int32}, m.1 80 = s → vI s → 0 < (s 0).toInt → 0 ≤ (m.2 70 35).toInt ∧ (m.2 70 35).toInt < 2147483648 → (t : Int) ≤ (s 2).toInt → 7 - t < f → ∃ m', D275_4 F f v (Int32.ofNat t) m = some ((lots t ((s 2).toInt.toNat - t) s (m.2 70 35).toInt v).2.2, m') ∧ m'.1 80 = (lots t ((s 2).toInt.toNat - t) s (m.2 70 35).toInt v).1 ∧ (m'.2 70 35).toInt = (lots t ((s 2).toInt.toNat - t) s (m.2 70 35).toInt v).2.1 ∧ kh m m' := by
  intro f
  induction f with
  | zero => intro s m t v _ _ _ _ _ l; omega
  | succ f ih =>
    intro s m t v es I s0 hx ht l
    have n6 := I_n6 I
    have n2 := I_nt I
    have et := nJ (n := t) (by omega)
    unfold D275_4
    rw [es]
    by_cases q : (s 2).toInt ≤ (t : Int)
    · rw [show (s 2).toInt.toNat - t = 0 by omega]
      exact ⟨m, oT (zc.trans (decide_eq_true (by omega))) rfl, es, rfl, kh_r m⟩
    · rw [show (s 2).toInt.toNat - t = ((s 2).toInt.toNat - (t + 1)) + 1 by omega]
      have g : zcmp .ge (Int32.ofNat t) (s 2) = false := zc.trans (decide_eq_false (by omega))
      have ek : (s 0 + 1).toInt = (s 0).toInt + 1 := xa1 (by show _ ≤ _ + (1 : Int); omega) (by show _ + (1 : Int) ≤ _; omega)
      obtain ⟨d, Y, z1, z2, z3⟩ := r274 (F := F) (m := m) (k := s 0 + 1) (by omega) hx
      rw [ek] at z2
      have hd := drw_b (x := (m.2 70 35).toInt) (k := (s 0).toInt + 1) (by omega)
      rw [← z2] at hd
      obtain ⟨k, hk⟩ : ∃ k : Nat, d.toInt = (k : Int) := ⟨d.toInt.toNat, by omega⟩
      have ed : d = Int32.ofNat k := ofn_i hk (by omega)
      have J : vI (lst s t d.toInt) := lst_I I (by omega) hd
      have e2 : lst s t d.toInt 2 = s 2 := lst_k I (by decide)
      have e0 : lst s t d.toInt 0 = s 0 := lst_k I (by decide)
      have k1 : kh m (xul m 70 35 Y) := ⟨fun _ _ => rfl, fun i j h => if_neg (fun z => h z.1)⟩
      show ∃ m' : xS, _ = some ((lots (t + 1) _ (lst s t (drw _ _)) (lcg _) (lct s t (drw _ _) v)).2.2, m') ∧ m'.1 80 = (lots (t + 1) _ (lst s t (drw _ _)) (lcg _) (lct s t (drw _ _) v)).1 ∧ (m'.2 70 35).toInt = (lots (t + 1) _ (lst s t (drw _ _)) (lcg _) (lct s t (drw _ _) v)).2.1 ∧ _
      rw [← z2, ← z3]
      have nx : ∀ {m2 : xS}, m2.1 80 = lst s t d.toInt → m2.2 70 35 = Y → kh m m2 → ∃ m', D275_63 F (D275_4 F f) (lct s t d.toInt v) (Int32.ofNat t) d m2 = some ((lots (t + 1) ((s 2).toInt.toNat - (t + 1)) (lst s t d.toInt) Y.toInt (lct s t d.toInt v)).2.2, m') ∧ m'.1 80 = (lots (t + 1) ((s 2).toInt.toNat - (t + 1)) (lst s t d.toInt) Y.toInt (lct s t d.toInt v)).1 ∧ (m'.2 70 35).toInt = (lots (t + 1) ((s 2).toInt.toNat - (t + 1)) (lst s t d.toInt) Y.toInt (lct s t d.toInt v)).2.1 ∧ kh m m' := fun {m2} h1 h2 h3 => by
        obtain ⟨m', d1, d2, d3, d4⟩ := ih (s := lst s t d.toInt) (m := m2) (t := t + 1) (v := lct s t d.toInt v) h1 J (by rw [e0]; exact s0) (by rw [h2, z3]; exact lcg_b _) (by rw [e2]; omega) (by omega)
        rw [e2, h2] at d1 d2 d3
        refine ⟨m', ?_, d2, d3, kh_t h3 d4⟩
        unfold D275_63
        rw [(o1 (n := t) (by omega)).2.2]
        exact d1
      have es1 : (xul m 70 35 Y).1 80 = s := es
      have eX : (xul m 70 35 Y).2 70 35 = Y := xul_s m 70 35 Y
      by_cases c : d.toInt = (s 0).toInt
      · have c1 : zcmp .ne d (s 0) = false := (zcni (y := (s 0).toInt) rfl).trans (by rw [decide_eq_true c]; rfl)
        have r := r224 (F := F) (m := xul m 70 35 Y) (t := t) rfl (by omega)
        rw [es1] at r
        have el : lst s t d.toInt = pgv s t (s (10 + 6 * t)) := by unfold lst; rw [if_pos c]
        have ec : lct s t d.toInt v = v := by unfold lct; rw [if_pos c]
        obtain ⟨m', d1, d2, d3, d4⟩ := nx (m2 := xr (xul m 70 35 Y) 80 (pgv s t (s (10 + 6 * t)))) (by rw [xr_s, el]) eX (kh_t k1 kh_x)
        refine ⟨m', oF g (ob z1 (oF (by rw [es1]; exact c1) (ob r ?_))), d2, d3, d4⟩
        rw [ec] at d1 ⊢
        exact d1
      · have c1 : zcmp .ne d (s 0) = true := (zcni (y := (s 0).toInt) rfl).trans (by rw [decide_eq_false c]; rfl)
        have r := r222 (F := F) (m := xul m 70 35 Y) (by rw [es1]; exact I) (t := t) (h := k) rfl ed (by rw [es1]; omega) (by omega)
        rw [es1] at r
        by_cases p : pcl s t k = true
        · have el : lst s t d.toInt = pld s t k := by unfold lst; rw [if_neg c, hk, Int.toNat_natCast, if_pos p]
          have ec : lct s t d.toInt v = v + 1 := by unfold lct; rw [if_neg c, hk, Int.toNat_natCast, if_pos p]
          have r3 := r223 (F := F) (m := xul m 70 35 Y) (by rw [es1]; exact I) (t := t) (h := k) rfl ed (by rw [es1]; omega) (by omega)
          rw [es1] at r3
          obtain ⟨m', d1, d2, d3, d4⟩ := nx (m2 := xr (xul m 70 35 Y) 80 (pld s t k)) (by rw [xr_s, el]) eX (kh_t k1 kh_x)
          refine ⟨m', oF g (ob z1 (oT (by rw [es1]; exact c1) (ob r (oF (zeF p) (ob r3 ?_))))), d2, d3, d4⟩
          rw [ec] at d1 ⊢
          exact d1
        · have p : pcl s t k = false := by simpa using p
          have el : lst s t d.toInt = s := by unfold lst; rw [if_neg c, hk, Int.toNat_natCast, if_neg (by rw [p]; decide)]
          have ec : lct s t d.toInt v = v := by unfold lct; rw [if_neg c, hk, Int.toNat_natCast, if_neg (by rw [p]; decide)]
          obtain ⟨m', d1, d2, d3, d4⟩ := nx (m2 := xul m 70 35 Y) (by rw [el]; exact es) eX k1
          refine ⟨m', oF g (ob z1 (oT (by rw [es1]; exact c1) (ob r (oT (zeT p) ?_)))), d2, d3, d4⟩
          rw [ec] at d1 ⊢
          exact d1
/-- what the days of a trial keep -/
def hx (x : Int) : Prop := 0 ≤ x ∧ x < 2147483648
theorem r276_74 (hF : 500 ≤ F) {g65 : Int32 → Int32 → Int32 → Int32 → Int32 → Int32 → xS → Option (Int32 × xS)} {v1 v2 v3 v6 : Int32} {n : Nat} (h2 : v2 = Int32.ofNat n) (n60 : n ≤ 60) {s0 c : Nat → Int32} (hc : ∀ j, j < 124 → c j = s0 j) : ∀ (f : Nat) {s : Nat → Int32} {m : xS} {i : Nat} {p l : Int32}, m.1 80 = s → m.1 84 = c → vI s → 0 < (s 0).toInt → hx (m.2 70 35).toInt → (s 4).toInt + ((n - i : Nat) : Int) < 2000 → (∀ j, 124 ≤ j → s j = s0 j) → i ≤ n → n - i < f → ∃ m', D276_74 F g65 f v1 v2 v3 p l v6 (Int32.ofNat i) m = g65 v1 v2 v3 (hdy (n - i) s (m.2 70 35).toInt p l).2.2.1 (hdy (n - i) s (m.2 70 35).toInt p l).2.2.2 (v6 + Int32.ofInt 1) m' ∧ m'.1 80 = s0 ∧ (m'.2 70 35).toInt = (hdy (n - i) s (m.2 70 35).toInt p l).2.1 ∧ hx (m'.2 70 35).toInt ∧ kh m m' := by
  subst h2
  have en := nJ (n := n) (by omega)
  intro f
  induction f with
  | zero => intro s m i p l _ _ _ _ _ _ _ _ q; omega
  | succ f ih =>
    intro s m i p l es e84 I s0' hX hd hs hi q
    have ei := nJ (n := i) (by omega)
    unfold D276_74
    by_cases e : n ≤ i
    · rw [show n - i = 0 by omega]
      have r := r260 (F := F) (m := m) (s := s0) hF (fun j hj => by rw [e84]; exact hc j hj) (fun j hj => by rw [es]; exact hs j hj)
      exact ⟨xr m 80 s0, oT (zc.trans (decide_eq_true (by omega))) (ob r rfl), xr_s _ _ _, rfl, hX, kh_x⟩
    · rw [show n - i = (n - (i + 1)) + 1 by omega]
      have n2 := I_nt I
      have n3 := I_nw I
      have g : zcmp .ge (Int32.ofNat i) (Int32.ofNat n) = false := zc.trans (decide_eq_false (by omega))
      obtain ⟨m1, z1, z2, z3, z4⟩ := r275_4 (F := F) F (s := s) (m := m) (t := 0) (v := 0) es I s0' hX (by omega) (by omega)
      have z1 : D275 F m = some (_, m1) := z1
      rw [Nat.sub_zero] at z1 z2 z3
      obtain ⟨a, b, J, x0, x1⟩ := lots_p (s 2).toInt.toNat (s := s) (t := 0) (x := (m.2 70 35).toInt) (v := 0) I (by omega) hX
      have r6 := r246 (F := F) (m := m1) hF (by rw [z2]; exact J)
      rw [z2, a 3 (by decide)] at r6
      have K := fwk_I (s 3).toInt.toNat (w := 0) J (by rw [a 3 (by decide)]; omega)
      have r3 := r233 (F := F) (m := xr m1 80 (fwk 0 (s 3).toInt.toNat (lots 0 (s 2).toInt.toNat s (m.2 70 35).toInt 0).1)) hF (by rw [xr_s]; exact K)
      rw [xr_s, xr_xr] at r3
      have e4 : (pdy (fwk 0 (s 3).toInt.toNat (lots 0 (s 2).toInt.toNat s (m.2 70 35).toInt 0).1) 4).toInt = (s 4).toInt + 1 := by
        have d := I_day I
        rw [pdy_4, fwk_k _ (by decide), a 4 (by decide)]
        exact xa1 (by show _ ≤ _ + (1 : Int); omega) (by show _ + (1 : Int) ≤ _; omega)
      have k3 : kh m (xr m1 80 (pdy (fwk 0 (s 3).toInt.toNat (lots 0 (s 2).toInt.toNat s (m.2 70 35).toInt 0).1))) := kh_t z4 kh_x
      obtain ⟨m', d1, d2, d3, d4, d5⟩ := ih (s := pdy (fwk 0 (s 3).toInt.toNat (lots 0 (s 2).toInt.toNat s (m.2 70 35).toInt 0).1)) (m := xr m1 80 (pdy (fwk 0 (s 3).toInt.toNat (lots 0 (s 2).toInt.toNat s (m.2 70 35).toInt 0).1))) (i := i + 1) (p := p + (fwk 0 (s 3).toInt.toNat (lots 0 (s 2).toInt.toNat s (m.2 70 35).toInt 0).1 5 - (lots 0 (s 2).toInt.toNat s (m.2 70 35).toInt 0).1 5)) (l := l + (lots 0 (s 2).toInt.toNat s (m.2 70 35).toInt 0).2.2) (xr_s _ _ _) ((k3.1 84 (by decide)).trans e84) (I_dy K (by rw [fwk_k _ (by decide), a 4 (by decide)]; omega)) (by rw [pdy_o K (fun i _ => by omega) (by decide), fwk_k _ (by decide), a 0 (by decide)]; exact s0') (by show hx (m1.2 70 35).toInt; rw [z3]; exact ⟨x0, x1⟩) (by rw [e4]; omega) (fun j hj => by rw [pdy_o K (fun i _ => by omega) (by omega), fwk_h _ (by omega) hj, b j hj]; exact hs j hj) (by omega) (by omega)
      have ex : ((xr m1 80 (pdy (fwk 0 (s 3).toInt.toNat (lots 0 (s 2).toInt.toNat s (m.2 70 35).toInt 0).1))).2 70 35).toInt = (lots 0 (s 2).toInt.toNat s (m.2 70 35).toInt 0).2.1 := z3
      rw [ex] at d1 d3
      refine ⟨m', oF g (ob z1 (ob r6 (ob r3 ?_))), d2, d3, d4, kh_t k3 d5⟩
      rw [(o1 (n := i) (by omega)).2.2]
      exact d1
theorem r276_65 (hF : 500 ≤ F) {v1 v2 v3 : Int32} {n d : Nat} (h1 : v1 = Int32.ofNat n) (n10 : n ≤ 10) (h2 : v2 = Int32.ofNat d) (d60 : d ≤ 60) {s c : Nat → Int32} (I : vI9 s) (s0 : 0 < (s 0).toInt) (hc : ∀ j, j < 124 → c j = s j) : ∀ (f : Nat) {m : xS} {i : Nat} {p l : Int32}, m.1 80 = s → m.1 84 = c → hx (m.2 70 35).toInt → i ≤ n → n - i < f → ∃ m', D276_65 F f v1 v2 v3 p l (Int32.ofNat i) m = some (if zcmp .ne v3 0 = true then (htr (n - i) d s (m.2 70 35).toInt p l).2 else (htr (n - i) d s (m.2 70 35).toInt p l).1, m') ∧ m'.1 80 = s ∧ kh m m' := by
  have en := nJ (n := n) (by omega)
  subst h1
  intro f
  induction f with
  | zero => intro m i p l _ _ _ _ q; omega
  | succ f ih =>
    intro m i p l es e84 hX hi q
    have ei := nJ (n := i) (by omega)
    have d0 := I_day I.1
    have d9 := I.2
    unfold D276_65
    by_cases e : n ≤ i
    · rw [show n - i = 0 by omega]
      refine ⟨m, oT (zc.trans (decide_eq_true (by omega))) ?_, es, kh_r m⟩
      by_cases c : zcmp .ne v3 0 = true
      · rw [if_pos c, if_pos c]; rfl
      · rw [if_neg c, if_neg c]; rfl
    · rw [show n - i = (n - (i + 1)) + 1 by omega]
      have g : zcmp .ge (Int32.ofNat i) (Int32.ofNat n) = false := zc.trans (decide_eq_false (by omega))
      obtain ⟨m1, z1, z2, z3, z4, z5⟩ := r276_74 (F := F) hF (g65 := D276_65 F f) (v1 := Int32.ofNat n) (v3 := v3) (v6 := Int32.ofNat i) h2 d60 hc F (s := s) (m := m) (i := 0) (p := p) (l := l) es e84 I.1 s0 hX (by omega) (fun _ _ => rfl) (by omega) (by omega)
      rw [Nat.sub_zero] at z1 z3
      obtain ⟨m', w1, w2, w3⟩ := ih (m := m1) (i := i + 1) (p := (hdy d s (m.2 70 35).toInt p l).2.2.1) (l := (hdy d s (m.2 70 35).toInt p l).2.2.2) z2 ((z5.1 84 (by decide)).trans e84) z4 (by omega) (by omega)
      rw [z3] at w1
      refine ⟨m', oF g (z1.trans ?_), w2, kh_t z5 w3⟩
      rw [(o1 (n := i) (by omega)).2.2]
      exact w1
/-- when trials are made -/
def pHv (s : Nat → Int32) (y1 y2 y3 : Int32) : Prop := 0 < (s 0).toInt ∧ (1 ≤ y1.toInt ∧ y1.toInt ≤ 10) ∧ (1 ≤ y2.toInt ∧ y2.toInt ≤ 60) ∧ 0 ≤ y3.toInt ∧ y3.toInt ≤ 1
theorem r276n {y1 y2 y3 : Int32} (n : ¬ pHv (m.1 80) y1 y2 y3) : D276 F y1 y2 y3 m = some (-1, m) := by
  unfold D276
  by_cases a : 0 < (m.1 80 0).toInt
  · refine ob r204 (oF (zeF (decide_eq_true a)) (ob (r158 (x := 1) (y := 10) rfl rfl) ?_))
    by_cases b : 1 ≤ y1.toInt ∧ y1.toInt ≤ 10
    · refine oF (zeF (by rw [decide_eq_true b.1, decide_eq_true b.2]; rfl)) (ob (r158 (x := 1) (y := 60) rfl rfl) ?_)
      by_cases c : 1 ≤ y2.toInt ∧ y2.toInt ≤ 60
      · refine oF (zeF (by rw [decide_eq_true c.1, decide_eq_true c.2]; rfl)) (ob (r158 (x := 0) (y := 1) rfl rfl) (oF (znF ?_) rfl))
        rw [← Bool.not_eq_true, Bool.and_eq_true, decide_eq_true_eq, decide_eq_true_eq]
        exact fun z => n ⟨a, b, c, z⟩
      · refine oT (zeT ?_) rfl
        rw [← Bool.not_eq_true, Bool.and_eq_true, decide_eq_true_eq, decide_eq_true_eq]
        exact c
    · refine oT (zeT ?_) rfl
      rw [← Bool.not_eq_true, Bool.and_eq_true, decide_eq_true_eq, decide_eq_true_eq]
      exact b
  · exact ob r204 (oT (zeT (decide_eq_false a)) rfl)
theorem r276p (hF : 500 ≤ F) {y1 y2 y3 : Int32} (I : vI9 (m.1 80)) (h0 : 0 ≤ (m.1 70 23).toInt) (p : pHv (m.1 80) y1 y2 y3) : ∃ m', D276 F y1 y2 y3 m = some (if zcmp .ne y3 0 = true then (htr y1.toInt.toNat y2.toInt.toNat (m.1 80) (m.1 70 23).toInt 0 0).2 else (htr y1.toInt.toNat y2.toInt.toNat (m.1 80) (m.1 70 23).toInt 0 0).1, m') ∧ kow m m' := by
  obtain ⟨a, b, c, d⟩ := p
  have b1 := y32 (m.1 70 23)
  have eX : ((m.1 70 23).toInt64).toInt = (m.1 70 23).toInt := Int32.toInt_toInt64 _
  obtain ⟨c84, h259, hc⟩ := r259 (F := F) (m := xul m 70 35 (m.1 70 23).toInt64) hF
  obtain ⟨m', w1, w2, w3⟩ := r276_65 (F := F) hF (v1 := y1) (v2 := y2) (v3 := y3) (n := y1.toInt.toNat) (d := y2.toInt.toNat) (ofn_i (by omega) (by omega)) (by omega) (ofn_i (by omega) (by omega)) (by omega) (s := m.1 80) (c := c84) I a hc F (m := xr (xul m 70 35 (m.1 70 23).toInt64) 84 c84) (i := 0) (p := 0) (l := 0) (xr_o (by decide)) (xr_s _ _ _) (by
    show hx ((xul m 70 35 (m.1 70 23).toInt64).2 70 35).toInt
    rw [xul_s m 70 35, eX]
    exact ⟨h0, by omega⟩) (by omega) (by omega)
  have e3 : (xr (xul m 70 35 (m.1 70 23).toInt64) 84 c84).2 70 35 = (m.1 70 23).toInt64 := xul_s m 70 35 _
  rw [e3, eX, Nat.sub_zero] at w1
  refine ⟨m', ?_, fun i j e1 e2 e3 e4 => ?_, fun i j e1 e2 e3 => ?_⟩
  · unfold D276
    exact ob r204 (oF (zeF (decide_eq_true a)) (ob (r158 (x := 1) (y := 10) rfl rfl) (oF (zeF (by rw [decide_eq_true b.1, decide_eq_true b.2]; rfl)) (ob (r158 (x := 1) (y := 60) rfl rfl) (oF (zeF (by rw [decide_eq_true c.1, decide_eq_true c.2]; rfl)) (ob (r158 (x := 0) (y := 1) rfl rfl) (oT (znT (by rw [decide_eq_true d.1, decide_eq_true d.2]; rfl)) (ob h259 w1))))))))
  · by_cases z : i = 80
    · subst z
      rw [w2]
    · rw [w3.1 i z, xr_o e3]
      rfl
  · rw [w3.2 i j e1]
    exact if_neg (fun z => e1 z.1)
end PHRR
end
section
/-! harvests on the class's side: the same days, but for the day's number and when works were done. -/
def mrg (e s : Nat → Int32) : Nat → Int32 := fun j => if j = 4 ∨ (118 ≤ j ∧ j < 124) then e j else s j
def mok (e s : Nat → Int32) : Prop := (0 ≤ (e 4).toInt ∧ (e 4).toInt ≤ 999) ∧ ∀ w : Nat, (w : Int) < (s 3).toInt → -1 ≤ (e (118 + w)).toInt ∧ (0 ≤ (e (118 + w)).toInt ↔ 0 ≤ (s (118 + w)).toInt)
section PMRG
variable {e s : Nat → Int32} {v : Int32}
theorem mrg_o {j : Nat} (h4 : j ≠ 4) (h : j < 118 ∨ 124 ≤ j) : mrg e s j = s j := if_neg (by omega)
theorem mrg_s {j : Nat} (h : j = 4 ∨ (118 ≤ j ∧ j < 124)) : mrg e s j = e j := if_pos h
theorem mrg_id : mrg s s = s := funext fun j => by unfold mrg; split <;> rfl
theorem mrg_cup {k : Nat} (h4 : k ≠ 4) (h : k < 118 ∨ 124 ≤ k) : cup (mrg e s) k v = mrg e (cup s k v) := funext fun j => by
  by_cases z : j = k
  · subst z
    rw [cup_s, mrg_o h4 h, cup_s]
  · rw [cup_o z]
    unfold mrg
    rw [cup_o z]
theorem mrg_cus {k : Nat} {u : Int32} (h : k = 4 ∨ (118 ≤ k ∧ k < 124)) : cup (mrg e s) k v = mrg (cup e k v) (cup s k u) := funext fun j => by
  by_cases z : j = k
  · subst z
    rw [cup_s, mrg_s h, cup_s]
  · rw [cup_o z]
    unfold mrg
    rw [cup_o z, cup_o z]
theorem phm_mrg {t : Nat} (h : t < 6) : phm (mrg e s) t = phm s t := by
  unfold phm
  rw [mrg_o (by omega) (by omega), mrg_o (by omega) (by omega)]
theorem psh_mrg {t : Nat} {x : Int32} (h : t < 6) : psh (mrg e s) t x = psh s t x := by
  unfold psh psh0 prs
  rw [phm_mrg h, mrg_o (by omega) (by omega), mrg_o (by omega) (by omega), mrg_o (by omega) (by omega), mrg_o (by omega) (by omega)]
theorem pcl_mrg {t h : Nat} (I : vI s) (ht : (t : Int) < (s 2).toInt) (hh : h < 6) : pcl (mrg e s) t h = pcl s t h := by
  have n6 := I_n6 I
  have n2 := I_nt I
  have h3 := (I.2.1 t ht).2.1
  unfold pcl ptr
  rw [mrg_o (by omega) (by omega), mrg_o (by omega) (by omega), mrg_o (by omega) (by omega)]
theorem pdn_mrg {w : Nat} (M : mok e s) (hw : (w : Int) < (s 3).toInt) (h6 : w < 6) : pdn (mrg e s) w = pdn s w := by
  unfold pdn
  rw [mrg_s (by omega)]
  exact decide_eq_decide.mpr (M.2 w hw).2
theorem pfit_mrg {w t : Nat} (ht : t < 6) : pfit (mrg e s) w t = pfit s w t := by
  unfold pfit
  rw [psh_mrg ht, mrg_o (by omega) (by omega), mrg_o (by omega) (by omega), mrg_o (by omega) (by omega), mrg_o (by omega) (by omega), mrg_o (by omega) (by omega)]
theorem any_eq {p q : Nat → Bool} {l : List Nat} (h : ∀ x ∈ l, p x = q x) : l.any p = l.any q := by
  induction l with
  | nil => rfl
  | cons a l ih =>
    rw [List.any_cons, List.any_cons, h a (List.mem_cons_self ..), ih (fun x hx => h x (List.mem_cons_of_mem _ hx))]
theorem pcd_mrg {w : Nat} (I : vI s) (M : mok e s) (hw : (w : Int) < (s 3).toInt) : pcd (mrg e s) w = pcd s w := by
  have n2 := I_nt I
  have n3 := I_nw I
  unfold pcd
  rw [pdn_mrg M hw (by omega), mrg_o (by omega) (by omega), any_eq (q := pfit s w) (fun x hx => pfit_mrg (by have := List.mem_range.mp hx; omega))]
theorem pth_mrg {k : Nat} (h4 : k ≠ 4) (h : k < 118 ∨ 124 ≤ k) : pth (mrg e s) k = mrg e (pth s k) := by
  unfold pth
  rw [mrg_o h4 h]
  split
  · exact mrg_cup h4 h
  · rfl
theorem pld_mrg {t h : Nat} (I : vI s) (ht : (t : Int) < (s 2).toInt) (hh : h < 6) : pld (mrg e s) t h = mrg e (pld s t h) := by
  have n6 := I_n6 I
  have n2 := I_nt I
  have h3 := (I.2.1 t ht).2.1
  unfold pld
  rw [mrg_o (j := 10 + 6 * t + 3) (by omega) (by omega), mrg_o (j := 10 + 6 * t + 4) (by omega) (by omega), pth_mrg (by omega) (by omega), mrg_cup (by omega) (by omega), mrg_cup (by omega) (by omega)]
theorem pgv_mrg {t : Nat} (ht : t < 6) : pgv (mrg e s) t v = mrg e (pgv s t v) := by
  unfold pgv
  rw [mrg_cup (by omega) (by omega), mrg_cup (by omega) (by omega), mrg_cup (by omega) (by omega), mrg_cup (by omega) (by omega)]
theorem pou_mrg {t : Nat} (ht : t < 6) : pou (mrg e s) t = mrg e (pou s t) := by
  unfold pou
  rw [phm_mrg ht, mrg_o (by omega) (by omega)]
  split
  · rfl
  · exact mrg_cup (by omega) (by omega)
theorem pous_mrg : ∀ (n : Nat) {s : Nat → Int32} {t : Nat}, t + n ≤ 6 → pous (mrg e s) t n = mrg e (pous s t n)
  | 0, _, _, _ => rfl
  | n + 1, s, t, h => by
    show pous (pou (mrg e s) t) (t + 1) n = mrg e (pous (pou s t) (t + 1) n)
    rw [pou_mrg (by omega)]
    exact pous_mrg n (by omega)
theorem pdc_mrg (I : vI s) (M : mok e s) : ∃ e', pdc (mrg e s) = mrg e' (pdy s) ∧ mok e' (pdy s) := by
  have n2 := I_nt I
  have n3 := I_nw I
  have k : (e 4 + 1).toInt = (e 4).toInt + 1 := xa1 (by have := M.1; show _ ≤ _ + (1 : Int); omega) (by have := M.1; show _ + (1 : Int) ≤ _; omega)
  have l : (999 : Int32).toInt = 999 := rfl
  refine ⟨cup e 4 (if e 4 + 1 < 999 then e 4 + 1 else 999), ?_, ⟨?_, fun w hw => ?_⟩⟩
  · unfold pdc pdy
    rw [mrg_o (j := 2) (by omega) (by omega), mrg_s (j := 4) (Or.inl rfl), pous_mrg _ (by omega), mrg_cus (Or.inl rfl)]
  · rw [cup_s]
    by_cases c : e 4 + 1 < 999
    · rw [if_pos c, k]
      have c := Int32.lt_iff_toInt_lt.mp c
      have := M.1
      omega
    · rw [if_neg c, l]
      omega
  · rw [pdy_o I (fun i _ => by omega) (by decide)] at hw
    rw [cup_o (by omega), pdy_o I (fun i _ => by omega) (by omega)]
    exact M.2 w hw
theorem fwk_mrg : ∀ (n : Nat) {s e : Nat → Int32} {w : Nat}, vI s → mok e s → ((w + n : Nat) : Int) ≤ (s 3).toInt → ∃ e', fwk w n (mrg e s) = mrg e' (fwk w n s) ∧ mok e' (fwk w n s)
  | 0, _, e, _, _, M, _ => ⟨e, rfl, M⟩
  | n + 1, s, e, w, I, M, hw => by
    have n3 := I_nw I
    show ∃ e', fwk (w + 1) n (if pcd (mrg e s) w = true then pwk (mrg e s) w else mrg e s) = mrg e' (fwk (w + 1) n (if pcd s w = true then pwk s w else s)) ∧ mok e' (fwk (w + 1) n (if pcd s w = true then pwk s w else s))
    rw [pcd_mrg I M (by omega)]
    by_cases c : pcd s w = true
    · rw [if_pos c, if_pos c]
      have ep : pwk (mrg e s) w = mrg (cup e (118 + w) (e 4)) (pwk s w) := by
        unfold pwk
        rw [mrg_s (j := 4) (Or.inl rfl), mrg_cus (u := s 4) (by omega), mrg_o (j := 5) (by omega) (by omega), mrg_o (j := 124 + 4 * w + 3) (by omega) (by omega), mrg_cup (by omega) (by omega)]
      rw [ep]
      refine fwk_mrg n (I_wk I (by omega)) ⟨?_, fun u hu => ?_⟩ (by rw [pwk_k (by decide)]; omega)
      · rw [cup_o (by omega)]
        exact M.1
      · rw [pwk_k (by decide)] at hu
        have d := I_day I
        by_cases z : u = w
        · subst z
          rw [cup_s, show pwk s u (118 + u) = s 4 from (cup_o (by omega)).trans (cup_s _ _ _)]
          have := M.1
          omega
        · rw [cup_o (by omega), show pwk s w (118 + u) = s (118 + u) from (cup_o (by omega)).trans (cup_o (by omega))]
          exact M.2 u hu
    · rw [if_neg c, if_neg c]
      exact fwk_mrg n I M (by omega)
theorem J_mrg (I : vI s) (M : mok e s) : vJD (s 4).toInt (mrg e s) := by
  have lt := I_nt I
  have l := I_nw I
  have e0 : mrg e s 0 = s 0 := mrg_o (by omega) (by omega)
  have e1 : mrg e s 1 = s 1 := mrg_o (by omega) (by omega)
  have e2 : mrg e s 2 = s 2 := mrg_o (by omega) (by omega)
  have e3 : mrg e s 3 = s 3 := mrg_o (by omega) (by omega)
  have e4 : mrg e s 4 = e 4 := mrg_s (Or.inl rfl)
  refine ⟨?_, fun t ht => ?_, fun u hu => ?_, fun b hb => ?_, fun b f hb hf => ?_⟩
  · unfold vIa
    rw [e0, e1, e2, e3, e4]
    exact ⟨I.1.1, I.1.2.1, I.1.2.2.1, I.1.2.2.2.1, M.1.1, by have := M.1; omega⟩
  · rw [e2] at ht
    rw [e0, mrg_o (by omega) (by omega), mrg_o (by omega) (by omega), mrg_o (by omega) (by omega), mrg_o (by omega) (by omega)]
    exact I.2.1 t ht
  · rw [e3] at hu
    rw [e0, mrg_o (by omega) (by omega), mrg_s (by omega)]
    exact ⟨(I.2.2.1 u hu).1, (M.2 u hu).1⟩
  · rw [mrg_o (by omega) (by omega), mrg_o (by omega) (by omega)]
    exact I.2.2.2.1 b hb
  · rw [mrg_o (by omega) (by omega)]
    exact I.2.2.2.2 b f hb hf
theorem mok_s (I : vI9 s) : mok s s := ⟨⟨(I_day I.1).1, I.2⟩, fun w hw => ⟨(I.1.2.2.1 w hw).2, Iff.rfl⟩⟩
theorem lst_3 {t j : Nat} {d : Int} (I : vI s) (ht : (t : Int) < (s 2).toInt) (hd : 0 ≤ d ∧ d < (s 0).toInt + 1) (hj : 118 ≤ j) : lst s t d j = s j := by
  have n6 := I_n6 I
  have n2 := I_nt I
  have h := (I.2.1 t ht).2.1
  unfold lst
  split
  · exact pgv_o (by omega)
  · split
    · rw [pld_o (by omega) (by omega), pth_o (by omega)]
    · rfl
end PMRG
section PCHV
variable {s e : Nat → Int32} {m : xS} {F : Nat}
/-- the trial and the seed alone -/
def kl (m m' : xS) : Prop := (∀ i j, i ≠ 12 → ¬ (i = 43 ∧ j = 0) → m'.1 i j = m.1 i j) ∧ m'.2 = m.2
theorem kl_r (m : xS) : kl m m := ⟨fun _ _ _ _ => rfl, rfl⟩
theorem kl_t {a b c : xS} (h1 : kl a b) (h2 : kl b c) : kl a c := ⟨fun i j h k => (h2.1 i j h k).trans (h1.1 i j h k), h2.2.trans h1.2⟩
theorem kl_x {a : xS} {c : Nat → Int32} : kl a (xr a 12 c) := ⟨fun i j h _ => by rw [xr_o h], rfl⟩
theorem kl_10 {a b : xS} (h : kl a b) : b.1 10 = a.1 10 := funext fun j => h.1 10 j (by decide) (fun z => absurd z.1 (by decide))
theorem c11 (h : hx (m.1 43 0).toInt) : ∃ q Y, D11_43 F m = some (q, xu m 43 0 Y) ∧ q.toInt = lcg (m.1 43 0).toInt / 65536 ∧ Y.toInt = lcg (m.1 43 0).toInt := by
  have e := lcg64 (X := (m.1 43 0).toInt64) (by rw [Int32.toInt_toInt64]; exact h)
  rw [Int32.toInt_toInt64] at e
  have hb := lcg_b (m.1 43 0).toInt
  have l1 : (65536 : Int32).toInt = 65536 := rfl
  unfold D11_43
  generalize ((m.1 43 0).toInt64 * 1103515245 + 12345) - ((m.1 43 0).toInt64 * 1103515245 + 12345) / 2147483648 * 2147483648 = Z at *
  have ez : Z.toInt32.toInt = lcg (m.1 43 0).toInt := by rw [Int64.toInt_toInt32, e, b32 (by omega)]
  exact ⟨_, _, rfl, by rw [Int32.toInt_div, l1, ez, Int.tdiv_eq_ediv_of_nonneg hb.1, b32 (by omega)], ez⟩
theorem drw32 {q k : Int32} (h : 0 ≤ q.toInt ∧ q.toInt < 32768) (hk : 1 ≤ k.toInt ∧ k.toInt ≤ 100) : (q - q / k * k).toInt = q.toInt % k.toInt := by
  have d0 : 0 ≤ q.toInt / k.toInt := Int.ediv_nonneg h.1 (by omega)
  have d1 : q.toInt / k.toInt ≤ q.toInt := Int.ediv_le_self _ h.1
  have d2 : q.toInt / k.toInt * k.toInt ≤ q.toInt := Int.ediv_mul_le _ (by omega)
  have d3 : 0 ≤ q.toInt / k.toInt * k.toInt := Int.mul_nonneg d0 (by omega)
  have e2 : (q / k).toInt = q.toInt / k.toInt := by
    rw [Int32.toInt_div, Int.tdiv_eq_ediv_of_nonneg h.1, b32 (by omega)]
  have e3 : (q / k * k).toInt = q.toInt / k.toInt * k.toInt := by
    rw [Int32.toInt_mul, e2, b32 (by omega)]
  rw [Int32.toInt_sub, e3, b32 (by omega), ems]
theorem c12_4 : ∀ (f : Nat) {s : Nat → Int32} {m : xS} {t : Nat} {v : Int32}, R32 (mrg e s) (m.1 12) → vI s → mok e s → 0 < (s 0).toInt → hx (m.1 43 0).toInt → (t : Int) ≤ (s 2).toInt → 7 - t < f → ∃ m', D12_43_11t_4 F f v (Int32.ofNat t) m = some ((lots t ((s 2).toInt.toNat - t) s (m.1 43 0).toInt v).2.2, m') ∧ R32 (mrg e (lots t ((s 2).toInt.toNat - t) s (m.1 43 0).toInt v).1) (m'.1 12) ∧ mok e (lots t ((s 2).toInt.toNat - t) s (m.1 43 0).toInt v).1 ∧ (m'.1 43 0).toInt = (lots t ((s 2).toInt.toNat - t) s (m.1 43 0).toInt v).2.1 ∧ kl m m' := by
  intro f
  induction f with
  | zero => intro s m t v _ _ _ _ _ _ l; omega
  | succ f ih =>
    intro s m t v R I M s0 hX ht l
    have n6 := I_n6 I
    have n2 := I_nt I
    have et := nJ (n := t) (by omega)
    have J := J_mrg I M
    have e2m : mrg e s 2 = s 2 := mrg_o (by omega) (by omega)
    have e0m : mrg e s 0 = s 0 := mrg_o (by omega) (by omega)
    have r79 := c79_11t (F := F) R
    rw [e2m] at r79
    unfold D12_43_11t_4
    by_cases q : (s 2).toInt ≤ (t : Int)
    · rw [show (s 2).toInt.toNat - t = 0 by omega]
      exact ⟨m, ob r79 (oT (zc.trans (decide_eq_true (by dsimp only; omega))) rfl), R, M, rfl, kl_r m⟩
    · rw [show (s 2).toInt.toNat - t = ((s 2).toInt.toNat - (t + 1)) + 1 by omega]
      have g : zcmp .ge (Int32.ofNat t) (s 2) = false := zc.trans (decide_eq_false (by omega))
      have ek : (s 0 + 1).toInt = (s 0).toInt + 1 := xa1 (by show _ ≤ _ + (1 : Int); omega) (by show _ + (1 : Int) ≤ _; omega)
      have nz : (!(s 0 + 1 == 0)) = true := by
        rw [beq_eq_false_iff_ne.mpr (fun z => by
          have z := congrArg Int32.toInt z
          have l : (0 : Int32).toInt = 0 := rfl
          omega)]
        rfl
      obtain ⟨q13, Y, z1, z2, z3⟩ := c11 (F := F) (m := m) hX
      have hb := lcg_b (m.1 43 0).toInt
      have ed0 := drw32 (q := q13) (k := s 0 + 1) (by omega) (by omega)
      generalize ed : q13 - q13 / (s 0 + 1) * (s 0 + 1) = d at *
      have z4 : d.toInt = drw (m.1 43 0).toInt ((s 0).toInt + 1) := by rw [ed0, z2, ek]; rfl
      have hd := drw_b (x := (m.1 43 0).toInt) (k := (s 0).toInt + 1) (by omega)
      rw [← z4] at hd
      obtain ⟨k, hk⟩ : ∃ k : Nat, d.toInt = (k : Int) := ⟨d.toInt.toNat, by omega⟩
      have edk : d = Int32.ofNat k := ofn_i hk (by omega)
      have J1 : vI (lst s t d.toInt) := lst_I I (by omega) hd
      have e2 : lst s t d.toInt 2 = s 2 := lst_k I (by decide)
      have e0 : lst s t d.toInt 0 = s 0 := lst_k I (by decide)
      have M1 : mok e (lst s t d.toInt) := ⟨M.1, fun w hw => by
        rw [lst_k I (by decide)] at hw
        rw [lst_3 I (by omega) hd (by omega)]
        exact M.2 w hw⟩
      have k1 : kl m (xu m 43 0 Y) := ⟨fun i j _ h => xu_o h, rfl⟩
      have R1 : R32 (mrg e s) ((xu m 43 0 Y).1 12) := by rw [xu_row (by decide)]; exact R
      have r77 : ∀ {m2 : xS}, R32 (mrg e s) (m2.1 12) → D77_11t F m2 = some (s 0, m2) := fun {m2} R2 => by
        have r := c77_11t (F := F) R2
        rw [e0m] at r
        exact r
      show ∃ m' : xS, _ = some ((lots (t + 1) _ (lst s t (drw _ _)) (lcg _) (lct s t (drw _ _) v)).2.2, m') ∧ R32 (mrg e (lots (t + 1) _ (lst s t (drw _ _)) (lcg _) (lct s t (drw _ _) v)).1) (m'.1 12) ∧ mok e (lots (t + 1) _ (lst s t (drw _ _)) (lcg _) (lct s t (drw _ _) v)).1 ∧ (m'.1 43 0).toInt = (lots (t + 1) _ (lst s t (drw _ _)) (lcg _) (lct s t (drw _ _) v)).2.1 ∧ _
      rw [← z4, ← z3]
      have nx : ∀ {m2 : xS}, R32 (mrg e (lst s t d.toInt)) (m2.1 12) → m2.1 43 0 = Y → kl m m2 → ∃ m', D12_43_11t_62 F (D12_43_11t_4 F f) (lct s t d.toInt v) (Int32.ofNat t) d m2 = some ((lots (t + 1) ((s 2).toInt.toNat - (t + 1)) (lst s t d.toInt) Y.toInt (lct s t d.toInt v)).2.2, m') ∧ R32 (mrg e (lots (t + 1) ((s 2).toInt.toNat - (t + 1)) (lst s t d.toInt) Y.toInt (lct s t d.toInt v)).1) (m'.1 12) ∧ mok e (lots (t + 1) ((s 2).toInt.toNat - (t + 1)) (lst s t d.toInt) Y.toInt (lct s t d.toInt v)).1 ∧ (m'.1 43 0).toInt = (lots (t + 1) ((s 2).toInt.toNat - (t + 1)) (lst s t d.toInt) Y.toInt (lct s t d.toInt v)).2.1 ∧ kl m m' := fun {m2} h1 h2 h3 => by
        obtain ⟨m', d1, d2, d3, d4, d5⟩ := ih (s := lst s t d.toInt) (m := m2) (t := t + 1) (v := lct s t d.toInt v) h1 J1 M1 (by rw [e0]; exact s0) (by rw [h2, z3]; exact lcg_b _) (by rw [e2]; omega) (by omega)
        rw [e2, h2] at d1 d2 d3 d4
        refine ⟨m', ?_, d2, d3, d4, kl_t h3 d5⟩
        unfold D12_43_11t_62
        rw [(o1 (n := t) (by omega)).2.2]
        exact d1
      have eY : (xu m 43 0 Y).1 43 0 = Y := xu_s _ _ _ _
      by_cases c : d.toInt = (s 0).toInt
      · have c1 : zcmp .ne d (s 0) = false := (zcni (y := (s 0).toInt) rfl).trans (by rw [decide_eq_true c]; rfl)
        obtain ⟨c', y1, y2⟩ := a103_11t (F := F) (m := xu m 43 0 Y) R1 (t := t) rfl (by omega)
        rw [mrg_o (by omega) (by omega), pgv_mrg (by omega)] at y2
        have el : lst s t d.toInt = pgv s t (s (10 + 6 * t)) := by unfold lst; rw [if_pos c]
        have ec : lct s t d.toInt v = v := by unfold lct; rw [if_pos c]
        obtain ⟨m', d1, d2, d3, d4, d5⟩ := nx (m2 := xr (xu m 43 0 Y) 12 c') (by rw [xr_s, el]; exact y2) (by rw [xr_o (by decide)]; exact eY) (kl_t k1 kl_x)
        refine ⟨m', ob r79 (oF g (ob z1 (ob (r77 R1) (oT nz (ob (r77 R1) (oF (by rw [ed]; exact c1) (ob y1 ?_))))))), d2, d3, d4, d5⟩
        rw [ec] at d1 ⊢
        rw [ed]
        exact d1
      · have c1 : zcmp .ne d (s 0) = true := (zcni (y := (s 0).toInt) rfl).trans (by rw [decide_eq_false c]; rfl)
        have r := c101uj (F := F) (m := xu m 43 0 Y) R1 J (t := t) (h := k) rfl edk (by rw [e2m]; omega) (by omega)
        rw [pcl_mrg I (by omega) (by omega)] at r
        by_cases p : pcl s t k = true
        · have el : lst s t d.toInt = pld s t k := by unfold lst; rw [if_neg c, hk, Int.toNat_natCast, if_pos p]
          have ec : lct s t d.toInt v = v + 1 := by unfold lct; rw [if_neg c, hk, Int.toNat_natCast, if_pos p]
          obtain ⟨c', y1, y2⟩ := a102j (F := F) (m := xu m 43 0 Y) R1 J (t := t) (h := k) rfl edk (by rw [e2m]; omega) (by omega)
          rw [pld_mrg I (by omega) (by omega)] at y2
          obtain ⟨m', d1, d2, d3, d4, d5⟩ := nx (m2 := xr (xu m 43 0 Y) 12 c') (by rw [xr_s, el]; exact y2) (by rw [xr_o (by decide)]; exact eY) (kl_t k1 kl_x)
          refine ⟨m', ob r79 (oF g (ob z1 (ob (r77 R1) (oT nz (ob (r77 R1) (oT (by rw [ed]; exact c1) (ob (by rw [ed]; exact r) (oF (zeF p) (ob (by rw [ed]; exact y1) ?_))))))))), d2, d3, d4, d5⟩
          rw [ec] at d1 ⊢
          rw [ed]
          exact d1
        · have p : pcl s t k = false := by simpa using p
          have el : lst s t d.toInt = s := by unfold lst; rw [if_neg c, hk, Int.toNat_natCast, if_neg (by rw [p]; decide)]
          have ec : lct s t d.toInt v = v := by unfold lct; rw [if_neg c, hk, Int.toNat_natCast, if_neg (by rw [p]; decide)]
          obtain ⟨m', d1, d2, d3, d4, d5⟩ := nx (m2 := xu m 43 0 Y) (by rw [el]; exact R1) eY k1
          refine ⟨m', ob r79 (oF g (ob z1 (ob (r77 R1) (oT nz (ob (r77 R1) (oT (by rw [ed]; exact c1) (ob (by rw [ed]; exact r) (oT (zeT p) ?_)))))))), d2, d3, d4, d5⟩
          rw [ec] at d1 ⊢
          rw [ed]
          exact d1
end PCHV
end
section
/-! harvests, as a pair. -/
section PCHW
variable {s : Nat → Int32} {m : xS} {F : Nat}
theorem hdy_p : ∀ (n : Nat) {s : Nat → Int32} {x : Int} {p l : Int32}, vI s → hx x → (s 4).toInt + (n : Int) < 2000 → (hdy n s x p l).2.2.1 = p + ((hdy n s x p l).1 5 - s 5)
  | 0, s, x, p, l, _, _, _ => by
    show p = p + (s 5 - s 5)
    rw [Int32.sub_self, Int32.add_zero]
  | n + 1, s, x, p, l, I, hX, hd => by
    have n2 := I_nt I
    have n3 := I_nw I
    have d := I_day I
    obtain ⟨a, b, J, x0, x1⟩ := lots_p (s 2).toInt.toNat (s := s) (t := 0) (x := x) (v := 0) I (by omega) hX
    have K := fwk_I (s 3).toInt.toNat (w := 0) J (by rw [a 3 (by decide)]; omega)
    have e4 : (pdy (fwk 0 (s 3).toInt.toNat (lots 0 (s 2).toInt.toNat s x 0).1) 4).toInt = (s 4).toInt + 1 := by
      rw [pdy_4, fwk_k _ (by decide), a 4 (by decide)]
      exact xa1 (by show _ ≤ _ + (1 : Int); omega) (by show _ + (1 : Int) ≤ _; omega)
    refine (hdy_p n (s := pdy (fwk 0 (s 3).toInt.toNat (lots 0 (s 2).toInt.toNat s x 0).1)) (x := (lots 0 (s 2).toInt.toNat s x 0).2.1) (p := p + (fwk 0 (s 3).toInt.toNat (lots 0 (s 2).toInt.toNat s x 0).1 5 - (lots 0 (s 2).toInt.toNat s x 0).1 5)) (l := l + (lots 0 (s 2).toInt.toNat s x 0).2.2) (I_dy K (by rw [fwk_k _ (by decide), a 4 (by decide)]; omega)) ⟨x0, x1⟩ (by rw [e4]; omega)).trans ?_
    rw [pdy_o K (fun i _ => by omega) (by decide), a 5 (by decide)]
    show _ = p + ((hdy n (pdy (fwk 0 (s 3).toInt.toNat (lots 0 (s 2).toInt.toNat s x 0).1)) (lots 0 (s 2).toInt.toNat s x 0).2.1 (p + (fwk 0 (s 3).toInt.toNat (lots 0 (s 2).toInt.toNat s x 0).1 5 - (lots 0 (s 2).toInt.toNat s x 0).1 5)) (l + (lots 0 (s 2).toInt.toNat s x 0).2.2)).1 5 - s 5)
    rw [a 5 (by decide)]
    generalize (hdy n _ _ _ _).1 5 = y
    generalize fwk 0 (s 3).toInt.toNat (lots 0 (s 2).toInt.toNat s x 0).1 5 = z
    generalize s 5 = u
    grind
theorem c153_81 (hF : 500 ≤ F) {g61 : Int32 → Int32 → Int32 → Int32 → Int32 → Int32 → Int32 → xS → Option (Int32 × xS)} {v1 v2 v3 v4 v5 v7 : Int32} {n : Nat} (h2 : v2 = Int32.ofNat n) (n60 : n ≤ 60) {s0 : Nat → Int32} : ∀ (f : Nat) {s e : Nat → Int32} {m : xS} {i : Nat} {p l : Int32}, R32 s0 (m.1 10) → R32 (mrg e s) (m.1 12) → vI s → mok e s → 0 < (s 0).toInt → hx (m.1 43 0).toInt → (s 4).toInt + ((n - i : Nat) : Int) < 2000 → i ≤ n → n - i < f → ∃ m', D153_0_81 F g61 f v1 v2 v3 v4 v5 l v7 (Int32.ofNat i) m = g61 v1 v2 v3 v4 (v5 + ((hdy (n - i) s (m.1 43 0).toInt p l).1 5 - s0 5)) (hdy (n - i) s (m.1 43 0).toInt p l).2.2.2 (v7 + Int32.ofInt 1) m' ∧ (m'.1 43 0).toInt = (hdy (n - i) s (m.1 43 0).toInt p l).2.1 ∧ hx (m'.1 43 0).toInt ∧ kl m m' := by
  subst h2
  have en := nJ (n := n) (by omega)
  intro f
  induction f with
  | zero => intro s e m i p l _ _ _ _ _ _ _ _ q; omega
  | succ f ih =>
    intro s e m i p l R0 R I M s0' hX hd hi q
    have ei := nJ (n := i) (by omega)
    unfold D153_0_81
    by_cases z : n ≤ i
    · rw [show n - i = 0 by omega]
      have r82 := c82_11t (F := F) R
      rw [mrg_o (by omega) (by omega)] at r82
      exact ⟨m, oT (zc.trans (decide_eq_true (by omega))) (ob r82 (ob (c82_9 R0) rfl)), rfl, hX, kl_r m⟩
    · rw [show n - i = (n - (i + 1)) + 1 by omega]
      have n2 := I_nt I
      have n3 := I_nw I
      have d := I_day I
      have g : zcmp .ge (Int32.ofNat i) (Int32.ofNat n) = false := zc.trans (decide_eq_false (by omega))
      obtain ⟨m1, z1, z2, z3, z4, z5⟩ := c12_4 (F := F) F (t := 0) (v := 0) R I M s0' hX (by omega) (by omega)
      have z1 : D12_43_11t F m = some (_, m1) := z1
      rw [Nat.sub_zero] at z1 z2 z3 z4
      obtain ⟨a, b, J, x0, x1⟩ := lots_p (s 2).toInt.toNat (s := s) (t := 0) (x := (m.1 43 0).toInt) (v := 0) I (by omega) hX
      obtain ⟨c1, y1, y2⟩ := c109j (F := F) (m := m1) hF (J_mrg J z3) z2
      rw [mrg_o (by omega) (by omega), a 3 (by decide)] at y2
      obtain ⟨e1, q1, q2⟩ := fwk_mrg (s 3).toInt.toNat (w := 0) J z3 (by rw [a 3 (by decide)]; omega)
      rw [q1] at y2
      have K := fwk_I (s 3).toInt.toNat (w := 0) J (by rw [a 3 (by decide)]; omega)
      obtain ⟨c2, w1, w2⟩ := a112j (F := F) (m := xr m1 12 c1) (by rw [xr_s]; exact y2) (J_mrg K q2) hF
      obtain ⟨e2, q3, q4⟩ := pdc_mrg K q2
      rw [q3] at w2
      rw [xr_xr] at w1
      have e4 : (pdy (fwk 0 (s 3).toInt.toNat (lots 0 (s 2).toInt.toNat s (m.1 43 0).toInt 0).1) 4).toInt = (s 4).toInt + 1 := by
        rw [pdy_4, fwk_k _ (by decide), a 4 (by decide)]
        exact xa1 (by show _ ≤ _ + (1 : Int); omega) (by show _ + (1 : Int) ≤ _; omega)
      have k3 : kl m (xr m1 12 c2) := kl_t z5 kl_x
      obtain ⟨m', d1, d3, d4, d5⟩ := ih (s := pdy (fwk 0 (s 3).toInt.toNat (lots 0 (s 2).toInt.toNat s (m.1 43 0).toInt 0).1)) (e := e2) (m := xr m1 12 c2) (i := i + 1) (p := p + (fwk 0 (s 3).toInt.toNat (lots 0 (s 2).toInt.toNat s (m.1 43 0).toInt 0).1 5 - (lots 0 (s 2).toInt.toNat s (m.1 43 0).toInt 0).1 5)) (l := l + (lots 0 (s 2).toInt.toNat s (m.1 43 0).toInt 0).2.2) (by rw [kl_10 k3]; exact R0) (by rw [xr_s]; exact w2) (I_dy K (by rw [fwk_k _ (by decide), a 4 (by decide)]; omega)) q4 (by rw [pdy_o K (fun i _ => by omega) (by decide), fwk_k _ (by decide), a 0 (by decide)]; exact s0') (by rw [xr_o (by decide), z4]; exact ⟨x0, x1⟩) (by rw [e4]; omega) (by omega) (by omega)
      have ex : ((xr m1 12 c2).1 43 0).toInt = (lots 0 (s 2).toInt.toNat s (m.1 43 0).toInt 0).2.1 := by rw [xr_o (by decide)]; exact z4
      rw [ex] at d1 d3
      refine ⟨m', oF g (ob z1 (ob y1 (ob w1 ?_))), d3, d4, kl_t k3 d5⟩
      rw [(o1 (n := i) (by omega)).2.2]
      exact d1
theorem c153_61 (hF : 500 ≤ F) {v1 v2 v3 v4 : Int32} {n d : Nat} (h1 : v1 = Int32.ofNat n) (n10 : n ≤ 10) (h2 : v2 = Int32.ofNat d) (d60 : d ≤ 60) {s : Nat → Int32} (I : vI9 s) (s0 : 0 < (s 0).toInt) : ∀ (f : Nat) {m : xS} {i : Nat} {p l : Int32}, R32 s (m.1 10) → hx (m.1 43 0).toInt → i ≤ n → n - i < f → ∃ m', D153_0_61 F f v1 v2 v3 v4 p l (Int32.ofNat i) m = some (if zcmp .ne v3 0 = true then (htr (n - i) d s (m.1 43 0).toInt p l).2 else (htr (n - i) d s (m.1 43 0).toInt p l).1, xu m' 43 0 v4) ∧ kl m m' := by
  have en := nJ (n := n) (by omega)
  subst h1
  intro f
  induction f with
  | zero => intro m i p l _ _ _ q; omega
  | succ f ih =>
    intro m i p l R hX hi q
    have ei := nJ (n := i) (by omega)
    have d0 := I_day I.1
    have d9 := I.2
    unfold D153_0_61
    by_cases e : n ≤ i
    · rw [show n - i = 0 by omega]
      refine ⟨m, oT (zc.trans (decide_eq_true (by omega))) ?_, kl_r m⟩
      by_cases c : zcmp .ne v3 0 = true
      · rw [if_pos c, if_pos c]; rfl
      · rw [if_neg c, if_neg c]; rfl
    · rw [show n - i = (n - (i + 1)) + 1 by omega]
      have g : zcmp .ge (Int32.ofNat i) (Int32.ofNat n) = false := zc.trans (decide_eq_false (by omega))
      have k0 : kl m (xcp m 12 10 114) := ⟨fun a b h _ => by rw [xcp_o h], rfl⟩
      have e43 : (xcp m 12 10 114).1 43 0 = m.1 43 0 := by rw [xcp_o (by decide)]
      obtain ⟨m1, z1, z3, z4, z5⟩ := c153_81 (F := F) hF (g61 := D153_0_61 F f) (v1 := Int32.ofNat n) (v3 := v3) (v4 := v4) (v5 := p) (v7 := Int32.ofNat i) h2 d60 (s0 := s) F (s := s) (e := s) (m := xcp m 12 10 114) (i := 0) (p := p) (l := l) (by rw [kl_10 k0]; exact R) (by rw [mrg_id]; exact R_c R (fun _ _ => rfl) (fun j hj => xcp_s hj)) I.1 (mok_s I) s0 (by rw [e43]; exact hX) (by omega) (by omega) (by omega)
      rw [Nat.sub_zero, e43] at z1 z3
      have hp := hdy_p d (s := s) (x := (m.1 43 0).toInt) (p := p) (l := l) I.1 hX (by omega)
      rw [← hp] at z1
      have k1 : kl m m1 := kl_t k0 z5
      obtain ⟨m', w1, w3⟩ := ih (m := m1) (i := i + 1) (p := (hdy d s (m.1 43 0).toInt p l).2.2.1) (l := (hdy d s (m.1 43 0).toInt p l).2.2.2) (by rw [kl_10 k1]; exact R) z4 (by omega) (by omega)
      rw [z3] at w1
      refine ⟨m', oF g (ob (a := ()) (m := xcp m 12 10 114) rfl (z1.trans ?_)), kl_t k1 w3⟩
      rw [(o1 (n := i) (by omega)).2.2]
      exact w1
theorem c153n (R : R32 s (m.1 10)) {y1 y2 y3 : Int32} (n : ¬ pHv s y1 y2 y3) : D153_0 F y1 y2 y3 m = some (-1, m) := by
  have l0 : (0 : Int32).toInt = 0 := rfl
  have l1 : (1 : Int32).toInt = 1 := rfl
  have l10 : (10 : Int32).toInt = 10 := rfl
  have l60 : (60 : Int32).toInt = 60 := rfl
  unfold D153_0
  by_cases a : 0 < (s 0).toInt
  · refine ob (c76_9 R) (oF (zeF (decide_eq_true a)) ?_)
    by_cases b1 : y1.toInt < 1
    · exact oT (zcl.trans (decide_eq_true (by omega))) rfl
    refine oF (zcl.trans (decide_eq_false (by omega))) ?_
    by_cases b2 : 10 < y1.toInt
    · exact oT (zcgt.trans (decide_eq_true (by omega))) rfl
    refine oF (zcgt.trans (decide_eq_false (by omega))) ?_
    by_cases b3 : y2.toInt < 1
    · exact oT (zcl.trans (decide_eq_true (by omega))) rfl
    refine oF (zcl.trans (decide_eq_false (by omega))) ?_
    by_cases b4 : 60 < y2.toInt
    · exact oT (zcgt.trans (decide_eq_true (by omega))) rfl
    refine oF (zcgt.trans (decide_eq_false (by omega))) ?_
    by_cases b5 : y3.toInt < 0
    · exact oT (zcl.trans (decide_eq_true (by omega))) rfl
    refine oF (zcl.trans (decide_eq_false (by omega))) (oF (zcle.trans (decide_eq_false ?_)) rfl)
    exact fun z => n ⟨a, by omega, by omega, by omega, by omega⟩
  · exact ob (c76_9 R) (oT (zeT (decide_eq_false a)) rfl)
theorem c153p (hF : 500 ≤ F) (R : R32 s (m.1 10)) (I : vI9 s) (h0 : 0 ≤ (m.1 43 0).toInt) {y1 y2 y3 : Int32} (p : pHv s y1 y2 y3) : ∃ m', D153_0 F y1 y2 y3 m = some (if zcmp .ne y3 0 = true then (htr y1.toInt.toNat y2.toInt.toNat s (m.1 43 0).toInt 0 0).2 else (htr y1.toInt.toNat y2.toInt.toNat s (m.1 43 0).toInt 0 0).1, m') ∧ (∀ i, i ≠ 12 → m'.1 i = m.1 i) ∧ m'.2 = m.2 := by
  obtain ⟨a, b, c, d⟩ := p
  have b1 := y32 (m.1 43 0)
  have l0 : (0 : Int32).toInt = 0 := rfl
  have l1 : (1 : Int32).toInt = 1 := rfl
  have l10 : (10 : Int32).toInt = 10 := rfl
  have l60 : (60 : Int32).toInt = 60 := rfl
  obtain ⟨m', w1, w2⟩ := c153_61 (F := F) hF (v1 := y1) (v2 := y2) (v3 := y3) (v4 := m.1 43 0) (n := y1.toInt.toNat) (d := y2.toInt.toNat) (ofn_i (by omega) (by omega)) (by omega) (ofn_i (by omega) (by omega)) (by omega) I a F (m := m) (i := 0) (p := 0) (l := 0) R ⟨h0, by omega⟩ (by omega) (by omega)
  rw [Nat.sub_zero] at w1
  refine ⟨xu m' 43 0 (m.1 43 0), ?_, fun i hi => funext fun j => ?_, w2.2⟩
  · unfold D153_0
    exact ob (c76_9 R) (oF (zeF (decide_eq_true a)) (oF (zcl.trans (decide_eq_false (by omega))) (oF (zcgt.trans (decide_eq_false (by omega))) (oF (zcl.trans (decide_eq_false (by omega))) (oF (zcgt.trans (decide_eq_false (by omega))) (oF (zcl.trans (decide_eq_false (by omega))) (oT (zcle.trans (decide_eq_true (by omega))) w1)))))))
  · by_cases z : i = 43 ∧ j = 0
    · obtain ⟨e1, e2⟩ := z
      subst e1 e2
      exact xu_s _ _ _ _
    · rw [xu_o z]
      exact w2.1 i j hi z
end PCHW
theorem nHarv {y1 y2 y3 : Int32} : lP MR 153 276 [.int y1, .int y2, .int y3] true := fun hp hI => by
  obtain ⟨x1, x2, z1, z2, a1, a2, a3, a4, a5, a6, a7, -⟩ := e0_27 (y1 := y1) (y2 := y2) (y3 := y3) hp hI.1.1
  have a3 : zCan 20 153 [.ref 0, .int y1, .int y2, .int y3] hp (some (.int x1), z1) := a3
  have a5 : zCan 20 276 [.ref 70, .int y1, .int y2, .int y3] z1 (some (.int x2), z2) := a5
  obtain ⟨x3, w1, b1, b2, b3, -⟩ := eSp (yt1555 yXx.1) (c := 0) (na := 3) (bl := []) (by decide +kernel) hI.1.1.1 (ys := [y1, y2, y3]) rfl (fun s hs => by cases hs)
  have u := zCan_u a3 b1
  cases u
  have R := hI.1.2.1.1
  have I := hI.1.2.1.2
  have H := hI.1.1.1.1
  have hT := xT_of H
  have h43 : (0 : Int) ≤ ((xof hp).1 43 0).toInt := (hT 43 0 (0, 2147483647) rfl).1
  have M6 : (xof hp).1 70 23 = (xof hp).1 43 0 := hI.1.2.2.2.2
  by_cases p : pHv ((xof hp).1 80) y1 y2 y3
  · obtain ⟨m', d1, d2, d3⟩ := c153p (F := 500) (m := xof hp) (Nat.le_refl _) R I h43 p
    have u := Z153_0 H (F := 500) d1 (d := 20) (by decide)
    rw [xW_of] at u
    have u := zCan_u a3 u
    cases u
    have k : kfj 88 (xof hp) m' := ⟨d2, fun i j _ => by rw [d3]⟩
    have w := xrw_of H m'
    have M1 : rMx (xof (xW hp m')) := rMx_w w (kfj_rMx k hI.1.2)
    have U1 : ruI (xW hp m') := kfj_ruI (j := 0) H k hI.2
    have e80 : (xof (xW hp m')).1 80 = (xof hp).1 80 := (w.1 80 0 148 (by decide)).trans (d2 80 (by decide))
    have e23 : (xof (xW hp m')).1 70 23 = (xof hp).1 43 0 := ((w.2 70 11 23 (by decide)).trans (congrFun (d2 70 (by decide)) 23)).trans M6
    obtain ⟨m2, f1, f2⟩ := r276p (F := 500) (m := xof (xW hp m')) (Nat.le_refl _) (by rw [e80]; exact I) (by rw [e23]; exact h43) (by rw [e80]; exact p)
    rw [e80, e23] at f1
    have u := Z276 b2.1 f1 (d := 20) (by decide)
    rw [xW_of] at u
    have u := zCan_u a5 u
    cases u
    exact ⟨_, _, _, _, a1, a2, a3, a4, a5, a6, ⟨⟨a7, rMx_w (xrw_of b2.1 _) (kow_rMx f2 M1)⟩, kow_ruI b2.1 f2 U1⟩, fun _ => rfl⟩
  · have u := Z153_0 H (F := 500) (c153n R p) (d := 20) (by decide)
    rw [xW_of] at u
    have u := zCan_u a3 u
    cases u
    have u := Z276 H (F := 500) (r276n p) (d := 20) (by decide)
    rw [xW_of] at u
    have u := zCan_u a5 u
    cases u
    exact ⟨_, _, _, _, a1, a2, a3, a4, a5, a6, hI, fun _ => rfl⟩
end
