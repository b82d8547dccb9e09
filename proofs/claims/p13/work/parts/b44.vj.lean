/-! The class on its trial: DAY may stand still, OUT goes on. -/
def vJt (D : Int) (s : Nat → Int32) : Prop := ∀ t : Nat, (t : Int) < (s 2).toInt → (0 ≤ (s (10 + 6 * t)).toInt ∧ (s (10 + 6 * t)).toInt < (s 0).toInt) ∧ (0 ≤ (s (10 + 6 * t + 3)).toInt ∧ (s (10 + 6 * t + 3)).toInt < (s 0).toInt) ∧ (s (10 + 6 * t + 3) = s (10 + 6 * t) → s (10 + 6 * t + 4) = 0 ∧ s (10 + 6 * t + 5) = 0) ∧ (0 ≤ (s (10 + 6 * t + 5)).toInt ∧ (s (10 + 6 * t + 5)).toInt ≤ D)
def vJD (D : Int) (s : Nat → Int32) : Prop := vIa s ∧ vJt D s ∧ vIw s ∧ vIh s
theorem J_n6 {D : Int} {s : Nat → Int32} (I : vJD D s) : (s 0).toInt ≤ 6 := I.1.1.2
theorem J_n0 {D : Int} {s : Nat → Int32} (I : vJD D s) : (s 0).toInt = 0 ∨ 2 ≤ (s 0).toInt := I.1.1.1
theorem J_late {D : Int} {s : Nat → Int32} (I : vJD D s) : 0 ≤ (s 1).toInt := I.1.2.1
theorem J_nt {D : Int} {s : Nat → Int32} (I : vJD D s) : 0 ≤ (s 2).toInt ∧ (s 2).toInt ≤ 6 := I.1.2.2.1
theorem J_nw {D : Int} {s : Nat → Int32} (I : vJD D s) : 0 ≤ (s 3).toInt ∧ (s 3).toInt ≤ 6 := I.1.2.2.2.1
theorem J_day {D : Int} {s : Nat → Int32} (I : vJD D s) : 0 ≤ (s 4).toInt ∧ (s 4).toInt ≤ 2000 := I.1.2.2.2.2
theorem vJ_of {s : Nat → Int32} (I : vI s) : vJD (s 4).toInt s := I
def vJo (D : Int) (s : Nat → Int32) (t : Nat) : Prop := (0 ≤ (s (10 + 6 * t)).toInt ∧ (s (10 + 6 * t)).toInt < (s 0).toInt) ∧ (0 ≤ (s (10 + 6 * t + 3)).toInt ∧ (s (10 + 6 * t + 3)).toInt < (s 0).toInt) ∧ (s (10 + 6 * t + 3) = s (10 + 6 * t) → s (10 + 6 * t + 4) = 0 ∧ s (10 + 6 * t + 5) = 0) ∧ (0 ≤ (s (10 + 6 * t + 5)).toInt ∧ (s (10 + 6 * t + 5)).toInt ≤ D)
section PJV
variable {s s' : Nat → Int32} {v : Int32} {D : Int}
theorem J_tool (I : vJD D s) {t0 : Nat} (h : ∀ j, ¬ (10 + 6 * t0 ≤ j ∧ j < 16 + 6 * t0) → ¬ (82 ≤ j ∧ j < 118) → s' j = s j) (t6 : t0 < 6) (hq : vJo D s' t0) (hh : ∀ a d : Nat, a < 6 → d < 6 → 0 ≤ (s' (82 + 6 * a + d)).toInt ∧ (s' (82 + 6 * a + d)).toInt ≤ 99) (hd : ∀ a : Nat, a < 6 → s' (82 + 6 * a + a) = 0) : vJD D s' := by
  have e0 : s' 0 = s 0 := h 0 (by omega) (by omega)
  have e1 : s' 1 = s 1 := h 1 (by omega) (by omega)
  have e2 : s' 2 = s 2 := h 2 (by omega) (by omega)
  have e3 : s' 3 = s 3 := h 3 (by omega) (by omega)
  have e4 : s' 4 = s 4 := h 4 (by omega) (by omega)
  refine ⟨?_, fun t ht => ?_, fun w hw => ?_, fun a ha => ⟨?_, hd a ha⟩, hh⟩
  · unfold vIa
    rw [e0, e1, e2, e3, e4]
    exact I.1
  · by_cases z : t = t0
    · subst z
      exact hq
    · rw [e2] at ht
      have l := J_nt I
      rw [h (10 + 6 * t) (by omega) (by omega), h (10 + 6 * t + 3) (by omega) (by omega), h (10 + 6 * t + 4) (by omega) (by omega), h (10 + 6 * t + 5) (by omega) (by omega), e0]
      exact I.2.1 t ht
  · rw [e3] at hw
    have l := J_nw I
    rw [h (124 + 4 * w) (by omega) (by omega), h (118 + w) (by omega) (by omega), e0]
    exact I.2.2.1 w hw
  · rw [h (46 + 6 * a + a) (by omega) (by omega)]
    exact (I.2.2.2.1 a ha).1
theorem J_gv (I : vJD D s) {t : Nat} (hD : 0 ≤ D) (ht : (t : Int) < (s 2).toInt) (h0 : 0 ≤ v.toInt) (h1 : v.toInt < (s 0).toInt) : vJD D (pgv s t v) := by
  have l := J_nt I
  have dy := J_day I
  refine J_tool I (t0 := t) (fun j z _ => pgv_o z) (by omega) ?_ (fun a d ha hd => ?_) (fun a ha => ?_)
  · unfold vJo
    rw [pgv_0, pgv_3, pgv_4, pgv_5, pgv_o (by omega)]
    exact ⟨⟨h0, h1⟩, ⟨h0, h1⟩, fun _ => ⟨rfl, rfl⟩, Int.le_refl _, hD⟩
  · rw [pgv_o (by omega)]
    exact I.2.2.2.2 a d ha hd
  · rw [pgv_o (by omega)]
    exact (I.2.2.2.1 a ha).2
theorem J_ld (I : vJD D s) {t h : Nat} (ht : (t : Int) < (s 2).toInt) (hh : (h : Int) < (s 0).toInt) (c : pcl s t h = true) : vJD D (pld s t h) := by
  have l := J_nt I
  have n6 := J_n6 I
  obtain ⟨i0, i3, -, i5⟩ := I.2.1 t ht
  obtain ⟨c1, c2, -⟩ := pcl_iff.mp c
  obtain ⟨hol, eh⟩ : ∃ n : Nat, n = (s (10 + 6 * t + 3)).toInt.toNat := ⟨_, rfl⟩
  have eh2 : s (10 + 6 * t + 3) = Int32.ofNat hol := by rw [eh]; exact i32n (by omega)
  have ne : hol ≠ h := fun z => c1 (by rw [eh2, z])
  have eI := nJ (n := h) (by omega)
  refine J_tool I (t0 := t) (fun j z1 z2 => ?_) (by omega) ?_ (fun a d ha hd => ?_) (fun a ha => ?_)
  · rw [pld_o (by omega) (by omega), pth_o (by omega)]
  · unfold vJo
    rw [pld_3, pld_4, pld_o (by omega) (by omega), pld_o (by omega) (by omega), pld_o (by omega) (by omega), ← eh, pth_o (by omega), pth_o (by omega), pth_o (by omega), eI]
    exact ⟨i0, ⟨by omega, hh⟩, fun z => absurd z.symm c2, i5⟩
  · rw [pld_o (by omega) (by omega), ← eh]
    have b := I.2.2.2.2 a d ha hd
    by_cases z : 82 + 6 * a + d = 82 + 6 * h + hol
    · rw [z, pth_s, ← z]
      split
      · have e1 : (s (82 + 6 * a + d) + 1).toInt = (s (82 + 6 * a + d)).toInt + 1 := xa1 (by show _ ≤ _ + (1 : Int); omega) (by show _ + (1 : Int) ≤ _; omega)
        omega
      · exact b
    · rw [pth_o z]
      exact b
  · rw [pld_o (by omega) (by omega), ← eh, pth_o (by omega)]
    exact (I.2.2.2.1 a ha).2
theorem J_wk (I : vJD D s) {w : Nat} (hw : (w : Int) < (s 3).toInt) : vJD D (pwk s w) := by
  have l := J_nw I
  have lt := J_nt I
  have dy := J_day I
  have e : ∀ j, j ≠ 5 → j ≠ 118 + w → pwk s w j = s j := fun j z1 z2 => (cup_o z1).trans (cup_o z2)
  have ew : pwk s w (118 + w) = s 4 := (cup_o (by omega)).trans (cup_s _ _ _)
  refine ⟨?_, fun t ht => ?_, fun u hu => ?_, fun a ha => ?_, fun a d ha hd => ?_⟩
  · unfold vIa
    rw [e 0 (by omega) (by omega), e 1 (by omega) (by omega), e 2 (by omega) (by omega), e 3 (by omega) (by omega), e 4 (by omega) (by omega)]
    exact I.1
  · rw [e 2 (by omega) (by omega)] at ht
    rw [e 0 (by omega) (by omega), e _ (by omega) (by omega), e _ (by omega) (by omega), e _ (by omega) (by omega), e _ (by omega) (by omega)]
    exact I.2.1 t ht
  · rw [e 3 (by omega) (by omega)] at hu
    rw [e 0 (by omega) (by omega), e (124 + 4 * u) (by omega) (by omega)]
    refine ⟨(I.2.2.1 u hu).1, ?_⟩
    by_cases z : u = w
    · subst z
      rw [ew]
      omega
    · rw [e _ (by omega) (by omega)]
      exact (I.2.2.1 u hu).2
  · rw [e _ (by omega) (by omega), e _ (by omega) (by omega)]
    exact I.2.2.2.1 a ha
  · rw [e _ (by omega) (by omega)]
    exact I.2.2.2.2 a d ha hd
end PJV
section PJR
variable {s c : Nat → Int32} {v : Int32} {D : Int}
theorem R_thj (R : R32 s c) (I : vJD D s) {a d : Nat} (ha : a < 6) (hd : d < 6) : R32 (pth s (82 + 6 * a + d)) (cup c (78 + 6 * a + d) (if s (82 + 6 * a + d) + 1 < 99 then s (82 + 6 * a + d) + 1 else 99)) := by
  have b := I.2.2.2.2 a d ha hd
  have e1 : (s (82 + 6 * a + d) + 1).toInt = (s (82 + 6 * a + d)).toInt + 1 := xa1 (by show _ ≤ _ + (1 : Int); omega) (by show _ + (1 : Int) ≤ _; omega)
  unfold pth
  by_cases l : (s (82 + 6 * a + d)).toInt < 99
  · rw [if_pos l]
    have e : (if s (82 + 6 * a + d) + 1 < 99 then s (82 + 6 * a + d) + 1 else 99) = s (82 + 6 * a + d) + 1 := by
      by_cases z : s (82 + 6 * a + d) + 1 < 99
      · rw [if_pos z]
      · rw [if_neg z]
        apply Int32.toInt_inj.mp
        have z : ¬ (s (82 + 6 * a + d) + 1).toInt < (99 : Int) := fun y => z (Int32.lt_iff_toInt_lt.mpr y)
        show (99 : Int) = _
        omega
    rw [e]
    exact R_uh R ha hd
  · rw [if_neg l]
    have z : ¬ s (82 + 6 * a + d) + 1 < 99 := fun y => by
      have y : (s (82 + 6 * a + d) + 1).toInt < (99 : Int) := Int32.lt_iff_toInt_lt.mp y
      omega
    rw [if_neg z, cup_id]
    · exact R
    · rw [R_h R ha hd]
      apply Int32.toInt_inj.mp
      show _ = (99 : Int)
      omega
end PJR
section PJG
variable {s : Nat → Int32} {m : xS} {F : Nat} {D : Int}
theorem c98_11tj (R : R32 s (m.1 12)) (I : vJD D s) {t : Nat} {v1 : Int32} (h1 : v1 = Int32.ofNat t) (ht : (t : Int) < (s 2).toInt) : D98_11t F v1 m = some (prs s t, m) := by
  have t6 : t < 6 := by have := J_nt I; omega
  unfold D98_11t
  refine ob (c87_11t R h1 (w := 5) rfl t6 (by decide)) (ob (c78_11t R) ?_)
  refine congrArg (fun z => some (z, m)) ?_
  dsimp only
  unfold prs
  rw [mx0]
  by_cases hm : phm s t = true
  · have z := (I.2.1 t ht).2.2.1 (eq_of_beq hm)
    have l0 := J_late I
    rw [if_pos (Or.inl hm), z.2]
    by_cases l : ((0 : Int32) - s 1).toInt < 0
    · rw [if_pos l]
    · rw [if_neg l]
      have e : ((0 : Int32) - s 1).toInt = 0 - (s 1).toInt := xs1 (by show _ ≤ (0 : Int) - _; have := y32 (s 1); omega) (by show (0 : Int) - _ ≤ _; omega)
      exact Int32.toInt_inj.mp (by show _ = (0 : Int); omega)
  · by_cases l : (s (10 + 6 * t + 5) - s 1).toInt < 0
    · rw [if_pos (Or.inr l), if_pos l]
    · rw [if_neg (fun z => Or.elim z hm l), if_neg l]
theorem c100_14_11tj (R : R32 s (m.1 12)) (I : vJD D s) {t : Nat} {v1 v2 : Int32} (h1 : v1 = Int32.ofNat t) (ht : (t : Int) < (s 2).toInt) : D100_11t_14 F v1 v2 m = some (psh0 s t v2, m) := by
  have t6 : t < 6 := by have := J_nt I; omega
  unfold D100_11t_14
  refine ob (c87_11t R h1 (w := 2) rfl t6 (by decide)) (ob (c87_11t R h1 (w := 4) rfl t6 (by decide)) (ob (c98_11tj R I h1 ht) ?_))
  refine congrArg (fun z => some (z, m)) ?_
  dsimp only
  unfold psh0
  generalize s (10 + 6 * t + 2) + s (10 + 6 * t + 4) + v2 - prs s t = x
  rw [mx0]
theorem c100_11tj (R : R32 s (m.1 12)) (I : vJD D s) {t : Nat} {v1 v2 : Int32} (h1 : v1 = Int32.ofNat t) (ht : (t : Int) < (s 2).toInt) : D100_11t F v1 v2 m = some (psh s t v2, m) := by
  have t6 : t < 6 := by have := J_nt I; omega
  unfold D100_11t psh
  refine oi (p := !(v2 == 0)) zcn (fun h => ?_) (fun h => ?_)
  · have h : ¬ v2 = 0 := by simpa using h
    rw [if_neg (fun z => h z.1)]
    exact c100_14_11tj R I h1 ht
  · have h : v2 = 0 := by simpa using h
    refine ob (c97_11t R h1 t6) (oi (p := !phm s t) pB1 (fun h2 => ?_) (fun h2 => ?_))
    · have h2 : phm s t = false := by simpa using h2
      rw [if_neg (fun z => by rw [h2] at z; cases z.2)]
      exact c100_14_11tj R I h1 ht
    · have h2 : phm s t = true := by simpa using h2
      rw [if_pos ⟨h, h2⟩]
theorem c99_11tj (R : R32 s (m.1 12)) (I : vJD D s) {t : Nat} {v1 : Int32} (h1 : v1 = Int32.ofNat t) (ht : (t : Int) < (s 2).toInt) : D99_11t F v1 m = some (psh s t 0, m) := by
  unfold D99_11t
  exact ob (c100_11tj R I h1 ht) rfl
theorem c106_11tj (R : R32 s (m.1 12)) (I : vJD D s) {w : Nat} {v1 : Int32} (h1 : v1 = Int32.ofNat w) (hw : (w : Int) < (s 3).toInt) : D106_11t F v1 m = some (pB (pdn s w), m) := by
  have w6 : w < 6 := by have := (J_nw I); omega
  have l := (I.2.2.1 w hw).2
  unfold D106_11t
  refine ob (c89d_11t R h1 w6 hw) (oi (p := s (118 + w) == -1) zce (fun h => ?_) (fun h => ?_))
  · have h : s (118 + w) = -1 := by simpa using h
    rw [show pdn s w = false by unfold pdn; rw [h]; decide]
    rfl
  · have h : ¬ s (118 + w) = -1 := by simpa using h
    have : (s (118 + w)).toInt ≠ -1 := fun z => h (Int32.toInt_inj.mp z)
    rw [show pdn s w = true by unfold pdn; exact decide_eq_true (by omega)]
    rfl
theorem c107_12_11tj (R : R32 s (m.1 12)) (I : vJD D s) {w : Nat} {v1 : Int32} (h1 : v1 = Int32.ofNat w) (hw : (w : Int) < (s 3).toInt) : ∀ (f : Nat) {t : Nat}, (t : Int) ≤ (s 2).toInt → 6 - t < f → D107_11t_12 F f v1 (Int32.ofNat t) m = some (pB ((List.range' t ((s 2).toInt.toNat - t)).any (pfit s w)), m) := by
  have w6 : w < 6 := by have := (J_nw I); omega
  have n6 := J_nt I
  intro f
  induction f with
  | zero => intro t _ l; omega
  | succ f ih =>
    intro t ht l
    have et := nJ (n := t) (by omega)
    unfold D107_11t_12
    refine ob (c79_11t R) (oi (p := decide ((s 2).toInt ≤ (Int32.ofNat t).toInt)) zc (fun h => ?_) (fun h => ?_))
    · have h := of_decide_eq_true h
      rw [show (s 2).toInt.toNat - t = 0 by omega]
      rfl
    · have h := of_decide_eq_false h
      have t2 : (t : Int) < (s 2).toInt := by omega
      have next : D107_11t_66 F (D107_11t_12 F f) v1 (Int32.ofNat t) m = some (pB ((List.range' (t + 1) ((s 2).toInt.toNat - (t + 1))).any (pfit s w)), m) := by
        unfold D107_11t_66
        rw [show Int32.ofNat t + Int32.ofInt 1 = Int32.ofNat (t + 1) from xadd (a := t) (b := 1) (by omega)]
        exact ih (by omega) (by omega)
      rw [show (s 2).toInt.toNat - t = ((s 2).toInt.toNat - (t + 1)) + 1 by omega, List.range'_succ, List.any_cons]
      refine ob (c87_11t R (t := t) (w := 1) rfl rfl (by omega) (by decide)) (ob (c89_11t R h1 (k := 1) rfl w6 (by decide)) (oi (p := !(s (10 + 6 * t + 1) == s (124 + 4 * w + 1))) zcn (fun a => ?_) (fun a => ?_)))
      · rw [show pfit s w t = false by unfold pfit; rw [show (s (10 + 6 * t + 1) == s (124 + 4 * w + 1)) = false by simpa using a, Bool.false_and], Bool.false_or]
        exact next
      have a : (s (10 + 6 * t + 1) == s (124 + 4 * w + 1)) = true := by simpa using a
      refine ob (c87_11t R (t := t) (w := 3) rfl rfl (by omega) (by decide)) (ob (c89_11t R h1 (k := 0) rfl w6 (by decide)) (oi (p := !(s (10 + 6 * t + 3) == s (124 + 4 * w))) zcn (fun b => ?_) (fun b => ?_)))
      · rw [show pfit s w t = false by unfold pfit; rw [show (s (10 + 6 * t + 3) == s (124 + 4 * w)) = false by simpa using b, Bool.false_and, Bool.and_false], Bool.false_or]
        exact next
      have b : (s (10 + 6 * t + 3) == s (124 + 4 * w)) = true := by simpa using b
      refine ob (c99_11tj R I (t := t) rfl t2) (ob (c89_11t R h1 (k := 2) rfl w6 (by decide)) (oi (p := decide ((psh s t 0).toInt < (s (124 + 4 * w + 2)).toInt)) zcl (fun g => ?_) (fun g => ?_)))
      · have g := of_decide_eq_true g
        rw [show pfit s w t = false by unfold pfit; rw [a, b, decide_eq_false (by omega)]; rfl, Bool.false_or]
        exact next
      · have g := of_decide_eq_false g
        rw [show pfit s w t = true by unfold pfit; rw [a, b, decide_eq_true (by omega)]; rfl, Bool.true_or]
        rfl
theorem c107_11tj (hF : 500 ≤ F) (R : R32 s (m.1 12)) (I : vJD D s) {w : Nat} {v1 : Int32} (h1 : v1 = Int32.ofNat w) (hw : (w : Int) < (s 3).toInt) : D107_11t F v1 m = some (pB (pcd s w), m) := by
  have n6 := J_nt I
  unfold D107_11t pcd
  refine ob (c106_11tj R I h1 hw) (oi (p := !pdn s w) pB1 (fun h => ?_) (fun h => ?_))
  · have z := c107_12_11tj (F := F) R I h1 hw F (t := 0) (by omega) (by omega)
    rw [Nat.sub_zero, ← List.range_eq_range'] at z
    rw [h, Bool.true_and]
    exact z
  · rw [h, Bool.false_and]
    rfl
theorem c92uj (R : R32 s (m.1 12)) {a d : Nat} {v1 v2 : Int32} (h1 : v1 = Int32.ofNat a) (h2 : v2 = Int32.ofNat d) (ha : a < 6) (hd : d < 6) : D92_11t F v1 v2 m = some (pB (ptr s a d), m) := by
  subst h2
  unfold D92_11t
  refine ob (c91_11t R h1 ha) (oi (p := !ptr s a d) ?_ (fun h => ?_) (fun h => ?_))
  · rw [tbu hd, R_tr R ha hd]
  · rw [show ptr s a d = false by simpa using h]
    rfl
  · rw [show ptr s a d = true by simpa using h]
    rfl
theorem c101uj (R : R32 s (m.1 12)) (I : vJD D s) {t h : Nat} {v1 v2 : Int32} (h1 : v1 = Int32.ofNat t) (h2 : v2 = Int32.ofNat h) (ht : (t : Int) < (s 2).toInt) (hh : h < 6) : D101_11t F v1 v2 m = some (pB (pcl s t h), m) := by
  have t6 : t < 6 := by have := J_nt I; omega
  have it := I.2.1 t ht
  have n6 := J_n6 I
  have eh : s (10 + 6 * t + 3) = Int32.ofNat (s (10 + 6 * t + 3)).toInt.toNat := i32n (by omega)
  subst h2
  unfold D101_11t D101_11t_28
  refine ob (c87_11t R h1 (w := 0) rfl t6 (by decide)) (oi (p := Int32.ofNat h == s (10 + 6 * t)) zce (fun a => ?_) (fun a => ?_))
  · have a : Int32.ofNat h = s (10 + 6 * t) := by simpa using a
    rw [show pcl s t h = false by unfold pcl; rw [← a]; simp]
    rfl
  have a : ¬ Int32.ofNat h = s (10 + 6 * t) := by simpa using a
  have a2 : (s (10 + 6 * t) == Int32.ofNat h) = false := by
    simp only [beq_eq_false_iff_ne]
    exact fun z => a z.symm
  refine ob (c87_11t R h1 (w := 3) rfl t6 (by decide)) (ob (c92uj R (a := (s (10 + 6 * t + 3)).toInt.toNat) eh rfl (by omega) hh) (oi (p := !ptr s (s (10 + 6 * t + 3)).toInt.toNat h) pB1 (fun b => ?_) (fun b => ?_)))
  · have b : ptr s (s (10 + 6 * t + 3)).toInt.toNat h = false := by simpa using b
    rw [show pcl s t h = false by unfold pcl; rw [b]; simp]
    rfl
  · have b : ptr s (s (10 + 6 * t + 3)).toInt.toNat h = true := by simpa using b
    have ne : (s (10 + 6 * t + 3) == Int32.ofNat h) = false := by
      simp only [beq_eq_false_iff_ne]
      intro z
      have dg := (I.2.2.2.1 h hh).1
      rw [z, nJ (by omega), Int.toNat_natCast] at b
      unfold ptr at b
      rw [dg] at b
      exact absurd b (by decide)
    rw [show pcl s t h = true by unfold pcl; rw [b, ne, a2]; rfl]
    rfl
theorem a102j (R : R32 s (m.1 12)) (I : vJD D s) {t h : Nat} {v1 v2 : Int32} (h1 : v1 = Int32.ofNat t) (h2 : v2 = Int32.ofNat h) (ht : (t : Int) < (s 2).toInt) (hh : h < 6) : ∃ c', D102_11t F v1 v2 m = some ((), xr m 12 c') ∧ R32 (pld s t h) c' := by
  have t6 : t < 6 := by have := J_nt I; omega
  have it := I.2.1 t ht
  have n6 := J_n6 I
  obtain ⟨hol, eh⟩ : ∃ n : Nat, n = (s (10 + 6 * t + 3)).toInt.toNat := ⟨_, rfl⟩
  have eh2 : s (10 + 6 * t + 3) = Int32.ofNat hol := i32n (by omega)
  have R1 := R_thj R I hh (d := hol) (by omega)
  have e4 : pth s (82 + 6 * h + hol) (10 + 6 * t + 4) = s (10 + 6 * t + 4) := pth_o (by omega)
  have R2 := R_ut (v := s (10 + 6 * t + 4) + 1) R1 t6 (w := 4) (by decide)
  have R3 := R_ut (v := v2) R2 t6 (w := 3) (by decide)
  refine ⟨_, ?_, (by unfold pld; rw [← eh, ← h2]; exact R3)⟩
  unfold D102_11t
  refine ob (c87_11t R h1 (w := 3) rfl t6 (by decide)) (ob (c94_11t R h2 eh2 hh (by omega)) (ob (a75_11t h2 eh2 hh (by omega)) (ob (c87_11t (s := pth s (82 + 6 * h + hol)) (by rw [xr_s]; exact R1) h1 (w := 4) rfl t6 (by decide)) (ob (a88_11t h1 (w := 4) rfl t6 (by decide)) (ob (a88_11t h1 (w := 3) rfl t6 (by decide)) ?_)))))
  simp only [xr_s, xr_xr, e4]
theorem a112cj : ∀ (f : Nat) {t : Nat} {s' : Nat → Int32} {m : xS}, R32 s' (m.1 12) → s' 2 = s 2 → s' 4 = s 4 → (t : Int) ≤ (s 2).toInt → (s 2).toInt ≤ 6 → 6 - t < f → ∃ c', D112_11t_2 F f (Int32.ofNat t) m = some ((), xr m 12 c') ∧ R32 (cup (pous s' t ((s 2).toInt.toNat - t)) 4 (if s 4 + 1 < 999 then s 4 + 1 else 999)) c' := by
  intro f
  induction f with
  | zero => intro t s' m _ _ _ _ _ l; omega
  | succ f ih =>
    intro t s' m R e2 e4 ht n6 l
    have et := nJ (n := t) (by omega)
    unfold D112_11t_2
    by_cases h : (s 2).toInt ≤ (t : Int)
    · rw [show (s 2).toInt.toNat - t = 0 by omega]
      have R1 := R_uj (v := if s 4 + 1 < 999 then s 4 + 1 else 999) R (j := 4) (by decide) (by decide)
      refine ⟨_, ob (c79_11t R) (oi (p := true) (by rw [zc]; exact decide_eq_true (by dsimp only; rw [e2]; omega)) (fun _ => ob (c81_11t R) ?_) (fun z => by cases z)), R1⟩
      dsimp only
      rw [e4, xu_xr]
    · have t6 : t < 6 := by omega
      rw [show (s 2).toInt.toNat - t = ((s 2).toInt.toNat - (t + 1)) + 1 by omega]
      show ∃ c', _ ∧ R32 (cup (pous (pou s' t) (t + 1) ((s 2).toInt.toNat - (t + 1))) 4 (if s 4 + 1 < 999 then s 4 + 1 else 999)) c'
      have next : ∀ {m' : xS}, R32 (pou s' t) (m'.1 12) → ∃ c', D112_11t_32 F (D112_11t_2 F f) (Int32.ofNat t) m' = some ((), xr m' 12 c') ∧ R32 (cup (pous (pou s' t) (t + 1) ((s 2).toInt.toNat - (t + 1))) 4 (if s 4 + 1 < 999 then s 4 + 1 else 999)) c' := fun {m'} R' => by
        unfold D112_11t_32
        rw [show Int32.ofNat t + Int32.ofInt 1 = Int32.ofNat (t + 1) from xadd (a := t) (b := 1) (by omega)]
        exact ih R' (by rw [pou_o (by omega)]; exact e2) (by rw [pou_o (by omega)]; exact e4) (by omega) n6 (by omega)
      have R1 := pou_R R t6
      by_cases hm : phm s' t = true
      · rw [if_pos hm] at R1
        obtain ⟨c', k1, k2⟩ := next R1
        refine ⟨c', ob (c79_11t R) (oi (p := false) (by rw [zc]; exact decide_eq_false (by dsimp only; rw [e2]; omega)) (fun z => by cases z) (fun _ => ob (c97_11t R rfl t6) (oi (p := true) (by rw [pB2]; exact hm) (fun _ => k1) (fun z => by cases z)))), k2⟩
      · rw [if_neg hm] at R1
        obtain ⟨c', k1, k2⟩ := next (m' := xr m 12 (cup (m.1 12) (6 + 6 * 5 + t) (s' (10 + 6 * t + 5) + 1))) (by rw [xr_s]; exact R1)
        rw [xr_xr] at k1
        refine ⟨c', ob (c79_11t R) (oi (p := false) (by rw [zc]; exact decide_eq_false (by dsimp only; rw [e2]; omega)) (fun z => by cases z) (fun _ => ob (c97_11t R rfl t6) (oi (p := false) (by rw [pB2]; simpa using hm) (fun z => by cases z) (fun _ => ob (c87_11t R rfl (w := 5) rfl t6 (by decide)) (ob (a88_11t rfl (w := 5) rfl t6 (by decide)) k1))))), k2⟩
end PJG
/-- the class's trial and a stack alone have changed -/
def kfj (r0 : Nat) (m m' : xS) : Prop := (∀ i, i ≠ 12 → m'.1 i = m.1 i) ∧ ∀ i j, i ≠ r0 + 2 → m'.2 i j = m.2 i j
theorem kf_rj (r0 : Nat) (m : xS) : kfj r0 m m := ⟨fun _ _ => rfl, fun _ _ _ => rfl⟩
theorem kf_tj {r0 : Nat} {a b c : xS} (h1 : kfj r0 a b) (h2 : kfj r0 b c) : kfj r0 a c := ⟨fun i h => (h2.1 i h).trans (h1.1 i h), fun i j h => (h2.2 i j h).trans (h1.2 i j h)⟩
theorem kf_xj {r0 : Nat} {m : xS} {c : Nat → Int32} : kfj r0 m (xr m 12 c) := ⟨fun _ h => xr_o h, fun _ _ _ => rfl⟩
theorem stp_fj {r0 : Nat} {m m' : xS} {xs : List Int} (h88 : 88 ≤ r0) (k : kfj r0 m m') (h : stp m r0 xs) : stp m' r0 xs := fun j x hj => by
  rw [k.1 (r0 + 1) (by omega)]
  exact h j x hj
section PJD
variable {s : Nat → Int32} {sm : (Nat → Int32) → Nat → Nat → Int64} {D : Int}
theorem ldt_Ij (I : vJD D s) {t : Nat} {b : Int32} (ht : (t : Int) < (s 2).toInt) (h : okb s t b) : vJD D (ldt s t b) := by
  have n6 := J_n6 I
  unfold ldt
  rcases h with h | ⟨k, rfl, h1, h2⟩
  · rw [if_pos h]
    exact I
  · have ek := nJ (n := k) (by omega)
    rw [if_neg (fun z => by
      have z := congrArg Int32.toInt z
      rw [ek] at z
      have e1 : (-1 : Int32).toInt = -1 := rfl
      omega), ek, Int.toNat_natCast]
    exact J_ld I ht h1 h2
theorem lnd1_okj {t : Nat} (I : vJD D s) : okb s t (lbh s (sm s t) t 0 (s 0).toInt.toNat (-1, 0)).1 := lbh_ok _ 0 (by have := J_n0 I; omega) (Or.inl rfl)
theorem lall_Ij : ∀ (n : Nat) {s : Nat → Int32} {t : Nat}, vJD D s → ((t + n : Nat) : Int) ≤ (s 2).toInt → vJD D (lall sm t n s)
  | 0, _, _, I, _ => I
  | n + 1, s, t, I, l => by
    show vJD D (lall sm (t + 1) n (lnd1 sm s t))
    refine lall_Ij n (ldt_Ij I (by omega) (lnd1_okj I)) ?_
    show _ ≤ (ldt s t _ 2).toInt
    rw [ldt_k (by decide)]
    omega
theorem fwk_Ij : ∀ (n : Nat) {s : Nat → Int32} {w : Nat}, vJD D s → ((w + n : Nat) : Int) ≤ (s 3).toInt → vJD D (fwk w n s)
  | 0, _, _, I, _ => I
  | n + 1, s, w, I, l => by
    show vJD D (fwk (w + 1) n (if pcd s w = true then pwk s w else s))
    by_cases z : pcd s w = true
    · rw [if_pos z]
      refine fwk_Ij n (J_wk I (by omega)) ?_
      rw [pwk_k (by decide)]
      omega
    · rw [if_neg z]
      exact fwk_Ij n I (by omega)
end PJD
section PJS
variable {s : Nat → Int32} {m : xS} {F : Nat} {D : Int}
theorem c114_6j (R : R32 s (m.1 12)) (I : vJD D s) {t h x : Nat} {v4 : Int32} {g : Bool} (hg : zcmp .eq v4 0 = !g) (ht : (t : Int) < (s 2).toInt) (hx : x < 4) : ∀ (f : Nat) {k : Nat} {v : Int32}, (k : Int) ≤ (s 3).toInt → 7 - k < f → D114_11t_6 F f (Int32.ofNat t) (Int32.ofNat h) (Int32.ofNat x) v4 v (Int32.ofNat k) m = some (wnt s t h x g k ((s 3).toInt.toNat - k) v, m) := by
  have n6 := J_nw I
  have t6 : t < 6 := by have := J_nt I; omega
  intro f
  induction f with
  | zero => intro k v _ l; omega
  | succ f ih =>
    intro k v hk l
    have ek := nJ (n := k) (by omega)
    unfold D114_11t_6
    refine ob (c80_11t R) (oi (p := decide ((s 3).toInt ≤ (Int32.ofNat k).toInt)) zc (fun q => ?_) (fun q => ?_))
    · have q := of_decide_eq_true q
      rw [show (s 3).toInt.toNat - k = 0 by omega]
      rfl
    · have q := of_decide_eq_false q
      have k6 : k < 6 := by omega
      have kw : (k : Int) < (s 3).toInt := by omega
      rw [show (s 3).toInt.toNat - k = ((s 3).toInt.toNat - (k + 1)) + 1 by omega]
      have nx : Int32.ofNat k + Int32.ofInt 1 = Int32.ofNat (k + 1) := xadd (a := k) (b := 1) (by omega)
      have skip : ∀ {v' : Int32}, D114_11t_84 F (D114_11t_6 F f) (Int32.ofNat t) (Int32.ofNat h) (Int32.ofNat x) v4 v' (Int32.ofNat k) m = some (wnt s t h x g (k + 1) ((s 3).toInt.toNat - (k + 1)) v', m) := fun {v'} => by
        unfold D114_11t_84
        rw [nx]
        exact ih (by omega) (by omega)
      show _ = some (wnt s t h x g (k + 1) ((s 3).toInt.toNat - (k + 1)) (if wsel s t h k = true then _ else v), m)
      refine ob (c89_11t R (w := k) (k := 0) rfl rfl k6 (by decide)) (oi (p := !(s (124 + 4 * k + 0) == Int32.ofNat h)) zcn (fun a => ?_) (fun a => ?_))
      · have a : (s (124 + 4 * k) == Int32.ofNat h) = false := by simpa using a
        rw [show wsel s t h k = false by unfold wsel; rw [a, Bool.false_and], if_neg (by decide)]
        exact skip
      have a : (s (124 + 4 * k) == Int32.ofNat h) = true := by simpa using a
      have ln := (I.2.2.1 k kw).2
      refine ob (c89d_11t R (w := k) rfl k6 kw) (oi (p := pdn s k) ((zcni (y := -1) rfl).trans ?_) (fun b => ?_) (fun b => ?_))
      · unfold pdn
        by_cases z : (s (118 + k)).toInt = -1
        · rw [decide_eq_true z, decide_eq_false (by omega)]
          rfl
        · rw [decide_eq_false z, decide_eq_true (by omega)]
          rfl
      · rw [show wsel s t h k = false by unfold wsel; rw [b]; simp, if_neg (by decide)]
        exact skip
      refine ob (c89_11t R (w := k) (k := 1) rfl rfl k6 (by decide)) (ob (c87_11t R (t := t) (w := 1) rfl rfl t6 (by decide)) (oi (p := !(s (124 + 4 * k + 1) == s (10 + 6 * t + 1))) zcn (fun c => ?_) (fun c => ?_)))
      · have c : (s (124 + 4 * k + 1) == s (10 + 6 * t + 1)) = false := by simpa using c
        rw [show wsel s t h k = false by unfold wsel; rw [c]; simp, if_neg (by decide)]
        exact skip
      have c : (s (124 + 4 * k + 1) == s (10 + 6 * t + 1)) = true := by simpa using c
      rw [show wsel s t h k = true by unfold wsel; rw [a, b, c]; rfl, if_pos rfl]
      refine ob (c89_11t R (w := k) (k := x) rfl rfl k6 hx) (oi (p := !g) hg (fun e => ?_) (fun e => ?_))
      · rw [show g = false by simpa using e, if_neg (by decide)]
        unfold D114_11t_82
        rw [show g = false by simpa using e] at skip
        exact skip
      · rw [show g = true by simpa using e, if_pos rfl]
        unfold D114_11t_82
        rw [show g = true by simpa using e] at skip
        exact skip
theorem c114j (hF : 500 ≤ F) (R : R32 s (m.1 12)) (I : vJD D s) {t h x : Nat} {v4 : Int32} {g : Bool} (hg : zcmp .eq v4 0 = !g) (ht : (t : Int) < (s 2).toInt) (hx : x < 4) : D114_11t F (Int32.ofNat t) (Int32.ofNat h) (Int32.ofNat x) v4 m = some (wnt s t h x g 0 (s 3).toInt.toNat 0, m) := by
  have n6 := J_nw I
  have z := c114_6j (F := F) R I hg ht hx F (h := h) (k := 0) (v := 0) (by omega) (by omega)
  rw [Nat.sub_zero] at z
  unfold D114_11t
  exact z
theorem c31j (hF : 500 ≤ F) (R : R32 s (m.1 12)) (I : vJD D s) {t h i : Nat} (ht : (t : Int) < (s 2).toInt) (hh : h < 6) (hi : i < 20) : D31_11t F (Int32.ofNat i) (Int32.ofNat t) (Int32.ofNat h) m = some (wrd s t h i, m) := by
  have t6 : t < 6 := by have := J_nt I; omega
  have it := I.2.1 t ht
  have n6 := J_n6 I
  have eh : s (10 + 6 * t + 3) = Int32.ofNat (s (10 + 6 * t + 3)).toInt.toNat := i32n (by omega)
  have lh : (s (10 + 6 * t + 3)).toInt.toNat < 6 := by omega
  have k : ∀ {w : Nat}, w < 6 → D87_11t F (Int32.ofNat t) (Int32.ofNat w) m = some (s (10 + 6 * t + w), m) := fun hw => c87_11t R rfl rfl t6 hw
  have tr : ((D92_11t F (Int32.ofNat h) (s (10 + 6 * t + 3)) m).bind fun q149 => if zcmp .eq q149.1 0 = true then some ((0 : Int32), q149.2) else some (1, q149.2)) = some ((if ptr s h (s (10 + 6 * t + 3)).toInt.toNat = true then (1 : Int32) else 0), m) := ob (c92uj R rfl eh hh lh) (oi (p := !ptr s h (s (10 + 6 * t + 3)).toInt.toNat) pB1 (fun z => by
    rw [if_neg (by simpa using z)]) (fun z => by
    rw [if_pos (by simpa using z)]))
  unfold D31_11t
  refine ob (k (w := 3) (by decide)) ?_
  match i, hi with
  | 0, _ => exact oT (by decide) (rfl)
  | 1, _ => exact oF (by decide) (oT (by decide) (ob (k (w := 1) (by decide)) rfl))
  | 2, _ => exact oF (by decide) (oF (by decide) (oT (by decide) (ob (k (w := 0) (by decide)) rfl)))
  | 3, _ => exact oF (by decide) (oF (by decide) (oF (by decide) (oT (by decide) (rfl))))
  | 4, _ => exact oF (by decide) (oF (by decide) (oF (by decide) (oF (by decide) (oT (by decide) (rfl)))))
  | 5, _ => exact oF (by decide) (oF (by decide) (oF (by decide) (oF (by decide) (oF (by decide) (oT (by decide) (ob (k (w := 4) (by decide)) rfl))))))
  | 6, _ => exact oF (by decide) (oF (by decide) (oF (by decide) (oF (by decide) (oF (by decide) (oF (by decide) (oT (by decide) (ob (c100_11tj R I rfl ht) rfl)))))))
  | 7, _ => exact oF (by decide) (oF (by decide) (oF (by decide) (oF (by decide) (oF (by decide) (oF (by decide) (oF (by decide) (oT (by decide) (ob (k (w := 5) (by decide)) rfl))))))))
  | 8, _ => exact oF (by decide) (oF (by decide) (oF (by decide) (oF (by decide) (oF (by decide) (oF (by decide) (oF (by decide) (oF (by decide) (oT (by decide) (ob (c81_11t R) rfl)))))))))
  | 9, _ => exact oF (by decide) (oF (by decide) (oF (by decide) (oF (by decide) (oF (by decide) (oF (by decide) (oF (by decide) (oF (by decide) (oF (by decide) (oT (by decide) (ob (c114j hF R I (x := 2) (g := true) (by decide) ht (by decide)) rfl))))))))))
  | 10, _ => exact oF (by decide) (oF (by decide) (oF (by decide) (oF (by decide) (oF (by decide) (oF (by decide) (oF (by decide) (oF (by decide) (oF (by decide) (oF (by decide) (oT (by decide) (ob (c114j hF R I (x := 3) (g := false) (by decide) ht (by decide)) rfl)))))))))))
  | 11, _ => exact oF (by decide) (oF (by decide) (oF (by decide) (oF (by decide) (oF (by decide) (oF (by decide) (oF (by decide) (oF (by decide) (oF (by decide) (oF (by decide) (oF (by decide) (oT (by decide) (ob (c94_11t R rfl eh hh lh) rfl))))))))))))
  | 12, _ => exact oF (by decide) (oF (by decide) (oF (by decide) (oF (by decide) (oF (by decide) (oF (by decide) (oF (by decide) (oF (by decide) (oF (by decide) (oF (by decide) (oF (by decide) (oF (by decide) (tr))))))))))))
  | 13, _ => exact oF (by decide) (oF (by decide) (oF (by decide) (oF (by decide) (oF (by decide) (oF (by decide) (oF (by decide) (oF (by decide) (oF (by decide) (oF (by decide) (oF (by decide) (oF (by decide) (tr))))))))))))
  | 14, _ => exact oF (by decide) (oF (by decide) (oF (by decide) (oF (by decide) (oF (by decide) (oF (by decide) (oF (by decide) (oF (by decide) (oF (by decide) (oF (by decide) (oF (by decide) (oF (by decide) (tr))))))))))))
  | 15, _ => exact oF (by decide) (oF (by decide) (oF (by decide) (oF (by decide) (oF (by decide) (oF (by decide) (oF (by decide) (oF (by decide) (oF (by decide) (oF (by decide) (oF (by decide) (oF (by decide) (tr))))))))))))
  | 16, _ => exact oF (by decide) (oF (by decide) (oF (by decide) (oF (by decide) (oF (by decide) (oF (by decide) (oF (by decide) (oF (by decide) (oF (by decide) (oF (by decide) (oF (by decide) (oF (by decide) (tr))))))))))))
  | 17, _ => exact oF (by decide) (oF (by decide) (oF (by decide) (oF (by decide) (oF (by decide) (oF (by decide) (oF (by decide) (oF (by decide) (oF (by decide) (oF (by decide) (oF (by decide) (oF (by decide) (tr))))))))))))
  | 18, _ => exact oF (by decide) (oF (by decide) (oF (by decide) (oF (by decide) (oF (by decide) (oF (by decide) (oF (by decide) (oF (by decide) (oF (by decide) (oF (by decide) (oF (by decide) (oF (by decide) (tr))))))))))))
  | 19, _ => exact oF (by decide) (oF (by decide) (oF (by decide) (oF (by decide) (oF (by decide) (oF (by decide) (oF (by decide) (oF (by decide) (oF (by decide) (oF (by decide) (oF (by decide) (oF (by decide) (tr))))))))))))
  | i + 20, z => omega
/-- sumFor: its loop -/
theorem c28_6j (hF : 500 ≤ F) {r0 nn : Nat} (hn : nn ≤ 400) (I : vJD D s) {t h : Nat} (ht : (t : Int) < (s 2).toInt) (hh : h < 6) : ∀ (f : Nat) {m : xS} {p : Nat} {xs : List Int} {st : List Int64}, R32 s (m.1 12) → p + xs.length = nn → xs.length < f → (∀ (j : Nat) (x : Int), xs[j]? = some x → (m.1 (r0 + 1) (p + j)).toInt = x) → sC m (r0 + 2) st → st.length ≤ 64 → cgd (wrl s t h) xs st → ∃ M : Nat → Nat → Int64, D28_R_11t_6 F r0 nn f (Int32.ofNat t) (Int32.ofNat h) (Int32.ofNat st.length) (Int32.ofNat p) m = some (csum (wrl s t h) xs st, (m.1, M)) ∧ ∀ i j, i ≠ r0 + 2 → M i j = m.2 i j := by
  intro f
  induction f with
  | zero => intro m p xs st _ _ l; omega
  | succ f ih =>
    intro m p xs st R hp lf hx hs h64 hg
    have ep := nJ (n := p) (by omega)
    have en := nJ (n := nn) (by omega)
    unfold D28_R_11t_6
    cases xs with
    | nil =>
      have hp : p = nn := hp
      exact ⟨m.2, oT (zc.trans (decide_eq_true (by omega))) rfl, fun _ _ _ => rfl⟩
    | cons x xs =>
      rw [List.length_cons] at hp lf
      have X := hx 0 x rfl
      rw [Nat.add_zero] at X
      have hx' : ∀ (j : Nat) (y : Int), xs[j]? = some y → (m.1 (r0 + 1) (p + 1 + j)).toInt = y := fun j y hj => by
        rw [show p + 1 + j = p + (j + 1) by omega]
        exact hx (j + 1) y hj
      have gi : (Int32.ofNat p).toNatClampNeg = p := gxn ep
      rw [gi]
      generalize hXX : m.1 (r0 + 1) p = Y at X
      have c0 : zcmp .ge (Int32.ofNat p) (Int32.ofNat nn) = false := zc.trans (decide_eq_false (by omega))
      have c1 : xib (Int32.ofNat p) nn = true := gxb ep (by omega)
      have nx : ∀ {m1 : xS} {st1 : List Int64} {v6 : Int32}, m1.1 = m.1 → (∀ i j, i ≠ r0 + 2 → m1.2 i j = m.2 i j) → sC m1 (r0 + 2) st1 → st1.length ≤ 64 → cgd (wrl s t h) xs st1 → csum (wrl s t h) xs st1 = csum (wrl s t h) (x :: xs) st → ∃ M : Nat → Nat → Int64, D28_R_11t_198 F r0 nn (D28_R_11t_6 F r0 nn f) (Int32.ofNat t) (Int32.ofNat h) (Int32.ofNat st1.length) (Int32.ofNat p) v6 m1 = some (csum (wrl s t h) (x :: xs) st, (m.1, M)) ∧ ∀ i j, i ≠ r0 + 2 → M i j = m.2 i j := fun {m1 st1 v6} e1 e2 e3 e4 e5 e6 => by
        obtain ⟨M, d1, d2⟩ := ih (m := m1) (p := p + 1) (xs := xs) (st := st1) (by rw [e1]; exact R) (by omega) (by omega) (by rw [e1]; exact hx') e3 e4 e5
        unfold D28_R_11t_198
        rw [(o1 (n := p) (by omega)).2.2]
        exact ⟨M, by rw [d1, e6, e1], fun i j z => (d2 i j z).trans (e2 i j z)⟩
      have l0 : (20 : Int32).toInt = 20 := rfl
      have l40 : (40 : Int32).toInt = 40 := rfl
      have hg : if x = 14 then 1 ≤ st.length else if x = 15 then (2 ≤ st.length ∧ (st.reverse.getD 1 0 = 0 → cgd (wrl s t h) xs [])) else ((1 ≤ x ∧ x ≤ 13) ∨ 20 ≤ x) ∧ (20 ≤ x → st.length < 64) ∧ ∃ st', sst (wrl s t h) x st = some st' ∧ cgd (wrl s t h) xs st' := hg
      have hcs : csum (wrl s t h) (x :: xs) st = if x = 14 then st.reverse.getD 0 0 else if x = 15 then (if st.reverse.getD 1 0 ≠ 0 then st.reverse.getD 0 0 else csum (wrl s t h) xs []) else match sst (wrl s t h) x st with
        | some st' => csum (wrl s t h) xs st'
        | none => csum (wrl s t h) xs st := rfl
      by_cases k14 : x = 14
      · rw [if_pos k14] at hg hcs
        refine ⟨m.2, oF c0 (oT c1 (oT (zcl.trans (decide_eq_true (by omega))) (oF ((zcni (y := 14) rfl).trans (by rw [decide_eq_true (by omega)]; rfl)) ?_))), fun _ _ _ => rfl⟩
        rw [hcs, ← sC_g hs hg]
      rw [if_neg k14] at hg hcs
      by_cases k15 : x = 15
      · rw [if_pos k15] at hg hcs
        have g1 := sC_g hs (show 1 < st.length by omega)
        have g0 := sC_g hs (show 0 < st.length by omega)
        have two : ∀ {r : Option (Int64 × xS)} {a : Option (Int64 × xS)}, (st.reverse.getD 1 0 = 0 → a = r) → (¬ st.reverse.getD 1 0 = 0 → some ((m.2 (r0 + 2) 0), m) = r) → (if zcmp .eq (lg_cmp (m.2 (r0 + 2) 1) 0) 0 = true then a else some ((m.2 (r0 + 2) 0), m)) = r := fun {r a} h1 h2 => by
          rw [g1]
          have z := lg0 (st.reverse.getD 1 0)
          have z2 : zcmp .eq (lg_cmp (st.reverse.getD 1 0) 0) 0 = decide (st.reverse.getD 1 0 = 0) := by
            rw [zce]
            rw [zcn] at z
            have z := congrArg Bool.not z
            rw [Bool.not_not, Bool.not_not] at z
            exact z
          rw [z2]
          by_cases y : st.reverse.getD 1 0 = 0
          · rw [decide_eq_true y, if_pos rfl]
            exact h1 y
          · rw [decide_eq_false y, if_neg (by decide)]
            exact h2 y
        by_cases y : st.reverse.getD 1 0 = 0
        · rw [if_neg (fun z => z y)] at hcs
          obtain ⟨M, d1, d2⟩ := nx (m1 := m) (st1 := []) (v6 := Y) rfl (fun _ _ _ => rfl) (fun j x hx => by cases hx) (by decide) (hg.2 y) hcs.symm
          exact ⟨M, oF c0 (oT c1 (oT (zcl.trans (decide_eq_true (by omega))) (oT ((zcni (y := 14) rfl).trans (by rw [decide_eq_false (by omega)]; rfl)) (oF ((zcni (y := 15) rfl).trans (by rw [decide_eq_true (by omega)]; rfl)) (two (fun _ => d1) (fun z => absurd y z)))))), d2⟩
        · rw [if_pos y] at hcs
          refine ⟨m.2, oF c0 (oT c1 (oT (zcl.trans (decide_eq_true (by omega))) (oT ((zcni (y := 14) rfl).trans (by rw [decide_eq_false (by omega)]; rfl)) (oF ((zcni (y := 15) rfl).trans (by rw [decide_eq_true (by omega)]; rfl)) (two (fun z => absurd z y) (fun _ => ?_)))))), fun _ _ _ => rfl⟩
          rw [hcs, g0]
      rw [if_neg k15] at hg hcs
      obtain ⟨hr, h20, st', e1, e2⟩ := hg
      rw [e1] at hcs
      have hcs : csum (wrl s t h) xs st' = csum (wrl s t h) (x :: xs) st := hcs.symm
      unfold sst at e1
      by_cases k20 : 20 ≤ x
      · -- a value
        have l64 := h20 k20
        have push : ∀ {v : Int64} {v6 : Int32}, st' = v :: st → ∃ M : Nat → Nat → Int64, D28_R_11t_73 F r0 nn (D28_R_11t_6 F r0 nn f) (Int32.ofNat t) (Int32.ofNat h) (Int32.ofNat st.length) (Int32.ofNat p) v6 v (Int32.ofNat st.length) m = some (csum (wrl s t h) (x :: xs) st, (m.1, M)) ∧ ∀ i j, i ≠ r0 + 2 → M i j = m.2 i j := fun {v v6} ev => by
          subst ev
          have el := nJ (n := st.length) (by omega)
          unfold D28_R_11t_73
          rw [gxn el, (o1 (n := st.length) (by omega)).2.2, if_pos (gxb el l64)]
          exact nx (m1 := xul m (r0 + 2) st.length v) (st1 := v :: st) rfl (fun i j z => if_neg (fun y => z y.1)) (sC_up hs) (by rw [List.length_cons]; omega) e2 hcs
        have k1 : zcmp .lt Y 20 = false := zcl.trans (decide_eq_false (by omega))
        have k2 : zcmp .ge (Int32.ofNat st.length) 64 = false := zc.trans (decide_eq_false (by
          have e64 : (64 : Int32).toInt = 64 := rfl
          rw [nJ (by omega), e64]
          omega))
        by_cases k40 : 40 ≤ x
        · rw [if_pos k40] at e1
          have b := y32 Y
          have ev : (Y - 40 : Int32).toInt64 = Int64.ofInt (x - 40) := by
            apply Int64.toInt_inj.mp
            rw [Int32.toInt_toInt64, xs1 (by rw [l40]; omega) (by rw [l40]; omega), l40, X, Int64.toInt_ofInt]
            have hs : ((Int64.size : Nat) : Int) = 18446744073709551616 := rfl
            exact (Int.bmod_eq_of_le_mul_two (by omega) (by omega)).symm
          obtain ⟨M, d1, d2⟩ := push (v := (Y - 40 : Int32).toInt64) (v6 := Y) (by rw [ev]; exact (Option.some.inj e1).symm)
          exact ⟨M, oF c0 (oT c1 (oF k1 (oF k2 (oF (zcl.trans (decide_eq_false (by omega))) d1)))), d2⟩
        · rw [if_neg k40, if_pos k20] at e1
          have ei : Y - 20 = Int32.ofNat (x - 20).toNat := by
            apply Int32.toInt_inj.mp
            rw [xs1 (by rw [l0]; omega) (by rw [l0]; omega), l0, X, nJ (by omega)]
            omega
          obtain ⟨M, d1, d2⟩ := push (v := (wrd s t h (x - 20).toNat).toInt64) (v6 := Y) (Option.some.inj e1).symm
          exact ⟨M, oF c0 (oT c1 (oF k1 (oF k2 (oT (zcl.trans (decide_eq_true (by omega))) (by
            rw [ei]
            exact ob (c31j hF R I ht hh (by omega)) d1))))), d2⟩
      · rw [if_neg (by omega), if_neg k20] at e1
        have k1 : zcmp .lt Y 20 = true := zcl.trans (decide_eq_true (by omega))
        have k2 : zcmp .ne Y 14 = true := (zcni (y := 14) rfl).trans (by rw [decide_eq_false (by omega)]; rfl)
        have k3 : zcmp .ne Y 15 = true := (zcni (y := 15) rfl).trans (by rw [decide_eq_false (by omega)]; rfl)
        by_cases x3 : x = 3
        · rw [if_pos x3] at e1
          cases st with
          | nil => cases e1
          | cons v st =>
            have e1 : (1 - v) :: st = st' := Option.some.inj e1
            subst e1
            rw [List.length_cons] at h64
            obtain ⟨s1, s2⟩ := sC_tl hs
            have el := nJ (n := st.length) (by omega)
            have el1 := nJ (n := st.length + 1) (by omega)
            obtain ⟨M, d1, d2⟩ := nx (m1 := xul m (r0 + 2) st.length (1 - v)) (st1 := (1 - v) :: st) (v6 := Y) rfl (fun i j z => if_neg (fun y => z y.1)) (sC_up s1) (by rw [List.length_cons]; omega) e2 hcs
            refine ⟨M, oF c0 (oT c1 (oT k1 (oT k2 (oT k3 (oF ((zcni (y := 3) rfl).trans (by rw [decide_eq_true (by omega)]; rfl)) (oF (zcle.trans (decide_eq_false ?_)) ?_)))))), d2⟩
            · have e0 : (0 : Int32).toInt = 0 := rfl
              rw [List.length_cons, el1, e0]
              omega
            · rw [List.length_cons, (o1 (n := st.length) (by omega)).2.1, gxn el, s2, if_pos (gxb el (by omega)), if_pos (gxb el (by omega))]
              exact d1
        · rw [if_neg x3] at e1
          cases st with
          | nil => cases e1
          | cons v st =>
            cases st with
            | nil => cases e1
            | cons u st =>
              have e1 : sop x u v :: st = st' := Option.some.inj e1
              subst e1
              rw [List.length_cons, List.length_cons] at h64
              obtain ⟨s1, s2⟩ := sC_tl hs
              obtain ⟨s3, s4⟩ := sC_tl s1
              rw [List.length_cons] at s2
              have el := nJ (n := st.length) (by omega)
              have el1 := nJ (n := st.length + 1) (by omega)
              have el2 := nJ (n := st.length + 1 + 1) (by omega)
              obtain ⟨M, d1, d2⟩ := nx (m1 := xul m (r0 + 2) st.length (sop x u v)) (st1 := sop x u v :: st) (v6 := Y) rfl (fun i j z => if_neg (fun y => z y.1)) (sC_up s3) (by rw [List.length_cons]; omega) e2 hcs
              refine ⟨M, oF c0 (oT c1 (oT k1 (oT k2 (oT k3 (oT ((zcni (y := 3) rfl).trans (by rw [decide_eq_false (by omega)]; rfl)) ?_))))), d2⟩
              unfold D28_R_11t_159
              refine oF (zcle.trans (decide_eq_false ?_)) ?_
              · have e0 : (1 : Int32).toInt = 1 := rfl
                rw [List.length_cons, List.length_cons, el2, e0]
                omega
              · rw [List.length_cons, List.length_cons, (o1 (n := st.length + 1) (by omega)).1, (o1 (n := st.length) (by omega)).2.1, gxn el, gxn el1, s2, s4, if_pos (gxb el (by omega)), if_pos (gxb el1 (by omega))]
                refine ob (c29 X (by omega) (by omega) x3) ?_
                rw [if_pos (gxb el (by omega))]
                exact d1
/-- sumFor -/
theorem c28j (hF : 500 ≤ F) {r0 nn : Nat} (hn : nn ≤ 400) (R : R32 s (m.1 12)) (I : vJD D s) {t h : Nat} (ht : (t : Int) < (s 2).toInt) (hh : h < 6) {xs : List Int} (hl : xs.length = nn) (hx : ∀ (j : Nat) (x : Int), xs[j]? = some x → (m.1 (r0 + 1) j).toInt = x) (hg : cgd (wrl s t h) xs []) : ∃ M : Nat → Nat → Int64, D28_R_11t F r0 nn (Int32.ofNat t) (Int32.ofNat h) m = some (csum (wrl s t h) xs [], (m.1, M)) ∧ ∀ i j, i ≠ r0 + 2 → M i j = m.2 i j := by
  unfold D28_R_11t
  exact c28_6j hF hn I ht hh F (p := 0) (st := []) R (by omega) (by omega) (fun j x hj => by rw [Nat.zero_add]; exact hx j x hj) (fun j x hx => by cases hx) (by decide) hg
theorem c27_18j (hF : 500 ≤ F) {r0 nn : Nat} (h88 : 88 ≤ r0) (hn : nn ≤ 400) {xs : List Int} (hl : xs.length = nn) (G : ∀ w, cgd w xs []) (I : vJD D s) {t : Nat} (ht : (t : Int) < (s 2).toInt) {g2 : Int32 → xS → Option (Unit × xS)} : ∀ (f : Nat) {m : xS} {h : Nat} {a : Int32 × Int64}, R32 s (m.1 12) → stp m r0 xs → 0 ≤ a.2.toInt → (h : Int) ≤ (s 0).toInt → 7 - h < f → okb s t a.1 → ∃ m', D27_R_11t_18 F r0 nn g2 f (Int32.ofNat t) a.1 a.2 (Int32.ofNat h) m = g2 (Int32.ofNat (t + 1)) m' ∧ R32 (ldt s t (lbh s (smC xs s t) t h ((s 0).toInt.toNat - h) a).1) (m'.1 12) ∧ kfj r0 m m' := by
  have n6 := J_n6 I
  have t6 : t < 6 := by have := J_nt I; omega
  intro f
  induction f with
  | zero => intro m h a _ _ _ _ l; omega
  | succ f ih =>
    intro m h a R S a0 hh l ha
    have eh := nJ (n := h) (by omega)
    unfold D27_R_11t_18
    by_cases q : (s 0).toInt ≤ (h : Int)
    · rw [show (s 0).toInt.toNat - h = 0 by omega]
      show ∃ m' : xS, _ ∧ R32 (ldt s t a.1) (m'.1 12) ∧ _
      have g : zcmp .ge (Int32.ofNat h) (s 0) = true := zc.trans (decide_eq_true (by omega))
      rcases ha with e | ⟨k, e, k1, k2⟩
      · refine ⟨m, ob (c77_11t R) (oT g (oT (zce.trans (beq_iff_eq.mpr e)) ?_)), ?_, kf_rj r0 m⟩
        · unfold D27_R_11t_83
          rw [(o1 (n := t) (by omega)).2.2]
        · unfold ldt
          rw [if_pos e]
          exact R
      · have ek := nJ (n := k) (by omega)
        have ne : ¬ a.1 = -1 := fun z => by
          have z := congrArg Int32.toInt (e.symm.trans z)
          rw [ek] at z
          have e1 : (-1 : Int32).toInt = -1 := rfl
          omega
        obtain ⟨c', z1, z2⟩ := a102j (F := F) R I (t := t) (h := k) (v1 := Int32.ofNat t) (v2 := a.1) rfl e ht (by omega)
        refine ⟨xr m 12 c', ob (c77_11t R) (oT g (oF (zce.trans (beq_eq_false_iff_ne.mpr ne)) (ob z1 ?_))), ?_, kf_xj⟩
        · unfold D27_R_11t_83
          rw [(o1 (n := t) (by omega)).2.2]
        · unfold ldt
          rw [if_neg ne, e, ek, Int.toNat_natCast, xr_s]
          exact z2
    · have h6 : h < 6 := by omega
      rw [show (s 0).toInt.toNat - h = ((s 0).toInt.toNat - (h + 1)) + 1 by omega]
      show ∃ m' : xS, _ ∧ R32 (ldt s t (lbh s (smC xs s t) t (h + 1) ((s 0).toInt.toNat - (h + 1)) (if pcl s t h = true ∧ a.2.toInt < (smC xs s t h).toInt then (Int32.ofNat h, smC xs s t h) else a)).1) (m'.1 12) ∧ _
      have g : zcmp .ge (Int32.ofNat h) (s 0) = false := zc.trans (decide_eq_false (by omega))
      have nx : ∀ {m1 : xS} {b : Int32 × Int64} {v7 : Int64}, kfj r0 m m1 → R32 s (m1.1 12) → 0 ≤ b.2.toInt → okb s t b.1 → ∃ m', D27_R_11t_66 F r0 nn g2 (D27_R_11t_18 F r0 nn g2 f) (Int32.ofNat t) b.1 b.2 (Int32.ofNat h) v7 m1 = g2 (Int32.ofNat (t + 1)) m' ∧ R32 (ldt s t (lbh s (smC xs s t) t (h + 1) ((s 0).toInt.toNat - (h + 1)) b).1) (m'.1 12) ∧ kfj r0 m m' := fun {m1 b v7} k R1 b0 hb => by
        obtain ⟨m', d1, d2, d3⟩ := ih (m := m1) (h := h + 1) (a := b) R1 (stp_fj h88 k S) b0 (by omega) (by omega) hb
        refine ⟨m', ?_, d2, kf_tj k d3⟩
        unfold D27_R_11t_66
        rw [(o1 (n := h) (by omega)).2.2]
        exact d1
      have l0 : (0 : Int64).toInt = 0 := rfl
      by_cases c : pcl s t h = true
      · obtain ⟨M, z1, z2⟩ := c28j (F := F) hF (r0 := r0) hn R I ht h6 hl S (G _)
        have km : kfj r0 m (m.1, M) := ⟨fun _ _ => rfl, z2⟩
        have g5 := (lgS (smC xs s t h) a.2).2.2.2.2
        by_cases d : a.2.toInt < (smC xs s t h).toInt
        · rw [if_pos ⟨c, d⟩]
          obtain ⟨m', d1, d2, d3⟩ := nx (m1 := (m.1, M)) (b := (Int32.ofNat h, smC xs s t h)) (v7 := smC xs s t h) km R (by show 0 ≤ (smC xs s t h).toInt; omega) (Or.inr ⟨h, rfl, by omega, c⟩)
          refine ⟨m', ob (c77_11t R) (oF g (ob (c101uj R I rfl rfl ht h6) (oF (pB1.trans (by rw [c]; rfl)) (ob z1 ?_)))), d2, d3⟩
          unfold D27_R_11t_49
          exact oF (g5.trans (decide_eq_false (by omega))) d1
        · rw [if_neg (fun z => d z.2)]
          obtain ⟨m', d1, d2, d3⟩ := nx (m1 := (m.1, M)) (b := a) (v7 := smC xs s t h) km R a0 ha
          refine ⟨m', ob (c77_11t R) (oF g (ob (c101uj R I rfl rfl ht h6) (oF (pB1.trans (by rw [c]; rfl)) (ob z1 ?_)))), d2, d3⟩
          unfold D27_R_11t_49
          exact oT (g5.trans (decide_eq_true (by omega))) d1
      · rw [if_neg (fun z => c z.1)]
        have c' : pcl s t h = false := by simpa using c
        have g5 := (lgS 0 a.2).2.2.2.2
        obtain ⟨m', d1, d2, d3⟩ := nx (m1 := m) (b := a) (v7 := 0) (kf_rj r0 m) R a0 ha
        refine ⟨m', ob (c77_11t R) (oF g (ob (c101uj R I rfl rfl ht h6) (oT (pB1.trans (by rw [c']; rfl)) ?_))), d2, d3⟩
        unfold D27_R_11t_49
        exact oT (g5.trans (decide_eq_true (by rw [l0]; exact a0))) d1
theorem c27_2j (hF : 500 ≤ F) {r0 nn : Nat} (h88 : 88 ≤ r0) (hn : nn ≤ 400) {xs : List Int} (hl : xs.length = nn) (G : ∀ w, cgd w xs []) : ∀ (f : Nat) {s : Nat → Int32} {m : xS} {t : Nat}, vJD D s → R32 s (m.1 12) → stp m r0 xs → (t : Int) ≤ (s 2).toInt → 7 - t < f → ∃ m', D27_R_11t_2 F r0 nn f (Int32.ofNat t) m = some ((), m') ∧ R32 (lall (smC xs) t ((s 2).toInt.toNat - t) s) (m'.1 12) ∧ kfj r0 m m' := by
  intro f
  induction f with
  | zero => intro s m t _ _ _ _ l; omega
  | succ f ih =>
    intro s m t I R S ht l
    have n2 := J_nt I
    have n6 := J_n6 I
    have et := nJ (n := t) (by omega)
    unfold D27_R_11t_2
    by_cases q : (s 2).toInt ≤ (t : Int)
    · rw [show (s 2).toInt.toNat - t = 0 by omega]
      have g : zcmp .ge (Int32.ofNat t) (s 2) = true := zc.trans (decide_eq_true (by omega))
      exact ⟨m, ob (c79_11t R) (oT g rfl), R, kf_rj r0 m⟩
    · rw [show (s 2).toInt.toNat - t = ((s 2).toInt.toNat - (t + 1)) + 1 by omega]
      have n0 := J_n0 I
      obtain ⟨m1, z1, z2, z3⟩ := c27_18j (F := F) hF h88 hn hl G I (t := t) (by omega) (g2 := D27_R_11t_2 F r0 nn f) F (m := m) (h := 0) (a := (-1, 0)) R S (Int.le_refl _) (by omega) (by omega) (Or.inl rfl)
      rw [Nat.sub_zero] at z2
      have J : vJD D (lnd1 (smC xs) s t) := ldt_Ij I (by omega) (lnd1_okj I)
      have e2 : lnd1 (smC xs) s t 2 = s 2 := ldt_k (by decide)
      obtain ⟨m', d1, d2, d3⟩ := ih (s := lnd1 (smC xs) s t) (m := m1) (t := t + 1) J z2 (stp_fj h88 z3 S) (by rw [e2]; omega) (by omega)
      rw [e2] at d2
      have g : zcmp .ge (Int32.ofNat t) (s 2) = false := zc.trans (decide_eq_false (by omega))
      exact ⟨m', ob (c79_11t R) (oF g (z1.trans d1)), d2, kf_tj z3 d3⟩
/-- lendAll -/
theorem c27j (hF : 500 ≤ F) {r0 nn : Nat} (h88 : 88 ≤ r0) (hn : nn ≤ 400) {xs : List Int} (hl : xs.length = nn) (G : ∀ w, cgd w xs []) (I : vJD D s) (R : R32 s (m.1 12)) (S : stp m r0 xs) : ∃ m', D27_R_11t F r0 nn m = some ((), m') ∧ R32 (lall (smC xs) 0 (s 2).toInt.toNat s) (m'.1 12) ∧ kfj r0 m m' := by
  have n2 := J_nt I
  have z := c27_2j (F := F) hF h88 hn hl G F (s := s) (m := m) (t := 0) I R S (by omega) (by omega)
  rw [Nat.sub_zero] at z
  unfold D27_R_11t
  exact z
/-- finishWorks -/
theorem c109_2j (hF : 500 ≤ F) : ∀ (f : Nat) {s : Nat → Int32} {m : xS} {w : Nat}, vJD D s → R32 s (m.1 12) → (w : Int) ≤ (s 3).toInt → 7 - w < f → ∃ c', D109_11t_2 F f (Int32.ofNat w) m = some ((), xr m 12 c') ∧ R32 (fwk w ((s 3).toInt.toNat - w) s) c' := by
  intro f
  induction f with
  | zero => intro s m w _ _ _ l; omega
  | succ f ih =>
    intro s m w I R hw l
    have n3 := J_nw I
    have ew := nJ (n := w) (by omega)
    unfold D109_11t_2
    by_cases q : (s 3).toInt ≤ (w : Int)
    · rw [show (s 3).toInt.toNat - w = 0 by omega]
      have g : zcmp .ge (Int32.ofNat w) (s 3) = true := zc.trans (decide_eq_true (by omega))
      exact ⟨m.1 12, ob (c80_11t R) (oT g (by rw [xr_id])), R⟩
    · rw [show (s 3).toInt.toNat - w = ((s 3).toInt.toNat - (w + 1)) + 1 by omega]
      have w3 : (w : Int) < (s 3).toInt := by omega
      have g : zcmp .ge (Int32.ofNat w) (s 3) = false := zc.trans (decide_eq_false (by omega))
      show ∃ c', _ ∧ R32 (fwk (w + 1) ((s 3).toInt.toNat - (w + 1)) (if pcd s w = true then pwk s w else s)) c'
      by_cases c : pcd s w = true
      · rw [if_pos c]
        obtain ⟨c1, z1, z2⟩ := a108_11t (F := F) R (w := w) (v1 := Int32.ofNat w) rfl (by omega)
        have e3 : pwk s w 3 = s 3 := pwk_k (by decide)
        obtain ⟨c', d1, d2⟩ := ih (s := pwk s w) (m := xr m 12 c1) (w := w + 1) (J_wk I w3) (by rw [xr_s]; exact z2) (by rw [e3]; omega) (by omega)
        rw [e3] at d2
        refine ⟨c', ob (c80_11t R) (oF g (ob (c107_11tj hF R I rfl w3) (oF (pB1.trans (by rw [c]; rfl)) (ob z1 ?_)))), d2⟩
        unfold D109_11t_24
        rw [(o1 (n := w) (by omega)).2.2, d1, xr_xr]
      · rw [if_neg c]
        have c0 : pcd s w = false := by simpa using c
        obtain ⟨c', d1, d2⟩ := ih (s := s) (m := m) (w := w + 1) I R (by omega) (by omega)
        refine ⟨c', ob (c80_11t R) (oF g (ob (c107_11tj hF R I rfl w3) (oT (pB1.trans (by rw [c0]; rfl)) ?_))), d2⟩
        unfold D109_11t_24
        rw [(o1 (n := w) (by omega)).2.2]
        exact d1
theorem c109j (hF : 500 ≤ F) (I : vJD D s) (R : R32 s (m.1 12)) : ∃ c', D109_11t F m = some ((), xr m 12 c') ∧ R32 (fwk 0 (s 3).toInt.toNat s) c' := by
  have n3 := J_nw I
  have z := c109_2j (F := F) hF F (s := s) (m := m) (w := 0) I R (by omega) (by omega)
  rw [Nat.sub_zero] at z
  unfold D109_11t
  exact z
end PJS
