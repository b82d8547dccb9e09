/-! What holds of a village is kept by each act. -/
def vIo (s : Nat → Int32) (t : Nat) : Prop := (0 ≤ (s (10 + 6 * t)).toInt ∧ (s (10 + 6 * t)).toInt < (s 0).toInt) ∧ (0 ≤ (s (10 + 6 * t + 3)).toInt ∧ (s (10 + 6 * t + 3)).toInt < (s 0).toInt) ∧ (s (10 + 6 * t + 3) = s (10 + 6 * t) → s (10 + 6 * t + 4) = 0 ∧ s (10 + 6 * t + 5) = 0) ∧ (0 ≤ (s (10 + 6 * t + 5)).toInt ∧ (s (10 + 6 * t + 5)).toInt ≤ (s 4).toInt)
/-- a ring's thanks -/
def prg (s : Nat → Int32) (a d : Nat) : Nat → Int32 := cup s (82 + 6 * a + d) (s (82 + 6 * a + d) - 1)
section PIN
variable {s s' : Nat → Int32} {v : Int32}
theorem I_tool (I : vI s) {t0 : Nat} (h : ∀ j, ¬ (10 + 6 * t0 ≤ j ∧ j < 16 + 6 * t0) → ¬ (82 ≤ j ∧ j < 118) → s' j = s j) (t6 : t0 < 6) (hq : vIo s' t0) (hh : ∀ a d : Nat, a < 6 → d < 6 → 0 ≤ (s' (82 + 6 * a + d)).toInt ∧ (s' (82 + 6 * a + d)).toInt ≤ 99) (hd : ∀ a : Nat, a < 6 → s' (82 + 6 * a + a) = 0) : vI s' := by
  have e0 : s' 0 = s 0 := h 0 (by omega) (by omega)
  have e1 : s' 1 = s 1 := h 1 (by omega) (by omega)
  have e2 : s' 2 = s 2 := h 2 (by omega) (by omega)
  have e3 : s' 3 = s 3 := h 3 (by omega) (by omega)
  have e4 : s' 4 = s 4 := h 4 (by omega) (by omega)
  refine ⟨?_, fun t ht => ?_, fun w hw => ?_, fun a ha => ⟨?_, hd a ha⟩, hh⟩
  · unfold vIa
    rw [e0, e1, e2, e3, e4]
    exact I.1
  · by_cases z : t = t0
    · subst z
      exact hq
    · rw [e2] at ht
      have l := I_nt I
      rw [h (10 + 6 * t) (by omega) (by omega), h (10 + 6 * t + 3) (by omega) (by omega), h (10 + 6 * t + 4) (by omega) (by omega), h (10 + 6 * t + 5) (by omega) (by omega), e0, e4]
      exact I.2.1 t ht
  · rw [e3] at hw
    have l := I_nw I
    rw [h (124 + 4 * w) (by omega) (by omega), h (118 + w) (by omega) (by omega), h (124 + 4 * w + 3) (by omega) (by omega), e0]
    exact I.2.2.1 w hw
  · rw [h (46 + 6 * a + a) (by omega) (by omega)]
    exact (I.2.2.2.1 a ha).1
theorem pgv_o {t j : Nat} (h : ¬ (10 + 6 * t ≤ j ∧ j < 16 + 6 * t)) : pgv s t v j = s j := by
  unfold pgv
  rw [cup_o (by omega), cup_o (by omega), cup_o (by omega), cup_o (by omega)]
theorem pgv_5 {t : Nat} : pgv s t v (10 + 6 * t + 5) = 0 := cup_s _ _ _
theorem pgv_4 {t : Nat} : pgv s t v (10 + 6 * t + 4) = 0 := (cup_o (by omega)).trans (cup_s _ _ _)
theorem pgv_3 {t : Nat} : pgv s t v (10 + 6 * t + 3) = v := (cup_o (by omega)).trans ((cup_o (by omega)).trans (cup_s _ _ _))
theorem pgv_0 {t : Nat} : pgv s t v (10 + 6 * t) = v := (cup_o (by omega)).trans ((cup_o (by omega)).trans ((cup_o (by omega)).trans (cup_s _ _ _)))
theorem I_gv (I : vI s) {t : Nat} (ht : (t : Int) < (s 2).toInt) (h0 : 0 ≤ v.toInt) (h1 : v.toInt < (s 0).toInt) : vI (pgv s t v) := by
  have l := I_nt I
  have dy := I_day I
  refine I_tool I (t0 := t) (fun j z _ => pgv_o z) (by omega) ?_ (fun a d ha hd => ?_) (fun a ha => ?_)
  · unfold vIo
    rw [pgv_0, pgv_3, pgv_4, pgv_5, pgv_o (by omega), pgv_o (by omega)]
    exact ⟨⟨h0, h1⟩, ⟨h0, h1⟩, fun _ => ⟨rfl, rfl⟩, Int.le_refl _, dy.1⟩
  · rw [pgv_o (by omega)]
    exact I.2.2.2.2 a d ha hd
  · rw [pgv_o (by omega)]
    exact (I.2.2.2.1 a ha).2
theorem pth_s {k : Nat} : pth s k k = if (s k).toInt < 99 then s k + 1 else s k := by
  unfold pth
  split
  · exact cup_s _ _ _
  · rfl
theorem pld_3 {t h : Nat} : pld s t h (10 + 6 * t + 3) = Int32.ofNat h := cup_s _ _ _
theorem pld_4 {t h : Nat} : pld s t h (10 + 6 * t + 4) = s (10 + 6 * t + 4) + 1 := (cup_o (by omega)).trans (cup_s _ _ _)
theorem pld_o {t h j : Nat} (h3 : j ≠ 10 + 6 * t + 3) (h4 : j ≠ 10 + 6 * t + 4) : pld s t h j = pth s (82 + 6 * h + (s (10 + 6 * t + 3)).toInt.toNat) j := (cup_o h3).trans (cup_o h4)
theorem pcl_iff {t h : Nat} : pcl s t h = true ↔ s (10 + 6 * t + 3) ≠ Int32.ofNat h ∧ s (10 + 6 * t) ≠ Int32.ofNat h ∧ ptr s (s (10 + 6 * t + 3)).toInt.toNat h = true := by
  unfold pcl
  simp only [Bool.and_eq_true, Bool.not_eq_true', beq_eq_false_iff_ne, ne_eq]
theorem I_ld (I : vI s) {t h : Nat} (ht : (t : Int) < (s 2).toInt) (hh : (h : Int) < (s 0).toInt) (c : pcl s t h = true) : vI (pld s t h) := by
  have l := I_nt I
  have n6 := I_n6 I
  obtain ⟨i0, i3, -, i5⟩ := I.2.1 t ht
  obtain ⟨c1, c2, -⟩ := pcl_iff.mp c
  obtain ⟨hol, eh⟩ : ∃ n : Nat, n = (s (10 + 6 * t + 3)).toInt.toNat := ⟨_, rfl⟩
  have eh2 : s (10 + 6 * t + 3) = Int32.ofNat hol := by rw [eh]; exact i32n (by omega)
  have ne : hol ≠ h := fun z => c1 (by rw [eh2, z])
  have eI := nJ (n := h) (by omega)
  refine I_tool I (t0 := t) (fun j z1 z2 => ?_) (by omega) ?_ (fun a d ha hd => ?_) (fun a ha => ?_)
  · rw [pld_o (by omega) (by omega), pth_o (by omega)]
  · unfold vIo
    rw [pld_3, pld_4, pld_o (by omega) (by omega), pld_o (by omega) (by omega), pld_o (by omega) (by omega), pld_o (by omega) (by omega), ← eh, pth_o (by omega), pth_o (by omega), pth_o (by omega), pth_o (by omega), eI]
    exact ⟨i0, ⟨by omega, hh⟩, fun z => absurd z.symm c2, i5⟩
  · rw [pld_o (by omega) (by omega), ← eh]
    have b := I.2.2.2.2 a d ha hd
    by_cases z : 82 + 6 * a + d = 82 + 6 * h + hol
    · rw [z, pth_s, ← z]
      split
      · have e1 : (s (82 + 6 * a + d) + 1).toInt = (s (82 + 6 * a + d)).toInt + 1 := xa1 (by show _ ≤ _ + (1 : Int); omega) (by show _ + (1 : Int) ≤ _; omega)
        omega
      · exact b
    · rw [pth_o z]
      exact b
  · rw [pld_o (by omega) (by omega), ← eh, pth_o (by omega)]
    exact (I.2.2.2.1 a ha).2
theorem I_wk (I : vI s) {w : Nat} (hw : (w : Int) < (s 3).toInt) : vI (pwk s w) := by
  have l := I_nw I
  have lt := I_nt I
  have dy := I_day I
  have e : ∀ j, j ≠ 5 → j ≠ 118 + w → pwk s w j = s j := fun j z1 z2 => (cup_o z1).trans (cup_o z2)
  have ew : pwk s w (118 + w) = s 4 := (cup_o (by omega)).trans (cup_s _ _ _)
  refine ⟨?_, fun t ht => ?_, fun u hu => ?_, fun a ha => ?_, fun a d ha hd => ?_⟩
  · unfold vIa
    rw [e 0 (by omega) (by omega), e 1 (by omega) (by omega), e 2 (by omega) (by omega), e 3 (by omega) (by omega), e 4 (by omega) (by omega)]
    exact I.1
  · rw [e 2 (by omega) (by omega)] at ht
    rw [e 0 (by omega) (by omega), e 4 (by omega) (by omega), e _ (by omega) (by omega), e _ (by omega) (by omega), e _ (by omega) (by omega), e _ (by omega) (by omega)]
    exact I.2.1 t ht
  · rw [e 3 (by omega) (by omega)] at hu
    rw [e 0 (by omega) (by omega), e (124 + 4 * u) (by omega) (by omega), e (124 + 4 * u + 3) (by omega) (by omega)]
    refine ⟨(I.2.2.1 u hu).1, ?_, (I.2.2.1 u hu).2.2⟩
    by_cases z : u = w
    · subst z
      rw [ew]
      omega
    · rw [e _ (by omega) (by omega)]
      exact (I.2.2.1 u hu).2.1
  · rw [e _ (by omega) (by omega), e _ (by omega) (by omega)]
    exact I.2.2.2.1 a ha
  · rw [e _ (by omega) (by omega)]
    exact I.2.2.2.2 a d ha hd
theorem I_qu (I : vI s) {a d : Nat} (ha : a < 6) (hd : d < 6) : vI (pqu s a d) := by
  have lt := I_nt I
  have l := I_nw I
  have e : ∀ j, ¬ (46 ≤ j ∧ j < 82) → pqu s a d j = s j := fun j z => (cup_o (by omega)).trans (cup_o (by omega))
  refine ⟨?_, fun t ht => ?_, fun u hu => ?_, fun b hb => ?_, fun b f hb hf => ?_⟩
  · unfold vIa
    rw [e 0 (by omega), e 1 (by omega), e 2 (by omega), e 3 (by omega), e 4 (by omega)]
    exact I.1
  · rw [e 2 (by omega)] at ht
    rw [e 0 (by omega), e 4 (by omega), e _ (by omega), e _ (by omega), e _ (by omega), e _ (by omega)]
    exact I.2.1 t ht
  · rw [e 3 (by omega)] at hu
    rw [e 0 (by omega), e _ (by omega), e _ (by omega), e _ (by omega)]
    exact I.2.2.1 u hu
  · have k := I.2.2.2.1 b hb
    rw [e (82 + 6 * b + b) (by omega)]
    refine ⟨?_, k.2⟩
    unfold pqu cup
    split
    · rfl
    · split
      · rfl
      · exact k.1
  · rw [e _ (by omega)]
    exact I.2.2.2.2 b f hb hf
theorem I_rg (I : vI s) {a d : Nat} (ha : a < 6) (hd : d < 6) (ne : a ≠ d) (h : 0 < (s (82 + 6 * a + d)).toInt) : vI (prg s a d) := by
  have lt := I_nt I
  have l := I_nw I
  have e : ∀ j, j ≠ 82 + 6 * a + d → prg s a d j = s j := fun j z => cup_o z
  refine ⟨?_, fun t ht => ?_, fun u hu => ?_, fun b hb => ?_, fun b f hb hf => ?_⟩
  · unfold vIa
    rw [e 0 (by omega), e 1 (by omega), e 2 (by omega), e 3 (by omega), e 4 (by omega)]
    exact I.1
  · rw [e 2 (by omega)] at ht
    rw [e 0 (by omega), e 4 (by omega), e _ (by omega), e _ (by omega), e _ (by omega), e _ (by omega)]
    exact I.2.1 t ht
  · rw [e 3 (by omega)] at hu
    rw [e 0 (by omega), e _ (by omega), e _ (by omega), e _ (by omega)]
    exact I.2.2.1 u hu
  · rw [e (46 + 6 * b + b) (by omega), e (82 + 6 * b + b) (by omega)]
    exact I.2.2.2.1 b hb
  · by_cases z : 82 + 6 * b + f = 82 + 6 * a + d
    · rw [z]
      have e2 : prg s a d (82 + 6 * a + d) = s (82 + 6 * a + d) - 1 := cup_s _ _ _
      rw [e2]
      have b9 := I.2.2.2.2 a d ha hd
      have e1 : (s (82 + 6 * a + d) - 1).toInt = (s (82 + 6 * a + d)).toInt - 1 := xs1 (by show _ ≤ _ - (1 : Int); omega) (by show _ - (1 : Int) ≤ _; omega)
      omega
    · rw [e _ z]
      exact I.2.2.2.2 b f hb hf
theorem phm_pou {t u : Nat} : phm (pou s t) u = phm s u := by
  unfold phm
  rw [pou_o (by omega), pou_o (by omega)]
theorem pous_s : ∀ (n : Nat) {s : Nat → Int32} {t u : Nat}, t ≤ u → u < t + n → pous s t n (10 + 6 * u + 5) = if phm s u = true then s (10 + 6 * u + 5) else s (10 + 6 * u + 5) + 1
  | 0, _, _, _, h1, h2 => by omega
  | n + 1, s, t, u, h1, h2 => by
    show pous (pou s t) (t + 1) n (10 + 6 * u + 5) = _
    by_cases z : u = t
    · subst z
      rw [pous_o n (fun i a b => by omega)]
      unfold pou
      split
      · rfl
      · exact cup_s _ _ _
    · rw [pous_s n (by omega) (by omega), phm_pou, pou_o (by omega)]
theorem pdy_4 : pdy s 4 = s 4 + 1 := cup_s _ _ _
theorem pdy_o (I : vI s) {j : Nat} (h : ∀ i : Nat, i < 6 → j ≠ 10 + 6 * i + 5) (h4 : j ≠ 4) : pdy s j = s j := (cup_o h4).trans (pous_o _ (fun i a b => h i (by have := I_nt I; omega)))
theorem pdy_5 (I : vI s) {t : Nat} (ht : (t : Int) < (s 2).toInt) : pdy s (10 + 6 * t + 5) = if phm s t = true then s (10 + 6 * t + 5) else s (10 + 6 * t + 5) + 1 := (cup_o (by omega)).trans (pous_s _ (by omega) (by omega))
theorem I_dy (I : vI s) (d9 : (s 4).toInt < 2000) : vI (pdy s) := by
  have lt := I_nt I
  have l := I_nw I
  have dy := I_day I
  have e0 : pdy s 0 = s 0 := pdy_o I (fun i _ => by omega) (by decide)
  have e1 : pdy s 1 = s 1 := pdy_o I (fun i _ => by omega) (by decide)
  have e2 : pdy s 2 = s 2 := pdy_o I (fun i _ => by omega) (by decide)
  have e3 : pdy s 3 = s 3 := pdy_o I (fun i _ => by omega) (by decide)
  have e4 : (pdy s 4).toInt = (s 4).toInt + 1 := by
    rw [pdy_4]
    exact xa1 (by show _ ≤ _ + (1 : Int); omega) (by show _ + (1 : Int) ≤ _; omega)
  refine ⟨?_, fun t ht => ?_, fun u hu => ?_, fun b hb => ?_, fun b f hb hf => ?_⟩
  · unfold vIa
    rw [e0, e1, e2, e3, e4]
    exact ⟨I.1.1, I.1.2.1, I.1.2.2.1, I.1.2.2.2.1, by omega, by omega⟩
  · rw [e2] at ht
    obtain ⟨i0, i3, i4, i5⟩ := I.2.1 t ht
    rw [e0, e4, pdy_5 I ht, pdy_o I (fun i _ => by omega) (by omega), pdy_o I (fun i _ => by omega) (by omega), pdy_o I (fun i _ => by omega) (by omega)]
    refine ⟨i0, i3, fun z => ?_, ?_⟩
    · rw [if_pos (show phm s t = true by unfold phm; rw [z]; exact beq_self_eq_true _)]
      exact i4 z
    · split
      · exact ⟨i5.1, by omega⟩
      · have k : (s (10 + 6 * t + 5) + 1).toInt = (s (10 + 6 * t + 5)).toInt + 1 := xa1 (by show _ ≤ _ + (1 : Int); omega) (by show _ + (1 : Int) ≤ _; omega)
        omega
  · rw [e3] at hu
    rw [e0, pdy_o I (fun i _ => by omega) (by omega), pdy_o I (fun i _ => by omega) (by omega), pdy_o I (fun i _ => by omega) (by omega)]
    exact I.2.2.1 u hu
  · rw [pdy_o I (fun i _ => by omega) (by omega), pdy_o I (fun i _ => by omega) (by omega)]
    exact I.2.2.2.1 b hb
  · rw [pdy_o I (fun i _ => by omega) (by omega)]
    exact I.2.2.2.2 b f hb hf
end PIN
