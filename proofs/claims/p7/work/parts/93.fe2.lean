/-! feed and end: what they come to. -/
def tsh (r : Nat) : Int32 := if r = 0 then 24 else if r = 1 then 16 else if r = 2 then 8 else 0
theorem tsh_ok (r : Nat) : tsh r = 24 ∨ tsh r = 16 ∨ tsh r = 8 ∨ tsh r = 0 := by
  unfold tsh
  split
  · exact Or.inl rfl
  · split
    · exact Or.inr (Or.inl rfl)
    · split
      · exact Or.inr (Or.inr (Or.inl rfl))
      · exact Or.inr (Or.inr (Or.inr rfl))
abbrev fcFM : yM := [(0, 0, 1), (1, 1, 1000)]
def fcG (m0 : xS) (by_ : Nat → Int32) (L r : Nat) (m : xS) : Prop := xT m ∧ xfr fcFM m0 m ∧ (m.1 0 1).toInt = ((L + r : Nat) : Int) ∧ (∀ j, j < L → m.1 1 j = m0.1 1 j) ∧ (∀ i, i < r → m.1 1 (L + i) = by_ i)
section FEfc
variable {m0 m : xS} {by_ : Nat → Int32} {L r F : Nat} {a : Int32}
theorem fcG_1 {v : Int32} (h : fcG m0 by_ L r m) (l : L + r < 400) (hb : 0 ≤ (by_ r).toInt ∧ (by_ r).toInt ≤ 255) (e : v.toInt = ((L + r + 1 : Nat) : Int)) : fcG m0 by_ L (r + 1) (xu (xu m 1 (L + r) (by_ r)) 0 1 v) := by
  obtain ⟨h1, h2, h3, h4, h5⟩ := h
  have b0 : xbn 1 (L + r) = some (0, 255) := xbn_a (k := 0) (n := 400) (ec := 5) (by decide) rfl (by decide) l
  have q : ∀ {j : Nat}, j ≠ L + r → (xu (xu m 1 (L + r) (by_ r)) 0 1 v).1 1 j = m.1 1 j := fun z => (xu_o (fun y => absurd y.1 (by decide))).trans (xu_o (fun y => z y.2))
  refine ⟨xT_c (xT_c h1 b0 hb.1 hb.2) (i := 0) (j := 1) rfl (by omega) (by omega), xfr_t h2 (xfr_t (xfr_u (by unfold yinM; rfl)) (xfr_u rfl)), (congrArg Int32.toInt (xu_s _ _ _ _)).trans e, fun j hj => (q (by omega)).trans (h4 j hj), fun i hi => ?_⟩
  by_cases z : i = r
  · subst z
    exact (xu_o (fun y => absurd y.1 (by decide))).trans (xu_s _ _ _ _)
  · exact (q (by omega)).trans (h5 i (by omega))
theorem fcP4 {f : Nat} {s s' : Int32} (h : fcG m0 by_ L r m) (l : L + r < 400) (hs : 0 ≤ s.toInt) (e2 : s + Int32.ofInt (-8) = s') (hb : by_ r = cB a s) (hbb : 0 ≤ (by_ r).toInt ∧ (by_ r).toInt ≤ 255) {Q : Unit → xS → Prop} (K : ∀ m', fcG m0 by_ L (r + 1) m' → xP (D123_0_3 F f a s' m') Q) : xP (D123_0_3 F (f + 1) a s m) Q := by
  have h3 := h.2.2.1
  have ei : (m.1 0 1).toNatClampNeg = L + r := by show (m.1 0 1).toInt.toNat = _; omega
  unfold D123_0_3
  refine xP_i (fun c => ?_) (fun _ => ?_)
  · have c : s.toInt < 0 := zt c
    omega
  refine xP_i (fun c => ?_) (fun _ => ?_)
  · have c : (400 : Int) ≤ (m.1 0 1).toInt := zt c
    omega
  refine xP_g (xib_t (by omega) (by omega)) ?_
  have z := fcG_1 (v := m.1 0 1 + 1) h l hbb ((xa1 (by show _ ≤ _ + (1 : Int); omega) (by show _ + (1 : Int) ≤ _; omega)).trans (by rw [h3]; rfl))
  rw [hb] at z
  rw [ei]
  unfold D123_0_43
  rw [e2]
  exact K _ z
theorem fcP5 (hF : 500 ≤ F) (h : fcG m0 by_ L r m) (l : L + r + 4 ≤ 400) (hb : ∀ i, i < 4 → by_ (r + i) = cB a (tsh i)) (hbb : ∀ i, 0 ≤ (by_ i).toInt ∧ (by_ i).toInt ≤ 255) : xP (D123_0 F a m) (fun _ m' => fcG m0 by_ L (r + 4) m') := by
  obtain ⟨f, rfl⟩ : ∃ f, F = f + 1 + 1 + 1 + 1 + 1 := ⟨F - 5, by omega⟩
  unfold D123_0
  refine fcP4 (s := 24) (s' := 16) h (by omega) (by decide) (by decide) (hb 0 (by decide)) (hbb _) (fun m1 h1 => ?_)
  refine fcP4 (s := 16) (s' := 8) h1 (by omega) (by decide) (by decide) (hb 1 (by decide)) (hbb _) (fun m2 h2 => ?_)
  refine fcP4 (s := 8) (s' := 0) h2 (by omega) (by decide) (by decide) (hb 2 (by decide)) (hbb _) (fun m3 h3 => ?_)
  refine fcP4 (s := 0) (s' := (-8)) h3 (by omega) (by decide) (by decide) (hb 3 (by decide)) (hbb _) (fun m4 h4 => ?_)
  unfold D123_0_3
  exact xP_i (fun _ => xP_r h4) (fun c => absurd c (by decide))
/-- feed -/
theorem fcPF {a1 a2 a3 a4 a5 : Int32} (hF : 500 ≤ F) (hX : xT m) (hL : (m.1 0 1).toInt = (L : Int)) (hb : ∀ i, i < 20 → by_ i = cB (if i / 4 = 0 then a1 else if i / 4 = 1 then a2 else if i / 4 = 2 then a3 else if i / 4 = 3 then a4 else a5) (tsh (i % 4))) (hbb : ∀ i, 0 ≤ (by_ i).toInt ∧ (by_ i).toInt ≤ 255) : xP (D122_0 F a1 a2 a3 a4 a5 m) (fun v m' => (400 < L + 20 ∧ v = -1 ∧ m' = m) ∨ (L + 20 ≤ 400 ∧ v.toInt = ((L + 20 : Nat) : Int) ∧ fcG m by_ L 20 m')) := by
  have b1 : (m.1 0 1).toInt ≤ 400 := (hX 0 1 (0, 400) rfl).2
  have e20 : (m.1 0 1 + 20).toInt = (L : Int) + 20 := (xa1 (by show _ ≤ _ + (20 : Int); omega) (by show _ + (20 : Int) ≤ _; omega)).trans (by rw [hL]; rfl)
  have h0 : fcG m by_ L 0 m := ⟨hX, xfr_r _ _, hL, fun _ _ => rfl, fun i hi => absurd hi (Nat.not_lt_zero _)⟩
  unfold D122_0
  refine xP_i (fun c => ?_) (fun c => xP_r (Or.inl ⟨?_, rfl, rfl⟩))
  · have c : (m.1 0 1 + 20).toInt ≤ 400 := zt c
    refine xP_b (fcP5 hF h0 (by omega) (fun i hi => (hb (0 + i) (by omega)).trans (by rw [if_pos (by omega), show (0 + i) % 4 = i by omega])) hbb) (fun _ m1 h1 => ?_)
    refine xP_b (fcP5 hF h1 (by omega) (fun i hi => (hb (0 + 4 + i) (by omega)).trans (by rw [if_neg (by omega), if_pos (by omega), show (0 + 4 + i) % 4 = i by omega])) hbb) (fun _ m2 h2 => ?_)
    refine xP_b (fcP5 hF h2 (by omega) (fun i hi => (hb (0 + 4 + 4 + i) (by omega)).trans (by rw [if_neg (by omega), if_neg (by omega), if_pos (by omega), show (0 + 4 + 4 + i) % 4 = i by omega])) hbb) (fun _ m3 h3 => ?_)
    refine xP_b (fcP5 hF h3 (by omega) (fun i hi => (hb (0 + 4 + 4 + 4 + i) (by omega)).trans (by rw [if_neg (by omega), if_neg (by omega), if_neg (by omega), if_pos (by omega), show (0 + 4 + 4 + 4 + i) % 4 = i by omega])) hbb) (fun _ m4 h4 => ?_)
    refine xP_b (fcP5 hF h4 (by omega) (fun i hi => (hb (0 + 4 + 4 + 4 + 4 + i) (by omega)).trans (by rw [if_neg (by omega), if_neg (by omega), if_neg (by omega), if_neg (by omega), show (0 + 4 + 4 + 4 + 4 + i) % 4 = i by omega])) hbb) (fun _ m5 h5 => xP_r (Or.inr ⟨by omega, h5.2.2.1, h5⟩))
  · have c : ¬ (m.1 0 1 + 20).toInt ≤ 400 := zf c
    omega
end FEfc
abbrev frFM : yM := [(70, 70, 1), (71, 71, 1000)]
def frG (m0 : xS) (by_ : Nat → Int32) (L r : Nat) (m : xS) : Prop := xT m ∧ xfr frFM m0 m ∧ (m.1 70 1).toInt = ((L + r : Nat) : Int) ∧ (∀ j, j < L → m.1 71 j = m0.1 71 j) ∧ (∀ i, i < r → m.1 71 (L + i) = by_ i)
section FEfr
variable {m0 m : xS} {by_ : Nat → Int32} {L r F : Nat} {a : Int32}
theorem frG_1 {v : Int32} (h : frG m0 by_ L r m) (l : L + r < 400) (hb : -128 ≤ (by_ r).toInt ∧ (by_ r).toInt ≤ 127) (e : v.toInt = ((L + r + 1 : Nat) : Int)) : frG m0 by_ L (r + 1) (xu (xu m 71 (L + r) (by_ r)) 70 1 v) := by
  obtain ⟨h1, h2, h3, h4, h5⟩ := h
  have b0 : xbn 71 (L + r) = some (-128, 127) := xbn_a (k := 1) (n := 400) (ec := 6) (by decide) rfl (by decide) l
  have q : ∀ {j : Nat}, j ≠ L + r → (xu (xu m 71 (L + r) (by_ r)) 70 1 v).1 71 j = m.1 71 j := fun z => (xu_o (fun y => absurd y.1 (by decide))).trans (xu_o (fun y => z y.2))
  refine ⟨xT_c (xT_c h1 b0 hb.1 hb.2) (i := 70) (j := 1) rfl (by omega) (by omega), xfr_t h2 (xfr_t (xfr_u (by unfold yinM; rfl)) (xfr_u rfl)), (congrArg Int32.toInt (xu_s _ _ _ _)).trans e, fun j hj => (q (by omega)).trans (h4 j hj), fun i hi => ?_⟩
  by_cases z : i = r
  · subst z
    exact (xu_o (fun y => absurd y.1 (by decide))).trans (xu_s _ _ _ _)
  · exact (q (by omega)).trans (h5 i (by omega))
theorem frP4 {f : Nat} {s s' : Int32} (h : frG m0 by_ L r m) (l : L + r < 400) (hs : 0 ≤ s.toInt) (e2 : s + Int32.ofInt (-8) = s') (hb : by_ r = rB8 a s) (hbb : -128 ≤ (by_ r).toInt ∧ (by_ r).toInt ≤ 127) {Q : Unit → xS → Prop} (K : ∀ m', frG m0 by_ L (r + 1) m' → xP (D160_3 F f a s' m') Q) : xP (D160_3 F (f + 1) a s m) Q := by
  have h3 := h.2.2.1
  have ei : (m.1 70 1).toNatClampNeg = L + r := by show (m.1 70 1).toInt.toNat = _; omega
  unfold D160_3
  refine xP_i (fun c => ?_) (fun _ => ?_)
  · have c : s.toInt < 0 := zt c
    omega
  refine xP_g (xib_t (by omega) (by omega)) ?_
  have z := frG_1 (v := m.1 70 1 + 1) h l hbb ((xa1 (by show _ ≤ _ + (1 : Int); omega) (by show _ + (1 : Int) ≤ _; omega)).trans (by rw [h3]; rfl))
  rw [hb] at z
  rw [ei]
  rw [e2]
  exact K _ z
theorem frP5 (hF : 500 ≤ F) (h : frG m0 by_ L r m) (l : L + r + 4 ≤ 400) (hb : ∀ i, i < 4 → by_ (r + i) = rB8 a (tsh i)) (hbb : ∀ i, -128 ≤ (by_ i).toInt ∧ (by_ i).toInt ≤ 127) : xP (D160 F a m) (fun _ m' => frG m0 by_ L (r + 4) m') := by
  obtain ⟨f, rfl⟩ : ∃ f, F = f + 1 + 1 + 1 + 1 + 1 := ⟨F - 5, by omega⟩
  unfold D160
  refine frP4 (s := 24) (s' := 16) h (by omega) (by decide) (by decide) (hb 0 (by decide)) (hbb _) (fun m1 h1 => ?_)
  refine frP4 (s := 16) (s' := 8) h1 (by omega) (by decide) (by decide) (hb 1 (by decide)) (hbb _) (fun m2 h2 => ?_)
  refine frP4 (s := 8) (s' := 0) h2 (by omega) (by decide) (by decide) (hb 2 (by decide)) (hbb _) (fun m3 h3 => ?_)
  refine frP4 (s := 0) (s' := (-8)) h3 (by omega) (by decide) (by decide) (hb 3 (by decide)) (hbb _) (fun m4 h4 => ?_)
  unfold D160_3
  exact xP_i (fun _ => xP_r h4) (fun c => absurd c (by decide))
/-- feed -/
theorem frPF {a1 a2 a3 a4 a5 : Int32} (hF : 500 ≤ F) (hX : xT m) (hL : (m.1 70 1).toInt = (L : Int)) (hb : ∀ i, i < 20 → by_ i = rB8 (if i / 4 = 0 then a1 else if i / 4 = 1 then a2 else if i / 4 = 2 then a3 else if i / 4 = 3 then a4 else a5) (tsh (i % 4))) (hbb : ∀ i, -128 ≤ (by_ i).toInt ∧ (by_ i).toInt ≤ 127) : xP (D161 F a1 a2 a3 a4 a5 m) (fun v m' => (400 < L + 20 ∧ v = -1 ∧ m' = m) ∨ (L + 20 ≤ 400 ∧ v.toInt = ((L + 20 : Nat) : Int) ∧ frG m by_ L 20 m')) := by
  have b1 : (m.1 70 1).toInt ≤ 400 := (hX 70 1 (0, 400) rfl).2
  have e20 : (m.1 70 1 + 20).toInt = (L : Int) + 20 := (xa1 (by show _ ≤ _ + (20 : Int); omega) (by show _ + (20 : Int) ≤ _; omega)).trans (by rw [hL]; rfl)
  have h0 : frG m by_ L 0 m := ⟨hX, xfr_r _ _, hL, fun _ _ => rfl, fun i hi => absurd hi (Nat.not_lt_zero _)⟩
  unfold D161
  refine xP_i (fun c => ?_) (fun c => xP_r (Or.inl ⟨?_, rfl, rfl⟩))
  · have c : (m.1 70 1 + 20).toInt ≤ 400 := zt c
    refine xP_b (frP5 hF h0 (by omega) (fun i hi => (hb (0 + i) (by omega)).trans (by rw [if_pos (by omega), show (0 + i) % 4 = i by omega])) hbb) (fun _ m1 h1 => ?_)
    refine xP_b (frP5 hF h1 (by omega) (fun i hi => (hb (0 + 4 + i) (by omega)).trans (by rw [if_neg (by omega), if_pos (by omega), show (0 + 4 + i) % 4 = i by omega])) hbb) (fun _ m2 h2 => ?_)
    refine xP_b (frP5 hF h2 (by omega) (fun i hi => (hb (0 + 4 + 4 + i) (by omega)).trans (by rw [if_neg (by omega), if_neg (by omega), if_pos (by omega), show (0 + 4 + 4 + i) % 4 = i by omega])) hbb) (fun _ m3 h3 => ?_)
    refine xP_b (frP5 hF h3 (by omega) (fun i hi => (hb (0 + 4 + 4 + 4 + i) (by omega)).trans (by rw [if_neg (by omega), if_neg (by omega), if_neg (by omega), if_pos (by omega), show (0 + 4 + 4 + 4 + i) % 4 = i by omega])) hbb) (fun _ m4 h4 => ?_)
    refine xP_b (frP5 hF h4 (by omega) (fun i hi => (hb (0 + 4 + 4 + 4 + 4 + i) (by omega)).trans (by rw [if_neg (by omega), if_neg (by omega), if_neg (by omega), if_neg (by omega), show (0 + 4 + 4 + 4 + 4 + i) % 4 = i by omega])) hbb) (fun _ m5 h5 => xP_r (Or.inr ⟨by omega, h5.2.2.1, h5⟩))
  · have c : ¬ (m.1 70 1 + 20).toInt ≤ 400 := zf c
    omega
end FEfr
/-- end -/
theorem fcPE {m : xS} {a : Int32} {L F : Nat} (hX : xT m) (hL : (m.1 0 1).toInt = (L : Int)) : xP (D124_0 F a m) (fun v m' => ((a.toInt < 0 ∨ (L : Int) < a.toInt) ∧ v = -1 ∧ m' = m) ∨ (0 ≤ a.toInt ∧ a.toInt ≤ (L : Int) ∧ v = a ∧ m' = xu m 0 1 a)) := by
  unfold D124_0 D124_0_12
  refine xP_i (fun c => xP_r (Or.inl ⟨Or.inl (zt c), rfl, rfl⟩)) (fun c => xP_i (fun d => xP_r (Or.inr ⟨?_, ?_, rfl, rfl⟩)) (fun d => xP_r (Or.inl ⟨Or.inr ?_, rfl, rfl⟩)))
  · have c : ¬ a.toInt < 0 := zf c
    omega
  · have d : a.toInt ≤ (m.1 0 1).toInt := zt d
    omega
  · have d : ¬ a.toInt ≤ (m.1 0 1).toInt := zf d
    omega
/-- end -/
theorem frPE {m : xS} {a : Int32} {L F : Nat} (hX : xT m) (hL : (m.1 70 1).toInt = (L : Int)) : xP (D162 F a m) (fun v m' => ((a.toInt < 0 ∨ (L : Int) < a.toInt) ∧ v = -1 ∧ m' = m) ∨ (0 ≤ a.toInt ∧ a.toInt ≤ (L : Int) ∧ v = a ∧ m' = xu m 70 1 a)) := by
  unfold D162 D162_12
  refine xP_i (fun c => xP_r (Or.inl ⟨Or.inl (zt c), rfl, rfl⟩)) (fun c => xP_i (fun d => xP_r (Or.inr ⟨?_, ?_, rfl, rfl⟩)) (fun d => xP_r (Or.inl ⟨Or.inr ?_, rfl, rfl⟩)))
  · have c : ¬ a.toInt < 0 := zf c
    omega
  · have d : a.toInt ≤ (m.1 70 1).toInt := zt d
    omega
  · have d : ¬ a.toInt ≤ (m.1 70 1).toInt := zf d
    omega
