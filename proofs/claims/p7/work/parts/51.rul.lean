/-! The reference's rule: it comes to an end, and its codes stay well formed. -/
section XRUL2
variable {F t : Nat} {m m' : xS}
/-- how a clause ends -/
def xC (t : Nat) (m : xS) (v : Int32) (m' : xS) : Prop := xfr xMR1 m m' ∧ (m.1 70 8).toInt ≤ (m'.1 70 8).toInt ∧ xT m' ∧ xA m' ∧ ((v = 0 ∧ 1 ≤ (m'.1 70 9).toInt) ∨ (v = 1 ∧ xJ t m' ∧ (m'.1 75 t).toInt ≤ (m'.1 70 14).toInt ∧ (m'.1 70 14).toInt ≤ 12))
theorem xJ_f {N : yM} (j : xJ t m) (hT : xT m') (f : xfr N m m') (h1 : (m.1 70 8).toInt ≤ (m'.1 70 8).toInt) (h2 : (m'.1 70 8).toInt ≤ (m.1 70 1).toInt) (h3 : ∀ j : Nat, yinM N 72 (j : Int) = false) (h4 : ∀ j : Nat, yinM N 73 (j : Int) = false) (h5 : ∀ j : Nat, yinM N 74 (j : Int) = false) (h6 : ∀ j : Nat, yinM N 75 (j : Int) = false) (h7 : yinM N 70 1 = false) (h8 : yinM N 70 11 = false) : xJ t m' := by
  obtain ⟨j1, j2, j3, j4, j5, j6, j7⟩ := j
  have e2 : m'.1 72 = m.1 72 := funext fun j => f.2 72 j (h3 j)
  have e3 : m'.1 73 = m.1 73 := funext fun j => f.2 73 j (h4 j)
  have e4 : m'.1 74 = m.1 74 := funext fun j => f.2 74 j (h5 j)
  have e5 : m'.1 75 = m.1 75 := funext fun j => f.2 75 j (h6 j)
  refine ⟨j1, hT, by rw [f.2 70 1 h7]; exact h2, by rw [f.2 70 11 h8]; exact j4, by rw [e3]; omega, ?_, ?_⟩
  · unfold xA wfc wfs
    rw [e2, e4, e5]
    exact j6
  · unfold xAe
    rw [e3, e4, e5]
    exact j7
theorem xbad {k a : Int32} (h : xT m) (hA : xA m) (hk : 0 ≤ k.toInt ∧ k.toInt ≤ 4) (ha : 0 ≤ a.toInt ∧ a.toInt ≤ 400) : xP ((D163 F k a m).bind fun q => if xbo q.1 = true then some (q.1, q.2) else none) (xC t m) := by
  refine xP_b (P163 (F := F) h hk ha) (fun v m1 q => ?_)
  obtain ⟨q1, q2, q3, q4⟩ := q
  have e2 : m1.1 72 = m.1 72 := funext fun j => q3.2 72 j rfl
  have e4 : m1.1 74 = m.1 74 := funext fun j => q3.2 74 j rfl
  have e5 : m1.1 75 = m.1 75 := funext fun j => q3.2 75 j rfl
  dsimp only
  rw [q1]
  refine xP_g (by decide) (xP_r ⟨xfr_l (by decide) q3, by rw [q3.2 70 8 rfl]; exact Int.le_refl _, q2, ?_, Or.inl ⟨rfl, q4⟩⟩)
  unfold xA wfc wfs
  rw [e2, e4, e5]
  exact hA
theorem xC_t {v : Int32} {m2 : xS} (f : xfr xMR1 m m') (n : (m.1 70 8).toInt ≤ (m'.1 70 8).toInt) (q : xC t m' v m2) : xC t m v m2 := ⟨xfr_t f q.1, Int.le_trans n q.2.1, q.2.2⟩
/-- clauseHere, of a rule's text -/
theorem P195 (hF : 500 ≤ F) (j : xJ t m) (hl : (m.1 75 t).toInt ≤ (m.1 70 14).toInt) (hl2 : (m.1 70 14).toInt ≤ 12) : xP (D195 F m) (xC t m) := by
  have t5 := j.1
  unfold D195
  refine xP_b (P164 hF j.2.1 j.2.2.1) (fun v m1 q => ?_)
  obtain ⟨q1, q2, q3, q4, -⟩ := q
  have J1 : xJ t m1 := xJ_f j q1 q2 q3 q4 (fun _ => rfl) (fun _ => rfl) (fun _ => rfl) (fun _ => rfl) rfl rfl
  have b1 := xT8 q1
  have t1 := J1.2.2.2.1
  dsimp only
  refine xP_i (fun c => ?_) (fun c => ?_)
  case refine_2 =>
    have : (m1.1 70 11).toInt = (6 : Int) := congrArg Int32.toInt (zne c)
    omega
  unfold D195_24
  refine xP_i (fun _ => ?_) (fun c => absurd rfl (zneq c))
  refine xP_b (P167 hF q1 J1.2.2.1) (fun v2 m2 r => ?_)
  obtain ⟨⟨r1, r2, r3, r4⟩, -⟩ := r
  have J2 : xJ t m2 := xJ_f J1 r1 r2 r3 r4 (fun _ => rfl) (fun _ => rfl) (fun _ => rfl) (fun _ => rfl) rfl rfl
  have f2 : xfr xMR1 m m2 := xfr_l (by decide) (xfr_t q2 r2)
  have n2 : (m.1 70 8).toInt ≤ (m2.1 70 8).toInt := by omega
  have e14 : m2.1 70 14 = m.1 70 14 := (xfr_t q2 r2).2 70 14 rfl
  have e75 : m2.1 75 t = m.1 75 t := (xfr_t q2 r2).2 75 t rfl
  dsimp only
  refine xP_i (fun _ => ?_) (fun _ => ?_)
  case refine_2 =>
    unfold D195_49
    exact xP_m (xbad r1 J2.2.2.2.2.2.1 ⟨by decide, by decide⟩ ⟨by omega, by omega⟩) (fun v m' z => xC_t f2 n2 z)
  unfold D195_56
  refine xP_i (fun _ => ?_) (fun c => absurd rfl (zneq c))
  unfold D195_71
  refine xP_i (fun c12 => ?_) (fun _ => ?_)
  case refine_2 => exact xP_m (xbad r1 J2.2.2.2.2.2.1 ⟨by decide, by decide⟩ ⟨by omega, by omega⟩) (fun v m' z => xC_t f2 n2 z)
  refine xP_i (fun _ => ?_) (fun c => absurd rfl (zneq c))
  have c12 : (m2.1 70 14).toInt ≠ (12 : Int) := zt c12
  rw [e14] at c12
  have b14 : 0 ≤ (m2.1 70 14).toInt := (r1 70 14 (0, 40) rfl).1
  have e1 : (m2.1 70 14 + 1).toInt = (m.1 70 14).toInt + 1 := by
    have h : (m2.1 70 14 + 1).toInt = (m2.1 70 14).toInt + 1 := xa1 (by show _ ≤ _ + (1 : Int); rw [e14]; rw [e14] at b14; omega) (by show _ + (1 : Int) ≤ _; rw [e14]; omega)
    rw [h, e14]
  rw [e14] at b14
  have hT3 : xT (xu m2 70 14 (m2.1 70 14 + 1)) := xT_c r1 (i := 70) (j := 14) (lo := 0) (hi := 40) rfl (by omega) (by omega)
  have J3 : xJ t (xu m2 70 14 (m2.1 70 14 + 1)) := xJ_f (N := [(70, 70, 14)]) J2 hT3 (xfr_u rfl) (Int.le_refl _) J2.2.2.1 (fun _ => rfl) (fun _ => rfl) (fun _ => rfl) (fun _ => rfl) rfl rfl
  have f3 : xfr xMR1 m (xu m2 70 14 (m2.1 70 14 + 1)) := xfr_t f2 (xfr_u rfl)
  have l3 : ((xu m2 70 14 (m2.1 70 14 + 1)).1 70 14).toInt = (m.1 70 14).toInt + 1 := by rw [xu_s]; exact e1
  have c3 : (xu m2 70 14 (m2.1 70 14 + 1)).1 75 t = m.1 75 t := e75
  have n3 : (m.1 70 8).toInt ≤ ((xu m2 70 14 (m2.1 70 14 + 1)).1 70 8).toInt := n2
  generalize xu m2 70 14 (m2.1 70 14 + 1) = m3 at J3 f3 l3 c3 n3 ⊢
  refine xP_b (P185 hF J3 (by rw [c3]; omega)) (fun v4 m4 u => ?_)
  obtain ⟨u1, u2, u3, u4, u5⟩ := u
  have f4 : xfr xMR1 m m4 := xfr_t f3 (xfr_l (by decide) u1)
  have e4 : m4.1 70 14 = m3.1 70 14 := u1.2 70 14 rfl
  dsimp only
  rcases u5 with u5 | u5
  · rw [u5.1]
    exact xP_g (by decide) (xP_r ⟨f4, by omega, u3, u4, Or.inl ⟨rfl, u5.2⟩⟩)
  · rw [u5.1]
    refine xP_g (by decide) (xP_r ⟨f4, by omega, u3, u4, Or.inr ⟨rfl, u5.2.1, ?_, ?_⟩⟩)
    · rw [e4, l3, u5.2.2, c3]
      omega
    · rw [e4, l3]
      omega
/-- readsAll -/
abbrev xMR2 : yM := [(70, 70, 1), (70, 70, 8), (70, 70, 9), (70, 70, 10), (70, 70, 12), (70, 70, 13), (70, 70, 14), (70, 70, 16), (72, 75, 1000), (77, 77, 1000)]
def xE (m : xS) (_ : Int32) (m' : xS) : Prop := xfr xMR2 m m' ∧ xT m' ∧ xA m'
theorem xA_1 {v : Int32} (h : xA m) : xA (xu m 70 1 v) := h
theorem P196_88 {k : Int32} (h : xT m) (hA : xA m) : xP (D196_88 F k m) (xE m) := by
  have hT : xT (xu m 70 1 0) := xT_c h (i := 70) (j := 1) rfl (by decide) (by decide)
  unfold D196_88
  exact xP_i (fun _ => xP_r ⟨xfr_u rfl, hT, hA⟩) (fun _ => xP_r ⟨xfr_u rfl, hT, hA⟩)
theorem xE_t {v : Int32} {m2 : xS} (f : xfr xMR2 m m') (q : xE m' v m2) : xE m v m2 := ⟨xfr_t f q.1, q.2⟩
theorem P196_66 {k : Int32} (hF : 500 ≤ F) (h : xT m) (hA : xA m) (hn : k ≠ 0 → (m.1 70 8).toInt ≤ (m.1 70 1).toInt) : xP (D196_66 F k m) (xE m) := by
  unfold D196_66
  refine xP_i (fun _ => P196_88 h hA) (fun c => ?_)
  refine xP_b (P164 hF h (hn (zneq c))) (fun v m1 q => ?_)
  obtain ⟨q1, q2, q3, q4, -⟩ := q
  have e2 : m1.1 72 = m.1 72 := funext fun j => q2.2 72 j rfl
  have e4 : m1.1 74 = m.1 74 := funext fun j => q2.2 74 j rfl
  have e5 : m1.1 75 = m.1 75 := funext fun j => q2.2 75 j rfl
  have A1 : xA m1 := by
    unfold xA wfc wfs
    rw [e2, e4, e5]
    exact hA
  have f1 : xfr xMR2 m m1 := xfr_l (by decide) q2
  have b := xT8 q1
  dsimp only
  refine xP_i (fun _ => xP_m (P196_88 q1 A1) (fun v m' z => xE_t f1 z)) (fun _ => ?_)
  refine xP_b (P163 (F := F) (k := 0) (a := m1.1 70 8) q1 ⟨by decide, by decide⟩ ⟨by omega, by omega⟩) (fun v2 m2 r => ?_)
  obtain ⟨-, r2, r3, -⟩ := r
  have e2' : m2.1 72 = m1.1 72 := funext fun j => r3.2 72 j rfl
  have e4' : m2.1 74 = m1.1 74 := funext fun j => r3.2 74 j rfl
  have e5' : m2.1 75 = m1.1 75 := funext fun j => r3.2 75 j rfl
  dsimp only
  refine xP_m (P196_88 r2 ?_) (fun v m' z => xE_t (xfr_t f1 (xfr_l (by decide) r3)) z)
  unfold xA wfc wfs
  rw [e2', e4', e5']
  exact A1
theorem P196_35 (hF : 500 ≤ F) : ∀ (f : Nat) {k : Int32} {m : xS}, xT m → xA m → (k ≠ 0 → xJ t m ∧ (m.1 75 t).toInt ≤ (m.1 70 14).toInt ∧ (m.1 70 14).toInt ≤ 12 ∧ (m.1 70 1).toInt - (m.1 70 8).toInt + 1 < f) → 0 < f → xP (D196_35 F f k m) (xE m)
  | 0, k, m, h, hA, hk, hf => by omega
  | f + 1, k, m, h, hA, hk, hf => by
    unfold D196_35
    refine xP_i (fun c => P196_66 hF h hA (fun z => absurd (zeq c) z)) (fun c => ?_)
    obtain ⟨j, l1, l2, hf2⟩ := hk (zneq c)
    refine xP_b (P164 hF h j.2.2.1) (fun v m1 q => ?_)
    obtain ⟨q1, q2, q3, q4, q5⟩ := q
    have J1 : xJ t m1 := xJ_f j q1 q2 q3 q4 (fun _ => rfl) (fun _ => rfl) (fun _ => rfl) (fun _ => rfl) rfl rfl
    have f1 : xfr xMR2 m m1 := xfr_l (by decide) q2
    have e14 : m1.1 70 14 = m.1 70 14 := q2.2 70 14 rfl
    have e75 : m1.1 75 t = m.1 75 t := q2.2 75 t rfl
    have e1 : m1.1 70 1 = m.1 70 1 := q2.2 70 1 rfl
    have b := xT8 q1
    have b0 := xT8 h
    dsimp only
    refine xP_i (fun _ => xP_m (P196_66 hF q1 J1.2.2.2.2.2.1 (fun _ => J1.2.2.1)) (fun v m' z => xE_t f1 z)) (fun c2 => ?_)
    have lt : (m1.1 70 8).toInt < (m.1 70 1).toInt := xsee q5 (zne c2) (by decide)
    have e8 : (m1.1 70 8 + 1).toInt = (m1.1 70 8).toInt + 1 := xa1 (by show _ ≤ _ + (1 : Int); omega) (by show _ + (1 : Int) ≤ _; omega)
    have hT2 : xT (xu m1 70 8 (m1.1 70 8 + 1)) := xT_c q1 (i := 70) (j := 8) rfl (by omega) (by omega)
    have n2 : ((xu m1 70 8 (m1.1 70 8 + 1)).1 70 8).toInt = (m1.1 70 8).toInt + 1 := by rw [xu_s]; exact e8
    have J2 : xJ t (xu m1 70 8 (m1.1 70 8 + 1)) := xJ_f (N := [(70, 70, 8)]) J1 hT2 (xfr_u rfl) (by omega) (by rw [e1]; omega) (fun _ => rfl) (fun _ => rfl) (fun _ => rfl) (fun _ => rfl) rfl rfl
    have f2 : xfr xMR2 m (xu m1 70 8 (m1.1 70 8 + 1)) := xfr_t f1 (xfr_u rfl)
    have g14 : (xu m1 70 8 (m1.1 70 8 + 1)).1 70 14 = m.1 70 14 := e14
    have g75 : (xu m1 70 8 (m1.1 70 8 + 1)).1 75 t = m.1 75 t := e75
    have g1 : (xu m1 70 8 (m1.1 70 8 + 1)).1 70 1 = m.1 70 1 := e1
    generalize xu m1 70 8 (m1.1 70 8 + 1) = m2 at n2 J2 f2 g14 g75 g1 ⊢
    refine xP_b (P195 hF J2 (by rw [g14, g75]; exact l1) (by rw [g14]; exact l2)) (fun v3 m3 u => ?_)
    obtain ⟨u1, u2, u3, u4, u5⟩ := u
    have h1 : m3.1 70 1 = m2.1 70 1 := u1.2 70 1 rfl
    dsimp only
    refine xP_m (P196_35 hF f u3 u4 (fun z => ?_) (by omega)) (fun v m' z => xE_t (xfr_t f2 (xfr_l (by decide) u1)) z)
    rcases u5 with u5 | u5
    · exact absurd u5.1 z
    · refine ⟨u5.2.1, u5.2.2.1, u5.2.2.2, ?_⟩
      rw [h1, g1]
      omega
theorem P196 (hF : 500 ≤ F) (ht : t < 6) (h : xT m) (h11 : (m.1 70 11).toInt = (t : Int)) (hA : xA m) (hc : (m.1 75 t).toInt = 0) : xP (D196 F m) (xE m) := by
  have et : (m.1 70 11).toNatClampNeg = t := by show (m.1 70 11).toInt.toNat = t; omega
  unfold D196
  rw [et]
  refine xP_g (xib_t (by omega) (by omega)) ?_
  have b73 : xbn 73 t = some (0, 400) := xbn_a (k := 0) (n := 7) (ec := 11) (by decide) rfl (by decide) (by omega)
  have hT : xT (xu (xu (xu (xu (xu m 73 t 0) 70 14 0) 70 8 0) 70 9 0) 70 12 0) := xT_c (xT_c (xT_c (xT_c (xT_c h b73 (by decide) (by decide)) (i := 70) (j := 14) (lo := 0) (hi := 40) rfl (by decide) (by decide)) (i := 70) (j := 8) rfl (by decide) (by decide)) (i := 70) (j := 9) rfl (by decide) (by decide)) (i := 70) (j := 12) rfl (by decide) (by decide)
  have f1 : xfr xMR2 m (xu (xu (xu (xu (xu m 73 t 0) 70 14 0) 70 8 0) 70 9 0) 70 12 0) := xfr_t (xfr_t (xfr_t (xfr_t (xfr_u rfl) (xfr_u rfl)) (xfr_u rfl)) (xfr_u rfl)) (xfr_u rfl)
  have e75 : (xu (xu (xu (xu (xu m 73 t 0) 70 14 0) 70 8 0) 70 9 0) 70 12 0).1 75 = m.1 75 := rfl
  have l0 : (xu (xu (xu (xu (xu m 73 t 0) 70 14 0) 70 8 0) 70 9 0) 70 12 0).1 73 t = 0 := by
    show (xu m 73 t 0).1 73 t = 0
    exact xu_s _ _ _ _
  have n0 : ((xu (xu (xu (xu (xu m 73 t 0) 70 14 0) 70 8 0) 70 9 0) 70 12 0).1 70 8).toInt = 0 := rfl
  have i0 : ((xu (xu (xu (xu (xu m 73 t 0) 70 14 0) 70 8 0) 70 9 0) 70 12 0).1 70 14).toInt = 0 := rfl
  have b1 : 0 ≤ (m.1 70 1).toInt ∧ (m.1 70 1).toInt ≤ 400 := h 70 1 (0, 400) rfl
  have J : xJ t (xu (xu (xu (xu (xu m 73 t 0) 70 14 0) 70 8 0) 70 9 0) 70 12 0) := by
    refine ⟨ht, hT, by rw [n0]; exact b1.1, h11, by rw [l0, n0]; decide, hA, fun c hcc => ?_⟩
    rw [e75, hc] at hcc
    omega
  generalize xu (xu (xu (xu (xu m 73 t 0) 70 14 0) 70 8 0) 70 9 0) 70 12 0 = m1 at hT f1 e75 l0 n0 i0 J ⊢
  refine xP_b (P195 hF J (by rw [e75, hc, i0]; decide) (by rw [i0]; decide)) (fun v3 m3 u => ?_)
  obtain ⟨u1, u2, u3, u4, u5⟩ := u
  have b3 := xT8 u3
  dsimp only
  refine xP_m (P196_35 (t := t) hF F u3 u4 (fun z => ?_) (by omega)) (fun v m' z => xE_t (xfr_t f1 (xfr_l (by decide) u1)) z)
  rcases u5 with u5 | u5
  · exact absurd u5.1 z
  · exact ⟨u5.2.1, u5.2.2.1, u5.2.2.2, by omega⟩
/-- rule -/
theorem P197 (hF : 500 ≤ F) (h : xT m) (hA : xA m) : xP (D197 F m) (fun _ m' => xfr xMR m m' ∧ xT m' ∧ xA m') := by
  have b2 : 0 ≤ (m.1 70 2).toInt ∧ (m.1 70 2).toInt ≤ 6 := h 70 2 (0, 6) rfl
  unfold D197
  refine xP_i (fun c => ?_) (fun _ => xP_r ⟨xfr_r _ _, h, hA⟩)
  have c : (m.1 70 2).toInt ≠ (6 : Int) := zt c
  obtain ⟨t, et⟩ : ∃ t : Nat, (m.1 70 2).toInt = (t : Int) := ⟨(m.1 70 2).toInt.toNat, by omega⟩
  have e2 : (m.1 70 2).toNatClampNeg = t := by show (m.1 70 2).toInt.toNat = t; omega
  rw [e2]
  refine xP_g (xib_t (by omega) (by omega)) ?_
  have hT1 : xT (xu (xu m 70 11 (m.1 70 2)) 75 t 0) := xT_c (xT_c h (i := 70) (j := 11) rfl (by omega) (by omega)) (xbn_a (k := 0) (n := 6) (ec := 12) (by decide) rfl (by decide) (by omega)) (by decide) (by decide)
  have f1 : xfr xMR m (xu (xu m 70 11 (m.1 70 2)) 75 t 0) := xfr_t (xfr_u rfl) (xfr_u rfl)
  have c0 : ((xu (xu m 70 11 (m.1 70 2)) 75 t 0).1 75 t) = 0 := xu_s _ _ _ _
  have A1 : xA (xu (xu m 70 11 (m.1 70 2)) 75 t 0) := by
    intro u k hu hk
    by_cases e : u = t
    · subst e
      rw [c0] at hk
      have hk : (k : Int) < (0 : Int) := hk
      omega
    · have e5 : (xu (xu m 70 11 (m.1 70 2)) 75 t 0).1 75 u = m.1 75 u := (xu_o (fun z => e z.2)).trans (xu_o (fun z => by omega))
      rw [e5] at hk
      have w := hA u k hu hk
      have e4 : (xu (xu m 70 11 (m.1 70 2)) 75 t 0).1 74 = m.1 74 := funext fun j => (xu_o (fun z => by omega)).trans (xu_o (fun z => by omega))
      have e7 : (xu (xu m 70 11 (m.1 70 2)) 75 t 0).1 72 = m.1 72 := funext fun j => (xu_o (fun z => by omega)).trans (xu_o (fun z => by omega))
      unfold wfc wfs at w ⊢
      rw [e4, e7]
      exact w
  have t1 : ((xu (xu m 70 11 (m.1 70 2)) 75 t 0).1 70 11).toInt = (t : Int) := et
  have r1 : (xu (xu m 70 11 (m.1 70 2)) 75 t 0).1 70 2 = m.1 70 2 := rfl
  generalize xu (xu m 70 11 (m.1 70 2)) 75 t 0 = m1 at hT1 f1 c0 A1 t1 r1 ⊢
  refine xP_b (P196 hF (show t < 6 by omega) hT1 t1 A1 (by rw [c0]; rfl)) (fun v m2 q => ?_)
  obtain ⟨q1, q2, q3⟩ := q
  have f2 : xfr xMR m m2 := xfr_t f1 (xfr_l (by decide) q1)
  dsimp only
  refine xP_i (fun _ => ?_) (fun _ => xP_r ⟨f2, q2, q3⟩)
  have r2 : m2.1 70 2 = m1.1 70 2 := q1.2 70 2 rfl
  refine xP_r ⟨xfr_t f2 (xfr_u rfl), xT_u q2 (fun p hp => ?_), q3⟩
  have hp : some (0, 6) = some p := hp
  cases hp
  have e : (m2.1 70 2 + 1).toInt = (t : Int) + 1 := by
    have h : (m2.1 70 2).toInt = (t : Int) := by rw [r2, r1]; exact et
    exact (xa1 (by show _ ≤ _ + (1 : Int); omega) (by show _ + (1 : Int) ≤ _; omega)).trans (by rw [h]; rfl)
  rw [e]
  show (0 : Int) ≤ _ ∧ _ ≤ (6 : Int)
  omega
end XRUL2
