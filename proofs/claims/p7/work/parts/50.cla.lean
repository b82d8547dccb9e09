/-! Clauses; whole rules of the reference: their codes are well formed. -/
def wfs (m : xS) (t : Nat) (lo hi : Int32) : Prop := 0 ≤ lo.toInt ∧ lo.toInt ≤ hi.toInt ∧ hi.toInt ≤ 400 ∧ ∃ D, 1 ≤ D ∧ zdp (m.1 72) (400 * t + lo.toInt.toNat) (hi.toInt.toNat - lo.toInt.toNat) = some D
def wfc (m : xS) (t a : Nat) : Prop := wfs m t (m.1 74 a) (m.1 74 (a + 1)) ∧ ((m.1 74 (a + 2)).toInt < 0 ∨ wfs m t (m.1 74 (a + 2)) (m.1 74 (a + 3)))
def xA (m : xS) : Prop := ∀ t c : Nat, t < 6 → (c : Int) < (m.1 75 t).toInt → wfc m t (48 * t + 4 * c)
def xAe (t : Nat) (m : xS) : Prop := ∀ c : Nat, (c : Int) < (m.1 75 t).toInt → (m.1 74 (48 * t + 4 * c + 1)).toInt ≤ (m.1 73 t).toInt ∧ (m.1 74 (48 * t + 4 * c + 3)).toInt ≤ (m.1 73 t).toInt
def xJ (t : Nat) (m : xS) : Prop := t < 6 ∧ xT m ∧ (m.1 70 8).toInt ≤ (m.1 70 1).toInt ∧ (m.1 70 11).toInt = (t : Int) ∧ (m.1 73 t).toInt ≤ (m.1 70 8).toInt ∧ xA m ∧ xAe t m
abbrev xMR0 : yM := [(70, 70, 8), (70, 70, 9), (70, 70, 10), (70, 70, 12), (70, 70, 13), (70, 70, 16), (72, 75, 1000), (77, 77, 1000)]
abbrev xMR1 : yM := [(70, 70, 8), (70, 70, 9), (70, 70, 10), (70, 70, 12), (70, 70, 13), (70, 70, 14), (70, 70, 16), (72, 75, 1000), (77, 77, 1000)]
abbrev xMR : yM := [(70, 70, 1), (70, 70, 2), (70, 70, 8), (70, 70, 9), (70, 70, 10), (70, 70, 11), (70, 70, 12), (70, 70, 13), (70, 70, 14), (70, 70, 16), (72, 75, 1000), (77, 77, 1000)]
section XCLA
variable {F t b D : Nat} {m m' : xS} {K : Int} {M : yM}
theorem xl73 (h : xT m) (ht : t < 6) : 0 ≤ (m.1 73 t).toInt ∧ (m.1 73 t).toInt ≤ 400 := h 73 t _ (xbn_a (k := 0) (n := 7) (ec := 11) (by decide) rfl (by decide) (by omega))
theorem xl75 (h : xT m) (ht : t < 6) : 0 ≤ (m.1 75 t).toInt ∧ (m.1 75 t).toInt ≤ 12 := h 75 t _ (xbn_a (k := 0) (n := 6) (ec := 12) (by decide) rfl (by decide) ht)
theorem wfs_c {u : Nat} {lo hi : Int32} (w : wfs m u lo hi) (h : ∀ j, 400 * u ≤ j → (j : Int) < 400 * u + hi.toInt → m'.1 72 j = m.1 72 j) : wfs m' u lo hi := by
  obtain ⟨w1, w2, w3, D, w4, w5⟩ := w
  refine ⟨w1, w2, w3, D, w4, ?_⟩
  rw [zdp_c (f := m.1 72) (fun j h1 h2 => h j (by omega) (by omega))]
  exact w5
theorem xA_q (hT : xT m) (ht : t < 6) (a : xA m) (ae : xAe t m) (q : xq t M m m') (h4 : ∀ j : Nat, yinM M 74 (j : Int) = false) (h5 : ∀ j : Nat, yinM M 75 (j : Int) = false) : xA m' ∧ xAe t m' := by
  have e4 : ∀ j, m'.1 74 j = m.1 74 j := fun j => q.2.1.2 74 j (h4 j)
  have e5 : ∀ j, m'.1 75 j = m.1 75 j := fun j => q.2.1.2 75 j (h5 j)
  have s := q.2.2.2.2.2.2
  have l := q.2.2.2.2.1
  have b0 := xl73 hT ht
  constructor
  · intro u c hu hc
    rw [e5] at hc
    obtain ⟨w1, w2⟩ := a u c hu hc
    have al : u = t → (m.1 74 (48 * u + 4 * c + 1)).toInt ≤ (m.1 73 t).toInt ∧ (m.1 74 (48 * u + 4 * c + 3)).toInt ≤ (m.1 73 t).toInt := fun e => by
      subst e
      exact ae c hc
    have st : ∀ {lo hi : Int32}, wfs m u lo hi → (u = t → hi.toInt ≤ (m.1 73 t).toInt) → wfs m' u lo hi := by
      intro lo hi w hh
      have w3 := w.2.2.1
      refine wfs_c w (fun j h1 h2 => s j ?_)
      by_cases e : u = t
      · have := hh e
        subst e
        omega
      · omega
    unfold wfc
    rw [e4, e4, e4, e4]
    refine ⟨st w1 (fun e => (al e).1), ?_⟩
    rcases w2 with w2 | w2
    · exact Or.inl w2
    · exact Or.inr (st w2 (fun e => (al e).2))
  · intro c hc
    rw [e5] at hc
    rw [e4, e4]
    have := ae c hc
    omega
theorem xJ_q (j : xJ t m) (q : xq t M m m') (h1 : yinM M 70 1 = false) (h2 : yinM M 70 11 = false) (h4 : ∀ j : Nat, yinM M 74 (j : Int) = false) (h5 : ∀ j : Nat, yinM M 75 (j : Int) = false) (hl : (m'.1 73 t).toInt ≤ (m'.1 70 8).toInt) : xJ t m' := by
  obtain ⟨j1, j2, j3, j4, j5, j6, j7⟩ := j
  obtain ⟨a, ae⟩ := xA_q j2 j1 j6 j7 q h4 h5
  refine ⟨j1, q.1, ?_, ?_, hl, a, ae⟩
  · rw [q.2.1.2 70 1 h1]
    exact q.2.2.2.1
  · rw [q.2.1.2 70 11 h2]
    exact j4
theorem xJ_74 (j : xJ t m) {i : Nat} {v : Int32} (h1 : 48 * (t : Int) + 4 * (m.1 75 t).toInt ≤ (i : Int)) (h2 : i < 48 * t + 48) : xJ t (xu m 74 i v) := by
  obtain ⟨j1, j2, j3, j4, j5, j6, j7⟩ := j
  have ne : ∀ u c k : Nat, u < 6 → (c : Int) < (m.1 75 u).toInt → k < 4 → (xu m 74 i v).1 74 (48 * u + 4 * c + k) = m.1 74 (48 * u + 4 * c + k) := by
    intro u c k hu hc hk
    refine xu_o (fun z => ?_)
    have b := xl75 j2 hu
    have b2 := xl75 j2 j1
    have z2 := z.2
    by_cases e : u = t
    · subst e
      omega
    · omega
  refine ⟨j1, xT_c j2 (lo := -2147483648) (hi := 2147483647) (xbn_a (k := 0) (n := 288) (ec := 0) (by decide) rfl (by decide) (by omega)) (y32 _).1 (by have := (y32 v).2; omega), j3, j4, j5, ?_, ?_⟩
  · intro u c hu hc
    have hc : (c : Int) < (m.1 75 u).toInt := hc
    unfold wfc
    rw [show 48 * u + 4 * c = 48 * u + 4 * c + 0 from rfl, ne u c 0 hu hc (by decide), show 48 * u + 4 * c + 0 + 1 = 48 * u + 4 * c + 1 from rfl, show 48 * u + 4 * c + 0 + 2 = 48 * u + 4 * c + 2 from rfl, show 48 * u + 4 * c + 0 + 3 = 48 * u + 4 * c + 3 from rfl, ne u c 1 hu hc (by decide), ne u c 2 hu hc (by decide), ne u c 3 hu hc (by decide)]
    exact j6 u c hu hc
  · intro c hc
    have hc : (c : Int) < (m.1 75 t).toInt := hc
    rw [ne t c 1 j1 hc (by decide), ne t c 3 j1 hc (by decide)]
    exact j7 c hc
theorem xJ_p (j : xJ t m) : xpr t ((m.1 73 t).toInt).toNat 0 0 m := by
  obtain ⟨j1, j2, j3, j4, j5, j6, j7⟩ := j
  have b0 := xl73 j2 j1
  refine ⟨j1, j2, j3, j4, Int.le_refl _, by omega, by omega, ?_, (j2 70 12 (0, 60) rfl).1⟩
  rw [Nat.sub_self]
  rfl
/-- the end of a clause -/
def xL (t : Nat) (m : xS) (v : Int32) (m' : xS) : Prop := xfr xMR0 m m' ∧ (m.1 70 8).toInt ≤ (m'.1 70 8).toInt ∧ xT m' ∧ xA m' ∧ ((v = 0 ∧ 1 ≤ (m'.1 70 9).toInt) ∨ (v = 1 ∧ xJ t m' ∧ (m'.1 75 t).toInt = (m.1 75 t).toInt + 1))
theorem P185_110 {a : Int32} {c : Nat} (j : xJ t m) (hc : (m.1 75 t).toInt = (c : Int)) (hc2 : c ≤ 11) (ha : a.toInt = 48 * (t : Int) + 4 * (c : Int)) (w1 : wfs m t (m.1 74 (48 * t + 4 * c)) (m.1 74 (48 * t + 4 * c + 1))) (l1 : (m.1 74 (48 * t + 4 * c + 1)).toInt ≤ (m.1 73 t).toInt) (w2 : (m.1 74 (48 * t + 4 * c + 2)).toInt < 0 ∨ wfs m t (m.1 74 (48 * t + 4 * c + 2)) (m.1 73 t)) : xP (D185_110 F a m) (xL t m) := by
  have jj := j
  obtain ⟨j1, j2, j3, j4, j5, j6, j7⟩ := j
  have et : (m.1 70 11).toNatClampNeg = t := by show (m.1 70 11).toInt.toNat = t; omega
  have e3 : (a + 3).toInt = a.toInt + 3 := xa1 (by show _ ≤ _ + (3 : Int); omega) (by show _ + (3 : Int) ≤ _; omega)
  have n3 : (a + 3).toNatClampNeg = 48 * t + 4 * c + 3 := by show (a + 3).toInt.toNat = _; omega
  unfold D185_110
  rw [et, n3]
  refine xP_g (xib_t (by omega) (by omega)) (xP_g (xib_t (by omega) (by omega)) (xP_g (xib_t (by omega) (by omega)) (xP_g (xib_t (by omega) (by omega)) (xP_r ?_))))
  have J1 : xJ t (xu m 74 (48 * t + 4 * c + 3) (m.1 73 t)) := xJ_74 jj (by omega) (by omega)
  have r3 : (xu m 74 (48 * t + 4 * c + 3) (m.1 73 t)).1 74 (48 * t + 4 * c + 3) = m.1 73 t := xu_s _ _ _ _
  have r0 : ∀ k, k < 3 → (xu m 74 (48 * t + 4 * c + 3) (m.1 73 t)).1 74 (48 * t + 4 * c + k) = m.1 74 (48 * t + 4 * c + k) := fun k hk => xu_o (fun z => by omega)
  have f1 : xfr xMR0 m (xu m 74 (48 * t + 4 * c + 3) (m.1 73 t)) := xfr_u rfl
  have c75 : (xu m 74 (48 * t + 4 * c + 3) (m.1 73 t)).1 75 t = m.1 75 t := xu_o (fun z => by omega)
  have s72 : (xu m 74 (48 * t + 4 * c + 3) (m.1 73 t)).1 72 = m.1 72 := funext fun j => xu_o (fun z => by omega)
  have l73 : (xu m 74 (48 * t + 4 * c + 3) (m.1 73 t)).1 73 t = m.1 73 t := xu_o (fun z => by omega)
  have nn : (xu m 74 (48 * t + 4 * c + 3) (m.1 73 t)).1 70 = m.1 70 := funext fun j => xu_o (fun z => by omega)
  generalize xu m 74 (48 * t + 4 * c + 3) (m.1 73 t) = m1 at J1 r3 r0 f1 c75 s72 l73 nn ⊢
  obtain ⟨k1, k2, k3, k4, k5, k6, k7⟩ := J1
  have e1 : (m.1 75 t + 1).toInt = (c : Int) + 1 := (xa1 (by show _ ≤ _ + (1 : Int); omega) (by show _ + (1 : Int) ≤ _; omega)).trans (by rw [hc]; rfl)
  have hT2 : xT (xu m1 75 t (m.1 75 t + 1)) := xT_c k2 (xbn_a (k := 0) (n := 6) (ec := 12) (by decide) rfl (by decide) j1) (by show (0 : Int) ≤ _; omega) (by show _ ≤ (12 : Int); omega)
  have q5 : (xu m1 75 t (m.1 75 t + 1)).1 75 t = m.1 75 t + 1 := xu_s _ _ _ _
  have o5 : ∀ u, u ≠ t → (xu m1 75 t (m.1 75 t + 1)).1 75 u = m1.1 75 u := fun u hu => xu_o (fun z => hu z.2)
  have wn : wfc m1 t (48 * t + 4 * c) := by
    have wt : ∀ {lo hi : Int32}, wfs m t lo hi → wfs m1 t lo hi := fun w => wfs_c w (fun j _ _ => by rw [s72])
    unfold wfc
    rw [r3, r0 1 (by decide), r0 2 (by decide), show 48 * t + 4 * c = 48 * t + 4 * c + 0 from rfl, r0 0 (by decide)]
    exact ⟨wt w1, w2.imp_right wt⟩
  have a2 : xA (xu m1 75 t (m.1 75 t + 1)) := by
    intro u c2 hu h2
    by_cases e : u = t
    · subst e
      rw [q5, e1] at h2
      by_cases e2 : c2 = c
      · subst e2
        exact wn
      · exact k6 u c2 hu (by rw [c75, hc]; omega)
    · rw [o5 u e] at h2
      exact k6 u c2 hu h2
  have ae2 : xAe t (xu m1 75 t (m.1 75 t + 1)) := by
    intro c2 h2
    rw [q5, e1] at h2
    show (m1.1 74 (48 * t + 4 * c2 + 1)).toInt ≤ (m1.1 73 t).toInt ∧ (m1.1 74 (48 * t + 4 * c2 + 3)).toInt ≤ (m1.1 73 t).toInt
    by_cases e2 : c2 = c
    · subst e2
      rw [r3, r0 1 (by decide), l73]
      exact ⟨l1, Int.le_refl _⟩
    · exact k7 c2 (by rw [c75, hc]; omega)
  have n1 : m1.1 70 8 = m.1 70 8 := by rw [nn]
  refine ⟨xfr_t f1 (xfr_u rfl), ?_, hT2, a2, Or.inr ⟨rfl, ⟨j1, hT2, k3, k4, k5, a2, ae2⟩, ?_⟩⟩
  · show (m.1 70 8).toInt ≤ (m1.1 70 8).toInt
    rw [n1]
    exact Int.le_refl _
  · rw [q5, e1, hc]
theorem xL_t {v : Int32} {m2 : xS} (f : xfr xMR0 m m') (n : (m.1 70 8).toInt ≤ (m'.1 70 8).toInt) (c : (m'.1 75 t).toInt = (m.1 75 t).toInt) (q : xL t m' v m2) : xL t m v m2 := by
  obtain ⟨q1, q2, q3, q4, q5⟩ := q
  refine ⟨xfr_t f q1, by omega, q3, q4, q5.imp_right (fun z => ⟨z.1, z.2.1, by rw [← c]; exact z.2.2⟩)⟩
/-- isLendHere -/
theorem P185 (hF : 500 ≤ F) (j : xJ t m) (hc : (m.1 75 t).toInt ≤ 11) : xP (D185 F m) (xL t m) := by
  have j1 := j.1
  unfold D185
  refine xP_b (P168 hF j.2.1 j.2.2.1) (fun _ m1 u => ?_)
  obtain ⟨wm, -⟩ := u
  have x1 : xq t xMS m m1 := xq_w wm
  have l1 : m1.1 73 t = m.1 73 t := wm.2.1.2 73 t rfl
  have J1 : xJ t m1 := xJ_q j x1 rfl rfl (fun _ => rfl) (fun _ => rfl) (by have := j.2.2.2.2.1; have := wm.2.2.1; rw [l1]; omega)
  have c1 : m1.1 75 t = m.1 75 t := wm.2.1.2 75 t rfl
  have et : (m1.1 70 11).toNatClampNeg = t := by show (m1.1 70 11).toInt.toNat = t; have := J1.2.2.2.1; omega
  have t1 := J1.2.2.2.1
  have b75 := xl75 J1.2.1 j1
  obtain ⟨c, hcc⟩ : ∃ c : Nat, (m1.1 75 t).toInt = (c : Int) := ⟨(m1.1 75 t).toInt.toNat, by omega⟩
  have c11 : c ≤ 11 := by rw [c1] at hcc; omega
  dsimp only
  rw [et]
  have ea : (48 * m1.1 70 11 + 4 * m1.1 75 t).toInt = 48 * (t : Int) + 4 * (c : Int) := by
    have a1 : (48 * m1.1 70 11).toInt = 48 * (t : Int) := (xm1 (by show _ ≤ (48 : Int) * _; omega) (by show (48 : Int) * _ ≤ _; omega)).trans (by rw [t1]; rfl)
    have a2 : (4 * m1.1 75 t).toInt = 4 * (c : Int) := (xm1 (by show _ ≤ (4 : Int) * _; omega) (by show (4 : Int) * _ ≤ _; omega)).trans (by rw [hcc]; rfl)
    exact (xa1 (by omega) (by omega)).trans (by rw [a1, a2])
  generalize 48 * m1.1 70 11 + 4 * m1.1 75 t = a at ea ⊢
  have e1 : (a + 1).toInt = a.toInt + 1 := xa1 (by show _ ≤ _ + (1 : Int); omega) (by show _ + (1 : Int) ≤ _; omega)
  have e2 : (a + 2).toInt = a.toInt + 2 := xa1 (by show _ ≤ _ + (2 : Int); omega) (by show _ + (2 : Int) ≤ _; omega)
  have n0 : a.toNatClampNeg = 48 * t + 4 * c := by show a.toInt.toNat = _; omega
  have n1 : (a + 1).toNatClampNeg = 48 * t + 4 * c + 1 := by show (a + 1).toInt.toNat = _; omega
  have n2 : (a + 2).toNatClampNeg = 48 * t + 4 * c + 2 := by show (a + 2).toInt.toNat = _; omega
  rw [n0, n1, n2]
  refine xP_g (xib_t (by omega) (by omega)) (xP_g (xib_t (by omega) (by omega)) (xP_g (xib_t (by omega) (by omega)) ?_))
  -- the sum's beginning is told
  have J2 : xJ t (xu m1 74 (48 * t + 4 * c) (m1.1 73 t)) := xJ_74 J1 (by omega) (by omega)
  have f2 : xfr xMR0 m (xu m1 74 (48 * t + 4 * c) (m1.1 73 t)) := xfr_t (xfr_l (by decide) wm.2.1) (xfr_u rfl)
  have g2 : (xu m1 74 (48 * t + 4 * c) (m1.1 73 t)).1 74 (48 * t + 4 * c) = m1.1 73 t := xu_s _ _ _ _
  have h2 : ((xu m1 74 (48 * t + 4 * c) (m1.1 73 t)).1 75 t).toInt = (c : Int) := hcc
  have k2 : (xu m1 74 (48 * t + 4 * c) (m1.1 73 t)).1 73 t = m1.1 73 t := rfl
  have o2 : (m.1 70 8).toInt ≤ ((xu m1 74 (48 * t + 4 * c) (m1.1 73 t)).1 70 8).toInt := wm.2.2.1
  generalize xu m1 74 (48 * t + 4 * c) (m1.1 73 t) = m2 at J2 f2 g2 h2 k2 o2 ⊢
  have p2 := xJ_p J2
  refine xP_b (P179 hF p2) (fun v3 m3 q => ?_)
  obtain ⟨x3, q3⟩ := q
  have f3 : xfr xMR0 m m3 := xfr_t f2 (xfr_l (by decide) x3.2.1)
  have o3 : (m.1 70 8).toInt ≤ (m3.1 70 8).toInt := Int.le_trans o2 x3.2.2.1
  obtain ⟨A3, -⟩ := xA_q J2.2.1 j1 J2.2.2.2.2.2.1 J2.2.2.2.2.2.2 x3 (fun _ => rfl) (fun _ => rfl)
  dsimp only
  refine xP_i (fun cc => ?_) (fun cc => ?_)
  case refine_2 =>
    refine xP_r ⟨f3, o3, x3.1, A3, Or.inl ⟨rfl, ?_⟩⟩
    rcases q3 with z | z
    · exact z.2
    · exact absurd ((zne cc).symm.trans z.1) (by decide)
  obtain ⟨gg, gl⟩ : xg t (m2.1 73 t).toInt.toNat (0 + 1) m3 ∧ (m3.1 73 t).toInt + 0 ≤ (m3.1 70 8).toInt := by
    rcases q3 with z | z
    · exact absurd z.1 (znet cc)
    · exact z.2
  have J3 : xJ t m3 := xJ_q J2 x3 rfl rfl (fun _ => rfl) (fun _ => rfl) (by omega)
  have t3 := J3.2.2.2.1
  have et3 : (m3.1 70 11).toNatClampNeg = t := by show (m3.1 70 11).toInt.toNat = t; omega
  have h3 : (m3.1 75 t).toInt = (c : Int) := by rw [x3.2.1.2 75 t rfl]; exact h2
  have g3 : m3.1 74 (48 * t + 4 * c) = m2.1 73 t := by rw [x3.2.1.2 74 _ rfl, k2]; exact g2
  have b2 := xl73 J2.2.1 j1
  have b3 := xl73 J3.2.1 j1
  have w3 : wfs m3 t (m2.1 73 t) (m3.1 73 t) := ⟨b2.1, x3.2.2.2.2.1, b3.2, 1, Nat.le_refl _, gg.2.1⟩
  rw [et3]
  refine xP_g (xib_t (by omega) (by omega)) (xP_g (xib_t (by omega) (by omega)) (xP_g (xib_t (by omega) (by omega)) ?_))
  -- its end
  have J5 : xJ t (xu (xu m3 74 (48 * t + 4 * c + 1) (m3.1 73 t)) 74 (48 * t + 4 * c + 2) (-1)) := xJ_74 (xJ_74 J3 (by omega) (by omega)) (by show 48 * (t : Int) + 4 * (m3.1 75 t).toInt ≤ _; omega) (by omega)
  have f5 : xfr xMR0 m (xu (xu m3 74 (48 * t + 4 * c + 1) (m3.1 73 t)) 74 (48 * t + 4 * c + 2) (-1)) := xfr_t f3 (xfr_t (xfr_u rfl) (xfr_u rfl))
  have g50 : (xu (xu m3 74 (48 * t + 4 * c + 1) (m3.1 73 t)) 74 (48 * t + 4 * c + 2) (-1)).1 74 (48 * t + 4 * c) = m2.1 73 t := ((xu_o (fun z => by omega)).trans (xu_o (fun z => by omega))).trans g3
  have g51 : (xu (xu m3 74 (48 * t + 4 * c + 1) (m3.1 73 t)) 74 (48 * t + 4 * c + 2) (-1)).1 74 (48 * t + 4 * c + 1) = m3.1 73 t := (xu_o (fun z => by omega)).trans (xu_s _ _ _ _)
  have g52 : (xu (xu m3 74 (48 * t + 4 * c + 1) (m3.1 73 t)) 74 (48 * t + 4 * c + 2) (-1)).1 74 (48 * t + 4 * c + 2) = -1 := xu_s _ _ _ _
  have h5 : ((xu (xu m3 74 (48 * t + 4 * c + 1) (m3.1 73 t)) 74 (48 * t + 4 * c + 2) (-1)).1 75 t).toInt = (c : Int) := h3
  have k5 : (xu (xu m3 74 (48 * t + 4 * c + 1) (m3.1 73 t)) 74 (48 * t + 4 * c + 2) (-1)).1 73 t = m3.1 73 t := rfl
  have s5 : (xu (xu m3 74 (48 * t + 4 * c + 1) (m3.1 73 t)) 74 (48 * t + 4 * c + 2) (-1)).1 72 = m3.1 72 := funext fun j => (xu_o (fun z => by omega)).trans (xu_o (fun z => by omega))
  have o5 : (m.1 70 8).toInt ≤ ((xu (xu m3 74 (48 * t + 4 * c + 1) (m3.1 73 t)) 74 (48 * t + 4 * c + 2) (-1)).1 70 8).toInt := o3
  generalize xu (xu m3 74 (48 * t + 4 * c + 1) (m3.1 73 t)) 74 (48 * t + 4 * c + 2) (-1) = m5 at J5 f5 g50 g51 g52 h5 k5 s5 o5 ⊢
  refine xP_b (P169 hF J5.2.1 J5.2.2.1) (fun v6 m6 q => ?_)
  obtain ⟨w6, -⟩ := q
  have x6 : xq t xMS m5 m6 := xq_w w6
  have l6 : m6.1 73 t = m5.1 73 t := w6.2.1.2 73 t rfl
  have J6 : xJ t m6 := xJ_q J5 x6 rfl rfl (fun _ => rfl) (fun _ => rfl) (by have := J5.2.2.2.2.1; have := w6.2.2.1; rw [l6]; omega)
  have f6 : xfr xMR0 m m6 := xfr_t f5 (xfr_l (by decide) w6.2.1)
  have o6 : (m.1 70 8).toInt ≤ (m6.1 70 8).toInt := Int.le_trans o5 w6.2.2.1
  have r6 : ∀ j, m6.1 74 j = m5.1 74 j := fun j => w6.2.1.2 74 j rfl
  have h6 : (m6.1 75 t).toInt = (c : Int) := by rw [w6.2.1.2 75 t rfl]; exact h5
  have s6 : m6.1 72 = m3.1 72 := by rw [← s5]; exact funext fun j => w6.2.1.2 72 j rfl
  have w36 : wfs m6 t (m2.1 73 t) (m3.1 73 t) := wfs_c w3 (fun j _ _ => by rw [s6])
  have cm : (m6.1 75 t).toInt = (m.1 75 t).toInt := by rw [h6, ← hcc, c1]
  have t6 := J6.2.2.2.1
  have et6 : (m6.1 70 11).toNatClampNeg = t := by show (m6.1 70 11).toInt.toNat = t; omega
  dsimp only
  refine xP_i (fun _ => ?_) (fun _ => ?_)
  · refine xP_m (P185_110 J6 h6 c11 ea ?_ ?_ (Or.inl ?_)) (fun v m' z => xL_t f6 o6 cm z)
    · rw [r6, r6, g50, g51]
      exact w36
    · rw [r6, g51, l6, k5]
      exact Int.le_refl _
    · rw [r6, g52]
      decide
  · rw [et6]
    refine xP_g (xib_t (by omega) (by omega)) (xP_g (xib_t (by omega) (by omega)) ?_)
    have J7 : xJ t (xu m6 74 (48 * t + 4 * c + 2) (m6.1 73 t)) := xJ_74 J6 (by omega) (by omega)
    have f7 : xfr xMR0 m (xu m6 74 (48 * t + 4 * c + 2) (m6.1 73 t)) := xfr_t f6 (xfr_u rfl)
    have g70 : (xu m6 74 (48 * t + 4 * c + 2) (m6.1 73 t)).1 74 (48 * t + 4 * c) = m2.1 73 t := (xu_o (fun z => by omega)).trans ((r6 _).trans g50)
    have g71 : (xu m6 74 (48 * t + 4 * c + 2) (m6.1 73 t)).1 74 (48 * t + 4 * c + 1) = m3.1 73 t := (xu_o (fun z => by omega)).trans ((r6 _).trans g51)
    have g72 : (xu m6 74 (48 * t + 4 * c + 2) (m6.1 73 t)).1 74 (48 * t + 4 * c + 2) = m6.1 73 t := xu_s _ _ _ _
    have h7 : ((xu m6 74 (48 * t + 4 * c + 2) (m6.1 73 t)).1 75 t).toInt = (c : Int) := h6
    have k7 : (xu m6 74 (48 * t + 4 * c + 2) (m6.1 73 t)).1 73 t = m6.1 73 t := rfl
    have s7 : (xu m6 74 (48 * t + 4 * c + 2) (m6.1 73 t)).1 72 = m6.1 72 := funext fun j => xu_o (fun z => by omega)
    have o7 : (m.1 70 8).toInt ≤ ((xu m6 74 (48 * t + 4 * c + 2) (m6.1 73 t)).1 70 8).toInt := o6
    generalize xu m6 74 (48 * t + 4 * c + 2) (m6.1 73 t) = m7 at J7 f7 g70 g71 g72 h7 k7 s7 o7 ⊢
    refine xP_b (P184 hF (xJ_p J7)) (fun v8 m8 q => ?_)
    obtain ⟨x8, q8⟩ := q
    have f8 : xfr xMR0 m m8 := xfr_t f7 (xfr_l (by decide) x8.2.1)
    have o8 : (m.1 70 8).toInt ≤ (m8.1 70 8).toInt := Int.le_trans o7 x8.2.2.1
    obtain ⟨A8, -⟩ := xA_q J7.2.1 j1 J7.2.2.2.2.2.1 J7.2.2.2.2.2.2 x8 (fun _ => rfl) (fun _ => rfl)
    dsimp only
    refine xP_i (fun c8 => ?_) (fun c8 => ?_)
    · obtain ⟨⟨D8, d1, d2⟩, l8⟩ : (∃ D, 1 ≤ D ∧ xg t (m7.1 73 t).toInt.toNat D m8) ∧ (m8.1 73 t).toInt ≤ (m8.1 70 8).toInt := by
        rcases q8 with z | z
        · exact absurd z.1 (znet c8)
        · exact z.2
      have J8 : xJ t m8 := xJ_q J7 x8 rfl rfl (fun _ => rfl) (fun _ => rfl) l8
      have r8 : ∀ j, m8.1 74 j = m7.1 74 j := fun j => x8.2.1.2 74 j rfl
      have h8 : (m8.1 75 t).toInt = (c : Int) := by rw [x8.2.1.2 75 t rfl]; exact h7
      have b7 := xl73 J7.2.1 j1
      have b8 := xl73 J8.2.1 j1
      have e73 : m7.1 73 t = m3.1 73 t := by rw [k7, l6, k5]
      have w37 : wfs m7 t (m2.1 73 t) (m3.1 73 t) := wfs_c w36 (fun j _ _ => by rw [s7])
      have w38 : wfs m8 t (m2.1 73 t) (m3.1 73 t) := wfs_c w37 (fun j h1 h2 => x8.2.2.2.2.2.2 j (Or.inl (by rw [e73]; exact h2)))
      refine xP_m (P185_110 J8 h8 c11 ea ?_ ?_ (Or.inr ?_)) (fun v m' z => xL_t f8 o8 (by rw [h8, ← hcc, c1]) z)
      · rw [r8, r8, g70, g71]
        exact w38
      · rw [r8, g71, ← e73]
        exact x8.2.2.2.2.1
      · rw [r8, g72, ← k7]
        exact ⟨b7.1, x8.2.2.2.2.1, b8.2, D8, d1, d2.2.1⟩
    · refine xP_r ⟨f8, o8, x8.1, A8, Or.inl ⟨rfl, ?_⟩⟩
      rcases q8 with z | z
      · exact z.2
      · exact absurd ((zne c8).symm.trans z.1) (by decide)
end XCLA
