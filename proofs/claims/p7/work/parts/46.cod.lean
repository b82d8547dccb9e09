/-! Codes: how deep the stack is behind them; values, terms, sums, comparisons. -/
def zs0 (c : Int32) (k : Nat) : Option Nat :=
  if c.toInt % 16 = 0 then (if k < 64 then some (k + 1) else none) else
  if c.toInt % 16 = 1 then (if 0 ≤ c.toInt / 16 ∧ c.toInt / 16 ≤ 12 ∧ k < 64 then some (k + 1) else none) else
  if c.toInt % 16 = 11 then (if 1 ≤ k then some k else none) else (if 2 ≤ k then some (k - 1) else none)
/-- valid codes alone -/
def zst (c : Int32) (k : Nat) : Option Nat := if 0 ≤ c.toInt ∧ c.toInt % 16 ≠ 15 then zs0 c k else none
def zdp (f : Nat → Int32) (a : Nat) : Nat → Option Nat
  | 0 => some 0
  | n + 1 => (zdp f a n).bind (zst (f (a + n)))
theorem zdp_c {f g : Nat → Int32} {a : Nat} : ∀ {n : Nat}, (∀ j, a ≤ j → j < a + n → g j = f j) → zdp g a n = zdp f a n
  | 0, _ => rfl
  | n + 1, h => by
    show (zdp g a n).bind (zst (g (a + n))) = (zdp f a n).bind (zst (f (a + n)))
    rw [zdp_c (fun j h1 h2 => h j h1 (by omega)), h (a + n) (by omega) (by omega)]
def xg (t b D : Nat) (m : xS) : Prop := (b : Int) ≤ (m.1 73 t).toInt ∧ zdp (m.1 72) (400 * t + b) (((m.1 73 t).toInt).toNat - b) = some D ∧ (D : Int) ≤ (m.1 70 12).toInt
def xq (t : Nat) (M : yM) (m m' : xS) : Prop := xT m' ∧ xfr M m m' ∧ (m.1 70 8).toInt ≤ (m'.1 70 8).toInt ∧ (m'.1 70 8).toInt ≤ (m.1 70 1).toInt ∧ (m.1 73 t).toInt ≤ (m'.1 73 t).toInt ∧ (m.1 70 12).toInt ≤ (m'.1 70 12).toInt ∧ ∀ j : Nat, ((j : Int) < 400 * t + (m.1 73 t).toInt ∨ 400 * t + 400 ≤ j) → m'.1 72 j = m.1 72 j
abbrev xMS : yM := [(70, 70, 8), (70, 70, 9), (70, 70, 10), (70, 70, 12), (72, 72, 1000), (73, 73, 1000)]
abbrev xMP : yM := [(72, 72, 1000), (73, 73, 1000)]
abbrev xMK : yM := [(70, 70, 9), (70, 70, 12)]
theorem xbn_a {i j k n ec : Nat} {fl : List (Nat × Int × Int)} (hi : i < 88) (e : yty i = (1, k, n, ec, fl)) (hk : k < 3) (hj : j < n) : xbn i j = some (yel ec j) := by
  unfold xbn
  rw [if_pos hi, e]
  exact if_pos ⟨hk, hj⟩
section XCOD
variable {F t b D : Nat} {m m' m2 : xS} {K : Int} {M : yM}
theorem xq_t (h1 : yinM M 70 1 = false) (a : xq t M m m') (c : xq t M m' m2) : xq t M m m2 := by
  obtain ⟨a1, a2, a3, a4, a5, a6, a7⟩ := a
  obtain ⟨c1, c2, c3, c4, c5, c6, c7⟩ := c
  have e : m'.1 70 1 = m.1 70 1 := a2.2 70 1 h1
  have c4 : (m2.1 70 8).toInt ≤ (m'.1 70 1).toInt := c4
  rw [e] at c4
  exact ⟨c1, xfr_t a2 c2, by omega, c4, by omega, by omega, fun j hj => (c7 j (by omega)).trans (a7 j hj)⟩
theorem xq_l {N : yM} (h : yleM M N = true) (a : xq t M m m') : xq t N m m' := ⟨a.1, xfr_l h a.2.1, a.2.2⟩
theorem xq_o {N : yM} (h : xT m') (f : xfr N m m') (h1 : (m.1 70 8).toInt ≤ (m'.1 70 8).toInt) (h2 : (m'.1 70 8).toInt ≤ (m.1 70 1).toInt) (hl : yleM N M = true) (h3 : ∀ j : Nat, yinM N 73 (j : Int) = false ∧ yinM N 72 (j : Int) = false) (h4 : yinM N 70 12 = false) : xq t M m m' :=
  ⟨h, xfr_l hl f, h1, h2, by show (m.1 73 t).toInt ≤ (m'.1 73 t).toInt; rw [f.2 73 t (h3 t).1]; exact Int.le_refl _, by show (m.1 70 12).toInt ≤ (m'.1 70 12).toInt; rw [f.2 70 12 h4]; exact Int.le_refl _, fun j _ => f.2 72 j (h3 j).2⟩
theorem xq_w (h : xWp m m') : xq t xMS m m' := xq_o h.1 h.2.1 h.2.2.1 h.2.2.2 (by decide) (fun _ => ⟨rfl, rfl⟩) rfl
theorem xq_n (h : xNp m m') : xq t xMS m m' := xq_o h.1 h.2.1 h.2.2.1 h.2.2.2 (by decide) (fun _ => ⟨rfl, rfl⟩) rfl
theorem xq_9 (hn : (m.1 70 8).toInt ≤ (m.1 70 1).toInt) (h : xT m') (f : xfr xM9 m m') : xq t xMS m m' := xq_o h f (by show (m.1 70 8).toInt ≤ (m'.1 70 8).toInt; rw [f.2 70 8 (by decide)]; exact Int.le_refl _) (by show (m'.1 70 8).toInt ≤ _; rw [f.2 70 8 (by decide)]; exact hn) (by decide) (fun _ => ⟨rfl, rfl⟩) rfl
theorem xq_r (h : xT m) (hn : (m.1 70 8).toInt ≤ (m.1 70 1).toInt) : xq t M m m := ⟨h, xfr_r _ _, Int.le_refl _, hn, Int.le_refl _, Int.le_refl _, fun _ _ => rfl⟩
theorem xg_f {N : yM} (f : xfr N m m') (h3 : ∀ j : Nat, yinM N 73 (j : Int) = false ∧ yinM N 72 (j : Int) = false) (h4 : (m.1 70 12).toInt ≤ (m'.1 70 12).toInt) (g : xg t b D m) : xg t b D m' := by
  obtain ⟨g1, g2, g3⟩ := g
  have e1 : m'.1 73 t = m.1 73 t := f.2 73 t (h3 t).1
  have e2 : m'.1 72 = m.1 72 := funext fun j => f.2 72 j (h3 j).2
  unfold xg
  show (b : Int) ≤ (m'.1 73 t).toInt ∧ zdp (m'.1 72) (400 * t + b) ((m'.1 73 t).toInt.toNat - b) = some D ∧ _
  rw [e1, e2]
  exact ⟨g1, g2, Int.le_trans g3 h4⟩
/-- where a value, a term, a sum may begin -/
def xpr (t b D : Nat) (K : Int) (m : xS) : Prop := t < 6 ∧ xT m ∧ (m.1 70 8).toInt ≤ (m.1 70 1).toInt ∧ (m.1 70 11).toInt = (t : Int) ∧ 0 ≤ K ∧ (m.1 73 t).toInt + K ≤ (m.1 70 8).toInt ∧ xg t b D m
def xV (t b : Nat) (M : yM) (m : xS) (D : Nat) (K : Int) (v : Int32) (m' : xS) : Prop := xq t M m m' ∧ ((v = 0 ∧ 1 ≤ (m'.1 70 9).toInt) ∨ (v = 1 ∧ xg t b D m' ∧ (m'.1 73 t).toInt + K ≤ (m'.1 70 8).toInt))
theorem xpr_f {N : yM} (h : xpr t b D K m) (hT : xT m') (f : xfr N m m') (h1 : (m.1 70 8).toInt ≤ (m'.1 70 8).toInt) (h2 : (m'.1 70 8).toInt ≤ (m.1 70 1).toInt) (h3 : ∀ j : Nat, yinM N 73 (j : Int) = false ∧ yinM N 72 (j : Int) = false) (h4 : (m.1 70 12).toInt ≤ (m'.1 70 12).toInt) (h5 : yinM N 70 11 = false) (h6 : yinM N 70 1 = false) : xpr t b D K m' := by
  obtain ⟨p1, p2, p3, p4, p5, p6, p7⟩ := h
  have e1 : m'.1 73 t = m.1 73 t := f.2 73 t (h3 t).1
  refine ⟨p1, hT, ?_, ?_, p5, ?_, xg_f f h3 h4 p7⟩
  · show _ ≤ (m'.1 70 1).toInt
    rw [f.2 70 1 h6]
    exact h2
  · rw [f.2 70 11 h5]
    exact p4
  · show (m'.1 73 t).toInt + K ≤ _
    rw [e1]
    exact Int.le_trans p6 h1
theorem xpr_w (h : xpr t b D K m) (w : xWp m m') : xpr t b D K m' := xpr_f h w.1 w.2.1 w.2.2.1 w.2.2.2 (fun _ => ⟨rfl, rfl⟩) (by show (m.1 70 12).toInt ≤ (m'.1 70 12).toInt; rw [w.2.1.2 70 12 (by decide)]; exact Int.le_refl _) rfl rfl
theorem xpr_n (h : xpr t b D K m) (w : xNp m m') : xpr t b D K m' := xpr_f h w.1 w.2.1 w.2.2.1 w.2.2.2 (fun _ => ⟨rfl, rfl⟩) (by show (m.1 70 12).toInt ≤ (m'.1 70 12).toInt; rw [w.2.1.2 70 12 (by decide)]; exact Int.le_refl _) rfl rfl
/-- behind a good part -/
theorem xpr_q {D2 : Nat} {K2 : Int} (h : xpr t b D K m) (h1 : yinM M 70 1 = false) (h2 : yinM M 70 11 = false) (hK : 0 ≤ K2) (q : xq t M m m') (g : xg t b D2 m') (l : (m'.1 73 t).toInt + K2 ≤ (m'.1 70 8).toInt) : xpr t b D2 K2 m' := by
  obtain ⟨p1, p2, p3, p4, p5, p6, p7⟩ := h
  obtain ⟨a1, a2, a3, a4, -⟩ := q
  refine ⟨p1, a1, ?_, ?_, hK, l, g⟩
  · show _ ≤ (m'.1 70 1).toInt
    rw [a2.2 70 1 h1]
    exact a4
  · rw [a2.2 70 11 h2]
    exact p4
/-- puts -/
theorem P172 {D2 : Nat} {c w : Int32} (p : xpr t b D (K + 1) m) (hK : 0 ≤ K) (hs : zst (c + 16 * w) D = some D2) (hD : (D2 : Int) ≤ (m.1 70 12).toInt) : xP (D172 F c w m) (fun _ m' => xq t xMP m m' ∧ xg t b D2 m' ∧ (m'.1 73 t).toInt + K ≤ (m'.1 70 8).toInt) := by
  obtain ⟨p1, p2, p3, p4, p5, p6, p7⟩ := p
  have bb := xT8 p2
  have et : (m.1 70 11).toNatClampNeg = t := by show (m.1 70 11).toInt.toNat = t; omega
  have bl : 0 ≤ (m.1 73 t).toInt ∧ (m.1 73 t).toInt ≤ 400 := p2 73 t (0, 400) (by
    have : t = 0 ∨ t = 1 ∨ t = 2 ∨ t = 3 ∨ t = 4 ∨ t = 5 := by omega
    rcases this with rfl | rfl | rfl | rfl | rfl | rfl <;> rfl)
  have p6 : (m.1 73 t).toInt + (K + 1) ≤ (m.1 70 8).toInt := p6
  have e1 : (400 * m.1 70 11).toInt = 400 * (t : Int) := (xm1 (by show _ ≤ (400 : Int) * _; omega) (by show (400 : Int) * _ ≤ _; omega)).trans (by rw [p4]; rfl)
  have e2 : (400 * m.1 70 11 + m.1 73 t).toInt = 400 * (t : Int) + (m.1 73 t).toInt := (xa1 (by omega) (by omega)).trans (by rw [e1])
  have e3 : (400 * m.1 70 11 + m.1 73 t).toNatClampNeg = 400 * t + (m.1 73 t).toInt.toNat := by show (400 * m.1 70 11 + m.1 73 t).toInt.toNat = _; omega
  have e4 : (m.1 73 t + 1).toInt = (m.1 73 t).toInt + 1 := xa1 (by show _ ≤ _ + (1 : Int); omega) (by show _ + (1 : Int) ≤ _; omega)
  have i7 : xib (m.1 70 11) 7 = true := xib_t (by omega) (by omega)
  unfold D172
  rw [et]
  refine xP_g i7 (xP_g (xib_t (by omega) (by omega)) (xP_g i7 (xP_g i7 (xP_r ?_))))
  rw [e3]
  have b2 : xbn 73 t = some (0, 400) := by
    have : t = 0 ∨ t = 1 ∨ t = 2 ∨ t = 3 ∨ t = 4 ∨ t = 5 := by omega
    rcases this with rfl | rfl | rfl | rfl | rfl | rfl <;> rfl
  have hT : xT (xu (xu m 72 (400 * t + (m.1 73 t).toInt.toNat) (c + 16 * w)) 73 t (m.1 73 t + 1)) := by
    refine xT_c (xT_u p2 (fun q hq => ?_)) b2 (by omega) (by omega)
    have : xbn 72 (400 * t + (m.1 73 t).toInt.toNat) = some (-2147483648, 2147483647) := xbn_a (k := 0) (n := 2400) (ec := 0) (by decide) rfl (by decide) (by omega)
    rw [this] at hq
    cases hq
    have := y32 (c + 16 * w)
    exact ⟨this.1, by show _ ≤ (2147483647 : Int); omega⟩
  have l2 : (xu (xu m 72 (400 * t + (m.1 73 t).toInt.toNat) (c + 16 * w)) 73 t (m.1 73 t + 1)).1 73 t = m.1 73 t + 1 := xu_s _ _ _ _
  have s2 : ∀ j, j ≠ 400 * t + (m.1 73 t).toInt.toNat → (xu (xu m 72 (400 * t + (m.1 73 t).toInt.toNat) (c + 16 * w)) 73 t (m.1 73 t + 1)).1 72 j = m.1 72 j := fun j hj => (xu_o (fun z => by omega)).trans (xu_o (fun z => hj z.2))
  have s3 : (xu (xu m 72 (400 * t + (m.1 73 t).toInt.toNat) (c + 16 * w)) 73 t (m.1 73 t + 1)).1 72 (400 * t + (m.1 73 t).toInt.toNat) = c + 16 * w := (xu_o (fun z => by omega)).trans (xu_s _ _ _ _)
  have fr : xfr xMP m (xu (xu m 72 (400 * t + (m.1 73 t).toInt.toNat) (c + 16 * w)) 73 t (m.1 73 t + 1)) := xfr_t (xfr_u rfl) (xfr_u rfl)
  refine ⟨⟨hT, fr, Int.le_refl _, p3, ?_, Int.le_refl _, fun j hj => s2 j ?_⟩, ⟨?_, ?_, hD⟩, ?_⟩
  · show (m.1 73 t).toInt ≤ _
    rw [l2, e4]
    omega
  · have hj : (j : Int) < 400 * (t : Int) + (m.1 73 t).toInt ∨ 400 * t + 400 ≤ j := hj
    omega
  · show (b : Int) ≤ _
    rw [l2, e4]
    have : (b : Int) ≤ (m.1 73 t).toInt := p7.1
    omega
  · have g1 : (b : Int) ≤ (m.1 73 t).toInt := p7.1
    rw [l2, e4, show ((m.1 73 t).toInt + 1).toNat - b = ((m.1 73 t).toInt.toNat - b) + 1 by omega]
    show (zdp _ _ _).bind _ = _
    rw [zdp_c (f := m.1 72) (fun j h1 h2 => s2 j (by omega)), p7.2.1, show 400 * t + b + ((m.1 73 t).toInt.toNat - b) = 400 * t + (m.1 73 t).toInt.toNat by omega, s3]
    exact hs
  · skip
    rw [l2, e4]
    show _ ≤ (m.1 70 8).toInt
    omega
/-- makes -/
theorem P173 {a : Int32} (h : xT m) (ha : 0 ≤ a.toInt ∧ a.toInt ≤ 400) : xP (D173 F a m) (fun v m' => xT m' ∧ xfr xMK m m' ∧ ((v = 0 ∧ 1 ≤ (m'.1 70 9).toInt ∧ (m'.1 70 12).toInt = (m.1 70 12).toInt) ∨ (v = 1 ∧ (m'.1 70 12).toInt = (m.1 70 12).toInt + 1))) := by
  have b := h 70 12 (0, 60) rfl
  have b1 : (0 : Int) ≤ (m.1 70 12).toInt := b.1
  have b2 : (m.1 70 12).toInt ≤ 60 := b.2
  unfold D173
  refine xP_i (fun c => ?_) (fun c => ?_)
  · have c : (m.1 70 12).toInt ≠ (60 : Int) := zt c
    have e : (m.1 70 12 + 1).toInt = (m.1 70 12).toInt + 1 := xa1 (by show _ ≤ _ + (1 : Int); omega) (by show _ + (1 : Int) ≤ _; omega)
    refine xP_r ⟨xT_c h (i := 70) (j := 12) rfl (by omega) (by omega), xfr_u (by decide), Or.inr ⟨rfl, ?_⟩⟩
    show ((xu m 70 12 (m.1 70 12 + 1)).1 70 12).toInt = _
    rw [xu_s]
    exact e
  · refine xP_b (P163 (F := F) (k := 3) (a := a) h ⟨by decide, by decide⟩ ha) (fun v m1 q => ?_)
    obtain ⟨q1, q2, q3, q4⟩ := q
    dsimp only
    rw [q1]
    refine xP_g (by decide) (xP_r ⟨q2, xfr_l (by decide) q3, Or.inl ⟨rfl, q4, ?_⟩⟩)
    show (m1.1 70 12).toInt = _
    rw [q3.2 70 12 (by decide)]
theorem xmk (hn : (m.1 70 8).toInt ≤ (m.1 70 1).toInt) (h : xT m') (f : xfr xMK m m') (hm : (m.1 70 12).toInt ≤ (m'.1 70 12).toInt) : xq t xMS m m' ∧ (∀ {b D K}, xpr t b D K m → xpr t b D K m') := by
  have e8 : m'.1 70 8 = m.1 70 8 := f.2 70 8 (by decide)
  have n1 : (m.1 70 8).toInt ≤ (m'.1 70 8).toInt := by show (m.1 70 8).toInt ≤ (m'.1 70 8).toInt; rw [e8]; exact Int.le_refl _
  have n2 : (m'.1 70 8).toInt ≤ (m.1 70 1).toInt := by show (m'.1 70 8).toInt ≤ _; rw [e8]; exact hn
  refine ⟨⟨h, xfr_l (by decide) f, n1, n2, ?_, hm, fun j _ => f.2 72 j rfl⟩, fun p => xpr_f p h f n1 n2 (fun _ => ⟨rfl, rfl⟩) hm rfl rfl⟩
  show (m.1 73 t).toInt ≤ (m'.1 73 t).toInt
  rw [f.2 73 t rfl]
  exact Int.le_refl _
theorem xlt_f {N : yM} {lo hi : Int} {a : Int32} (f : xfr N m m') (h1 : yinM N 70 1 = false) (h2 : ∀ j : Nat, yinM N 71 (j : Int) = false) (h : xlt m lo hi a) : xlt m' lo hi a := by
  unfold xlt
  rw [f.2 70 1 h1, f.2 71 _ (h2 _)]
  exact h
/-- wordHere -/
theorem P171 (hF : 500 ≤ F) (h : xT m) (h2 : (m.1 70 8).toInt ≤ (m.1 70 1).toInt) : xP (D171 F m) (fun v m' => xWp m m' ∧ (v = -1 ∨ (0 ≤ v.toInt ∧ v.toInt ≤ 12 ∧ xlt m' 97 122 (m'.1 70 8)))) := by
  have st : ∀ {w : Int64} {m1 : xS}, xWp m m1 → xP (D167 F w m1) (fun v m' => xWp m m' ∧ (v = 0 ∨ (v = 1 ∧ xlt m' 97 122 (m'.1 70 8)))) := by
    intro w m1 q
    obtain ⟨q1, q2, q3, q4⟩ := q
    have e : m1.1 70 1 = m.1 70 1 := q2.2 70 1 (by decide)
    refine xP_m (P167 hF q1 (by rw [e]; exact q4)) (fun v m' r => ?_)
    obtain ⟨⟨r1, r2, r3, r4⟩, r5⟩ := r
    rw [e] at r4
    exact ⟨⟨r1, xfr_t q2 r2, by omega, r4⟩, r5⟩
  have ok : ∀ {k v : Int32} {m1 : xS}, xWp m m1 → (v = 0 ∨ (v = 1 ∧ xlt m1 97 122 (m1.1 70 8))) → zcmp .eq v 0 = false → 0 ≤ k.toInt → k.toInt ≤ 12 → xWp m m1 ∧ (k = -1 ∨ (0 ≤ k.toInt ∧ k.toInt ≤ 12 ∧ xlt m1 97 122 (m1.1 70 8))) := by
    intro k v m1 q r c k1 k2
    refine ⟨q, Or.inr ⟨k1, k2, ?_⟩⟩
    rcases r with r | r
    · exact absurd r (zneq c)
    · exact r.2
  have w0 : xWp m m := ⟨h, xfr_r _ _, Int.le_refl _, h2⟩
  unfold D171
  refine xP_b (st w0) (fun v0 m0 r0 => ?_)
  dsimp only
  refine xP_i (fun c0 => ?_) (fun c0 => xP_r (ok r0.1 r0.2 c0 (by decide) (by decide)))
  refine xP_b (st r0.1) (fun v1 m1 r1 => ?_)
  dsimp only
  refine xP_i (fun c1 => ?_) (fun c1 => xP_r (ok r1.1 r1.2 c1 (by decide) (by decide)))
  refine xP_b (st r1.1) (fun v2 m2 r2 => ?_)
  dsimp only
  refine xP_i (fun c2 => ?_) (fun c2 => xP_r (ok r2.1 r2.2 c2 (by decide) (by decide)))
  refine xP_b (st r2.1) (fun v3 m3 r3 => ?_)
  dsimp only
  refine xP_i (fun c3 => ?_) (fun c3 => xP_r (ok r3.1 r3.2 c3 (by decide) (by decide)))
  refine xP_b (st r3.1) (fun v4 m4 r4 => ?_)
  dsimp only
  refine xP_i (fun c4 => ?_) (fun c4 => xP_r (ok r4.1 r4.2 c4 (by decide) (by decide)))
  refine xP_b (st r4.1) (fun v5 m5 r5 => ?_)
  dsimp only
  refine xP_i (fun c5 => ?_) (fun c5 => xP_r (ok r5.1 r5.2 c5 (by decide) (by decide)))
  refine xP_b (st r5.1) (fun v6 m6 r6 => ?_)
  dsimp only
  refine xP_i (fun c6 => ?_) (fun c6 => xP_r (ok r6.1 r6.2 c6 (by decide) (by decide)))
  refine xP_b (st r6.1) (fun v7 m7 r7 => ?_)
  dsimp only
  refine xP_i (fun c7 => ?_) (fun c7 => xP_r (ok r7.1 r7.2 c7 (by decide) (by decide)))
  refine xP_b (st r7.1) (fun v8 m8 r8 => ?_)
  dsimp only
  refine xP_i (fun c8 => ?_) (fun c8 => xP_r (ok r8.1 r8.2 c8 (by decide) (by decide)))
  refine xP_b (st r8.1) (fun v9 m9 r9 => ?_)
  dsimp only
  refine xP_i (fun c9 => ?_) (fun c9 => xP_r (ok r9.1 r9.2 c9 (by decide) (by decide)))
  refine xP_b (st r9.1) (fun v10 m10 r10 => ?_)
  dsimp only
  refine xP_i (fun c10 => ?_) (fun c10 => xP_r (ok r10.1 r10.2 c10 (by decide) (by decide)))
  refine xP_b (st r10.1) (fun v11 m11 r11 => ?_)
  dsimp only
  refine xP_i (fun c11 => ?_) (fun c11 => xP_r (ok r11.1 r11.2 c11 (by decide) (by decide)))
  refine xP_b (st r11.1) (fun v12 m12 r12 => ?_)
  dsimp only
  exact xP_i (fun _ => xP_r ⟨r12.1, Or.inl rfl⟩) (fun c => xP_r (ok r12.1 r12.2 c (by decide) (by decide)))
theorem zst_b {c : Int32} {k : Nat} (h0 : c.toInt % 16 ≠ 0) (h1 : c.toInt % 16 ≠ 1) (h2 : c.toInt % 16 ≠ 11) (h3 : 0 ≤ c.toInt ∧ c.toInt % 16 ≠ 15) (hk : 2 ≤ k) : zst c k = some (k - 1) := by
  unfold zst zs0
  rw [if_pos h3, if_neg h0, if_neg h1, if_neg h2, if_pos hk]
/-- value -/
theorem P177 (hF : 500 ≤ F) (p : xpr t b D K m) : xP (D177 F m) (xV t b xMS m (D + 1) K) := by
  have p0 := p
  obtain ⟨p1, p2, p3, p4, p5, p6, p7⟩ := p
  have bm : (m.1 70 12).toInt ≤ 60 := (p2 70 12 (0, 60) rfl).2
  unfold D177 D177_39
  refine xP_b (P164 hF p2 p3) (fun v0 m1 q => ?_)
  obtain ⟨q1, q2, q3, q4, -⟩ := q
  have w1 : xWp m m1 := ⟨q1, q2, q3, q4⟩
  have pr1 := xpr_w p0 w1
  have b1 := xT8 q1
  have e1 : m1.1 70 1 = m.1 70 1 := q2.2 70 1 (by decide)
  dsimp only
  refine xP_b (P165 (F := F) (a := m1.1 70 8) q1 (by omega)) (fun v1 mx q => ?_)
  obtain ⟨rfl, dg⟩ := q
  dsimp only
  refine xP_i (fun c => ?_) (fun c => ?_)
  · refine xP_b (P171 hF q1 pr1.2.2.1) (fun v2 m2 q => ?_)
    obtain ⟨w2, r⟩ := q
    have pr2 := xpr_w pr1 w2
    have x2 : xq t xMS m m2 := xq_t rfl (xq_w w1) (xq_w w2)
    dsimp only
    refine xP_i (fun c2 => ?_) (fun c2 => ?_)
    · have c2 : (0 : Int) ≤ v2.toInt := zt c2
      obtain ⟨r1, r2, r3⟩ : 0 ≤ v2.toInt ∧ v2.toInt ≤ 12 ∧ xlt m2 97 122 (m2.1 70 8) := by
        rcases r with r | r
        · rw [r] at c2
          exact absurd c2 (by decide)
        · exact r
      refine xP_b (P173 (F := F) (a := mx.1 70 8) w2.1 ⟨by omega, by omega⟩) (fun v3 m3 q => ?_)
      obtain ⟨s1, s2, s3⟩ := q
      have mm : (m2.1 70 12).toInt ≤ (m3.1 70 12).toInt := by rcases s3 with s3 | s3 <;> omega
      obtain ⟨y1, y2⟩ := xmk (t := t) pr2.2.2.1 s1 s2 mm
      have pr3 := y2 pr2
      have x3 := xq_t rfl x2 y1
      dsimp only
      refine xP_i (fun c3 => ?_) (fun c3 => ?_)
      · have c3 : v3 ≠ 0 := znet c3
        have s4 : (m3.1 70 12).toInt = (m2.1 70 12).toInt + 1 := by
          rcases s3 with s3 | s3
          · exact absurd s3.1 c3
          · exact s3.2
        refine xP_b (P168 hF s1 pr3.2.2.1) (fun v4 m4 q => ?_)
        obtain ⟨w4, u⟩ := q
        have r4 : xlt m3 97 122 (m3.1 70 8) := by
          rw [s2.2 70 8 (by decide)]
          exact xlt_f s2 rfl (fun _ => rfl) r3
        have u := u r4
        have pr4 := xpr_w pr3 w4
        have x4 := xq_t rfl x3 (xq_w w4)
        have g2 : (D : Int) ≤ (m2.1 70 12).toInt := pr2.2.2.2.2.2.2.2.2
        have b3 : (m3.1 70 12).toInt ≤ 60 := (s1 70 12 (0, 60) rfl).2
        have e4 : m4.1 70 12 = m3.1 70 12 := w4.2.1.2 70 12 (by decide)
        have l4 : (m4.1 73 t).toInt + (K + 1) ≤ (m4.1 70 8).toInt := by
          have := pr3.2.2.2.2.2.1
          have e : m4.1 73 t = m3.1 73 t := w4.2.1.2 73 t rfl
          show (m4.1 73 t).toInt + (K + 1) ≤ (m4.1 70 8).toInt
          rw [e]
          omega
        dsimp only
        have ec : (1 + 16 * v2).toInt = 1 + 16 * v2.toInt := by
          have a1 : (16 * v2).toInt = 16 * v2.toInt := xm1 (by show _ ≤ (16 : Int) * _; omega) (by show (16 : Int) * _ ≤ _; omega)
          exact (xa1 (by show _ ≤ (1 : Int) + _; omega) (by show (1 : Int) + _ ≤ _; omega)).trans (by rw [a1]; rfl)
        refine xP_b (P172 (F := F) (D2 := D + 1) (xpr_q pr4 (M := xMS) rfl rfl (by omega) (xq_r pr4.2.1 pr4.2.2.1) pr4.2.2.2.2.2.2 l4) p5 ?_ ?_) (fun v5 m5 q => ?_)
        · unfold zst zs0
          rw [ec, if_pos ⟨by omega, by omega⟩, if_neg (by omega), if_pos (by omega), if_pos ⟨by omega, by omega, by omega⟩]
        · show ((D + 1 : Nat) : Int) ≤ (m4.1 70 12).toInt
          rw [e4]
          omega
        · obtain ⟨z1, z2, z3⟩ := q
          exact xP_r ⟨xq_t rfl x4 (xq_l (by decide) z1), Or.inr ⟨rfl, z2, z3⟩⟩
      · have c3 : v3 = 0 := zne c3
        refine xP_r ⟨x3, Or.inl ⟨rfl, ?_⟩⟩
        rcases s3 with s3 | s3
        · exact s3.2.1
        · rw [c3] at s3
          exact absurd s3.1 (by decide)
    · refine xP_b (P163 (F := F) (k := 0) (a := mx.1 70 8) w2.1 ⟨by decide, by decide⟩ ⟨by omega, by omega⟩) (fun v3 m3 q => ?_)
      obtain ⟨s1, s2, s3, s4⟩ := q
      dsimp only
      rw [s1]
      exact xP_g (by decide) (xP_r ⟨xq_t rfl x2 (xq_9 pr2.2.2.1 s2 s3), Or.inl ⟨rfl, s4⟩⟩)
  · refine xP_b (P170 (lo := 0) (hi := 99999) hF q1 pr1.2.2.1) (fun v2 m2 q => ?_)
    obtain ⟨w2, r⟩ := q
    have pr2 := xpr_n pr1 w2
    have x2 : xq t xMS m m2 := xq_t rfl (xq_w w1) (xq_n w2)
    dsimp only
    refine xP_i (fun c2 => ?_) (fun c2 => ?_)
    · have c2 : v2 = 0 := zeq c2
      refine xP_r ⟨x2, Or.inl ⟨rfl, ?_⟩⟩
      rcases r with r | r
      · exact r.2
      · rw [c2] at r
        exact absurd r.1 (by decide)
    · have c2 : v2 ≠ 0 := zneq c2
      have r : (mx.1 70 8).toInt < (m2.1 70 8).toInt := by
        rcases r with r | r
        · exact absurd r.1 c2
        · exact r.2
      refine xP_b (P173 (F := F) (a := mx.1 70 8) w2.1 ⟨by omega, by omega⟩) (fun v3 m3 q => ?_)
      obtain ⟨s1, s2, s3⟩ := q
      have mm : (m2.1 70 12).toInt ≤ (m3.1 70 12).toInt := by rcases s3 with s3 | s3 <;> omega
      obtain ⟨y1, y2⟩ := xmk (t := t) pr2.2.2.1 s1 s2 mm
      have pr3 := y2 pr2
      have x3 := xq_t rfl x2 y1
      dsimp only
      refine xP_i (fun c3 => ?_) (fun c3 => ?_)
      · have c3 : v3 ≠ 0 := znet c3
        have s4 : (m3.1 70 12).toInt = (m2.1 70 12).toInt + 1 := by
          rcases s3 with s3 | s3
          · exact absurd s3.1 c3
          · exact s3.2
        have g2 : (D : Int) ≤ (m2.1 70 12).toInt := pr2.2.2.2.2.2.2.2.2
        have b3 : (m3.1 70 12).toInt ≤ 60 := (s1 70 12 (0, 60) rfl).2
        have bn : 0 ≤ (m3.1 70 10).toInt ∧ (m3.1 70 10).toInt ≤ 99999 := s1 70 10 (0, 99999) rfl
        have l3 : (m3.1 73 t).toInt + (K + 1) ≤ (m3.1 70 8).toInt := by
          have := pr1.2.2.2.2.2.1
          have e : m3.1 73 t = m2.1 73 t := s2.2 73 t rfl
          have e' : m2.1 73 t = mx.1 73 t := w2.2.1.2 73 t rfl
          have e8 : m3.1 70 8 = m2.1 70 8 := s2.2 70 8 (by decide)
          have l1 : (mx.1 73 t).toInt + K ≤ (mx.1 70 8).toInt := this
          show (m3.1 73 t).toInt + (K + 1) ≤ (m3.1 70 8).toInt
          rw [e, e', e8]
          omega
        have ec : (0 + 16 * m3.1 70 10).toInt = 16 * (m3.1 70 10).toInt := by
          have a1 : (16 * m3.1 70 10).toInt = 16 * (m3.1 70 10).toInt := xm1 (by show _ ≤ (16 : Int) * _; omega) (by show (16 : Int) * _ ≤ _; omega)
          exact (xa1 (by show _ ≤ (0 : Int) + _; omega) (by show (0 : Int) + _ ≤ _; omega)).trans (by rw [a1]; show (0 : Int) + _ = _; omega)
        refine xP_b (P172 (F := F) (D2 := D + 1) (xpr_q pr3 (M := xMS) rfl rfl (by omega) (xq_r pr3.2.1 pr3.2.2.1) pr3.2.2.2.2.2.2 l3) p5 ?_ ?_) (fun v5 m5 q => ?_)
        · unfold zst zs0
          rw [ec, if_pos ⟨by omega, by omega⟩, if_pos (by omega), if_pos (by omega)]
        · omega
        · obtain ⟨z1, z2, z3⟩ := q
          exact xP_r ⟨xq_t rfl x3 (xq_l (by decide) z1), Or.inr ⟨rfl, z2, z3⟩⟩
      · have c3 : v3 = 0 := zne c3
        refine xP_r ⟨x3, Or.inl ⟨rfl, ?_⟩⟩
        rcases s3 with s3 | s3
        · exact s3.2.1
        · rw [c3] at s3
          exact absurd s3.1 (by decide)
end XCOD
