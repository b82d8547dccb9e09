/-! Closing brackets; whole tests. -/
section XCLO
variable {F t b D : Nat} {m m' : xS} {K : Int}
theorem x0K (p : xpr t b D ((m.1 70 16).toInt) m) : xpr t b D ((m.1 70 16).toInt + 0) m := by
  rw [Int.add_zero]
  exact p
theorem zsn_l {c : Int32} (h : (zsn c).toInt < 1) : ¬ (c = 12 ∨ c = 13) := fun z => by
  rcases z with rfl | rfl
  · exact absurd h (by decide)
  · exact absurd h (by decide)
theorem xB_top (h : 0 < (m.1 70 16).toInt) : xB m = zbc (m.1 77) (((m.1 70 16).toInt).toNat - 1) + (if m.1 77 (((m.1 70 16).toInt).toNat - 1) = 12 ∨ m.1 77 (((m.1 70 16).toInt).toNat - 1) = 13 then 1 else 0) := by
  unfold xB
  rw [show ((m.1 70 16).toInt).toNat = (((m.1 70 16).toInt).toNat - 1) + 1 by omega]
  rfl
theorem P183_5 (hF : 500 ≤ F) : ∀ (f : Nat) {m : xS}, xpr t b (xB m + 1) ((m.1 70 16).toInt) m → (m.1 70 1).toInt - (m.1 70 8).toInt < f → xP (D183_5 F f m) (fun _ m' => xq t xMT m m' ∧ xpr t b (xB m' + 1) ((m'.1 70 16).toInt) m')
  | 0, m, p, hf => by have := p.2.2.1; omega
  | f + 1, m, p, hf => by
    unfold D183_5
    refine xP_b (P164 hF p.2.1 p.2.2.1) (fun v1 m1 q => ?_)
    obtain ⟨q1, q2, q3, q4, q5⟩ := q
    have w1 : xWp m m1 := ⟨q1, q2, q3, q4⟩
    obtain ⟨b1, b2⟩ := xB_f q2 (fun _ => rfl) rfl
    have p1 : xpr t b (xB m1 + 1) ((m1.1 70 16).toInt) m1 := by
      rw [b1, b2]
      exact xpr_w p w1
    have x1 : xq t xMT m m1 := xq_l (by decide) (xq_w w1)
    have et1 : m1.1 70 1 = m.1 70 1 := q2.2 70 1 rfl
    dsimp only
    refine xP_i (fun _ => xP_r ⟨x1, p1⟩) (fun c => ?_)
    have lt : (m1.1 70 8).toInt < (m.1 70 1).toInt := xsee q5 (zne c) (by decide)
    refine xP_b (P182 hF q1) (fun v2 mx r => ?_)
    obtain ⟨rfl, r⟩ := r
    dsimp only
    refine xP_i (fun _ => xP_r ⟨x1, p1⟩) (fun c2 => ?_)
    obtain ⟨j, j1, j2⟩ : ∃ j : Nat, (j : Int) < (mx.1 70 16).toInt ∧ mx.1 77 j = 91 := by
      rcases r with r | r
      · exact absurd r (zneq c2)
      · exact r.2
    refine xP_b (P176 (l := 1) (K := 0) hF (Int.le_refl (1 : Int)) (Int.le_refl _) (x0K p1)) (fun _ m2 s => ?_)
    obtain ⟨s1, s2, s3, s4, s5⟩ := s
    have s4 := s4 j j1 j2
    have a2 : m2.1 77 = mx.1 77 := funext fun k => s1.2.1.2 77 k rfl
    have tp' : ¬ (m2.1 77 (((m2.1 70 16).toInt).toNat - 1) = 12 ∨ m2.1 77 (((m2.1 70 16).toInt).toNat - 1) = 13) := by
      rw [a2]
      rcases s5 with s5 | s5
      · omega
      · exact zsn_l s5
    have B2 := xB_top (m := m2) (by omega)
    rw [if_neg tp'] at B2
    have bo := xT16 s3.2.1
    have bb := xT8 s3.2.1
    have et2 : m2.1 70 1 = mx.1 70 1 := s1.2.1.2 70 1 rfl
    have e16 : (m2.1 70 16 - 1).toInt = (m2.1 70 16).toInt - 1 := xs1 (by show _ ≤ _ - (1 : Int); omega) (by show _ - (1 : Int) ≤ _; omega)
    have e8 : (m2.1 70 8 + 1).toInt = (m2.1 70 8).toInt + 1 := xa1 (by show _ ≤ _ + (1 : Int); omega) (by show _ + (1 : Int) ≤ _; omega)
    have l3 : (m2.1 70 8).toInt + 1 ≤ (m2.1 70 1).toInt := by
      rw [et2, et1]
      omega
    have hT3 : xT (xu (xu (xu m2 70 16 (m2.1 70 16 - 1)) 70 13 (m2.1 70 13 - 1)) 70 8 (m2.1 70 8 + 1)) := xT_c (xT_c (xT_c s3.2.1 (i := 70) (j := 16) rfl (by omega) (by omega)) (i := 70) (j := 13) (lo := -2147483648) (hi := 2147483647) rfl (y32 _).1 (by have := (y32 (m2.1 70 13 - 1)).2; omega)) (i := 70) (j := 8) rfl (by omega) (by omega)
    have n3 : ((xu (xu (xu m2 70 16 (m2.1 70 16 - 1)) 70 13 (m2.1 70 13 - 1)) 70 8 (m2.1 70 8 + 1)).1 70 8).toInt = (m2.1 70 8).toInt + 1 := by rw [xu_s]; exact e8
    have o3 : ((xu (xu (xu m2 70 16 (m2.1 70 16 - 1)) 70 13 (m2.1 70 13 - 1)) 70 8 (m2.1 70 8 + 1)).1 70 16).toInt = (m2.1 70 16).toInt - 1 := e16
    have f3 : xfr xMT m2 (xu (xu (xu m2 70 16 (m2.1 70 16 - 1)) 70 13 (m2.1 70 13 - 1)) 70 8 (m2.1 70 8 + 1)) := xfr_t (xfr_t (xfr_u rfl) (xfr_u rfl)) (xfr_u rfl)
    have x3 : xq t xMT m2 (xu (xu (xu m2 70 16 (m2.1 70 16 - 1)) 70 13 (m2.1 70 13 - 1)) 70 8 (m2.1 70 8 + 1)) := ⟨hT3, f3, by omega, by omega, Int.le_refl _, Int.le_refl _, fun _ _ => rfl⟩
    have B3 : xB (xu (xu (xu m2 70 16 (m2.1 70 16 - 1)) 70 13 (m2.1 70 13 - 1)) 70 8 (m2.1 70 8 + 1)) = xB m2 := by
      rw [B2]
      unfold xB
      rw [o3]
      show zbc (m2.1 77) _ = _
      congr 1
      omega
    have p3 : xpr t b (xB (xu (xu (xu m2 70 16 (m2.1 70 16 - 1)) 70 13 (m2.1 70 13 - 1)) 70 8 (m2.1 70 8 + 1)) + 1) ((xu (xu (xu m2 70 16 (m2.1 70 16 - 1)) 70 13 (m2.1 70 13 - 1)) 70 8 (m2.1 70 8 + 1)).1 70 16).toInt (xu (xu (xu m2 70 16 (m2.1 70 16 - 1)) 70 13 (m2.1 70 13 - 1)) 70 8 (m2.1 70 8 + 1)) := by
      rw [B3, o3]
      refine xpr_q s3 (M := xMT) rfl rfl (by omega) x3 s3.2.2.2.2.2.2 ?_
      have l : (m2.1 73 t).toInt + ((m2.1 70 16).toInt + 0) ≤ (m2.1 70 8).toInt := s3.2.2.2.2.2.1
      rw [n3]
      show (m2.1 73 t).toInt + ((m2.1 70 16).toInt - 1) ≤ _
      omega
    have x2 : xq t xMT m m2 := xq_t rfl x1 (xq_l (by decide) s1)
    have x4 := xq_t rfl x2 x3
    dsimp only
    refine xP_b (P176 (l := 3) (K := 0) hF (by decide) (Int.le_refl _) (x0K p3)) (fun _ m5 u => ?_)
    obtain ⟨u1, u2, u3, -, -⟩ := u
    have x5 : xq t xMT m m5 := xq_t rfl x4 (xq_l (by decide) u1)
    have et5 : m5.1 70 1 = m.1 70 1 := x5.2.1.2 70 1 rfl
    rw [Int.add_zero] at u3
    dsimp only
    refine xP_m (P183_5 hF f u3 ?_) (fun _ m6 z => ⟨xq_t rfl x5 z.1, z.2⟩)
    rw [et5, u2, n3]
    omega
theorem P183 (hF : 500 ≤ F) (p : xpr t b (xB m + 1) ((m.1 70 16).toInt) m) : xP (D183 F m) (fun _ m' => xq t xMT m m' ∧ xpr t b (xB m' + 1) ((m'.1 70 16).toInt) m') := by
  unfold D183
  refine xP_b (P176 (l := 3) (K := 0) hF (by decide) (Int.le_refl _) (x0K p)) (fun _ m1 u => ?_)
  obtain ⟨u1, u2, u3, -, -⟩ := u
  rw [Int.add_zero] at u3
  have bb := xT8 u3.2.1
  have x1 : xq t xMT m m1 := xq_l (by decide) u1
  dsimp only
  exact xP_m (P183_5 hF F u3 (by omega)) (fun _ m6 z => ⟨xq_t rfl x1 z.1, z.2⟩)
/-- tested -/
def xVE (t b : Nat) (m : xS) (v : Int32) (m' : xS) : Prop := xq t xMT m m' ∧ ((v = 0 ∧ 1 ≤ (m'.1 70 9).toInt) ∨ (v = 1 ∧ (∃ D, 1 ≤ D ∧ xg t b D m') ∧ (m'.1 73 t).toInt ≤ (m'.1 70 8).toInt))
theorem xVE_t {v : Int32} {m2 : xS} (x : xq t xMT m m') (q : xVE t b m' v m2) : xVE t b m v m2 := ⟨xq_t rfl x q.1, q.2⟩
theorem P175p {c : Int32} : xP (D175 F c m) (fun v m' => v = zsn c ∧ m' = m) := ⟨_, P175, rfl, rfl⟩
theorem P184_76 {g : Int32 → xS → Option (Int32 × xS)} {v w : Int32} (hF : 500 ≤ F) (p : xpr t b (xB m + 1) ((m.1 70 16).toInt) m) (le : xlt m 97 122 (m.1 70 8)) (hw : w = 12 ∨ w = 13) (hl : 1 ≤ (zsn w).toInt) (hg : ∀ m', xpr t b (xB m') ((m'.1 70 16).toInt) m' → (m.1 70 8).toInt < (m'.1 70 8).toInt → (m'.1 70 1).toInt = (m.1 70 1).toInt → xP (g v m') (xVE t b m')) : xP (D184_76 F g v w m) (xVE t b m) := by
  unfold D184_76
  refine xP_b (P168 hF p.2.1 p.2.2.1) (fun _ m1 u => ?_)
  obtain ⟨w1, u2⟩ := u
  have u2 := u2 le
  obtain ⟨b1, b2⟩ := xB_f w1.2.1 (fun _ => rfl) rfl
  have p0 := xpr_w p w1
  have bo := xT16 p0.2.1
  have p1 : xpr t b (xB m1 + 1) ((m1.1 70 16).toInt + 1) m1 := by
    rw [b1, b2]
    refine xpr_q p0 (M := xMT) rfl rfl (by have := p.2.2.2.2.1; omega) (xq_r p0.2.1 p0.2.2.1) p0.2.2.2.2.2.2 ?_
    have l : (m.1 73 t).toInt + (m.1 70 16).toInt ≤ (m.1 70 8).toInt := p.2.2.2.2.2.1
    rw [w1.2.1.2 73 t rfl]
    omega
  have x1 : xq t xMT m m1 := xq_l (by decide) (xq_w w1)
  dsimp only
  refine xP_b P175p (fun vs mx q => ?_)
  obtain ⟨rfl, rfl⟩ := q
  dsimp only
  refine xP_b (P176 (l := zsn w) (K := 1) hF hl (by decide) p1) (fun _ m2 s => ?_)
  obtain ⟨s1, s2, s3, -, -⟩ := s
  have bo2 := xT16 s3.2.1
  have bb := xT8 s3.2.1
  have l2 : (m2.1 73 t).toInt + ((m2.1 70 16).toInt + 1) ≤ (m2.1 70 8).toInt := s3.2.2.2.2.2.1
  have n2 : (m2.1 70 8).toInt ≤ (m2.1 70 1).toInt := s3.2.2.1
  have bl : 0 ≤ (m2.1 73 t).toInt := (s3.2.1 73 t _ (xbn_a (k := 0) (n := 7) (ec := 11) (by decide) rfl (by decide) (by have := p.1; omega))).1
  have e16 : (m2.1 70 16 + 1).toInt = (m2.1 70 16).toInt + 1 := xa1 (by show _ ≤ _ + (1 : Int); omega) (by show _ + (1 : Int) ≤ _; omega)
  have e2 : (m2.1 70 16).toNatClampNeg = ((m2.1 70 16).toInt).toNat := rfl
  dsimp only
  rw [e2]
  refine xP_g (xib_t (by omega) (by omega)) ?_
  have hT3 : xT (xu (xu m2 77 ((m2.1 70 16).toInt).toNat w) 70 16 (m2.1 70 16 + 1)) := xT_c (xT_c s3.2.1 (lo := -2147483648) (hi := 2147483647) (xbn_a (k := 0) (n := 400) (ec := 0) (by decide) rfl (by decide) (by omega)) (y32 _).1 (by have := (y32 w).2; omega)) (i := 70) (j := 16) rfl (by omega) (by omega)
  have o3 : ((xu (xu m2 77 ((m2.1 70 16).toInt).toNat w) 70 16 (m2.1 70 16 + 1)).1 70 16).toInt = (m2.1 70 16).toInt + 1 := by rw [xu_s]; exact e16
  have x3 : xq t xMT m2 (xu (xu m2 77 ((m2.1 70 16).toInt).toNat w) 70 16 (m2.1 70 16 + 1)) := ⟨hT3, xfr_t (xfr_u rfl) (xfr_u rfl), Int.le_refl _, n2, Int.le_refl _, Int.le_refl _, fun _ _ => rfl⟩
  have a3 : ∀ j, (xu (xu m2 77 ((m2.1 70 16).toInt).toNat w) 70 16 (m2.1 70 16 + 1)).1 77 j = if j = ((m2.1 70 16).toInt).toNat then w else m2.1 77 j := fun j => by
    refine (xu_o (fun z => by omega)).trans ?_
    by_cases z : j = ((m2.1 70 16).toInt).toNat
    · rw [if_pos z, z, xu_s]
    · rw [if_neg z]
      exact xu_o (fun y => z y.2)
  have B3 : xB (xu (xu m2 77 ((m2.1 70 16).toInt).toNat w) 70 16 (m2.1 70 16 + 1)) = xB m2 + 1 := by
    unfold xB
    rw [o3, show ((m2.1 70 16).toInt + 1).toNat = ((m2.1 70 16).toInt).toNat + 1 by omega]
    show zbc _ _ + _ = _
    rw [a3, if_pos rfl, if_pos hw, zbc_c (f := m2.1 77) (fun j hj => by rw [a3, if_neg (by omega)])]
  have p3 : xpr t b (xB (xu (xu m2 77 ((m2.1 70 16).toInt).toNat w) 70 16 (m2.1 70 16 + 1))) ((xu (xu m2 77 ((m2.1 70 16).toInt).toNat w) 70 16 (m2.1 70 16 + 1)).1 70 16).toInt (xu (xu m2 77 ((m2.1 70 16).toInt).toNat w) 70 16 (m2.1 70 16 + 1)) := by
    rw [B3, o3]
    exact ⟨s3.1, hT3, s3.2.2.1, s3.2.2.2.1, by omega, l2, s3.2.2.2.2.2.2⟩
  have x2 : xq t xMT m m2 := xq_t rfl x1 (xq_l (by decide) s1)
  have x4 := xq_t rfl x2 x3
  refine xP_m (hg _ p3 ?_ ?_) (fun v4 m4 z => xVE_t x4 z)
  · show (m.1 70 8).toInt < (m2.1 70 8).toInt
    omega
  · exact congrArg Int32.toInt (x4.2.1.2 70 1 rfl)
theorem P184_54 {g : Int32 → xS → Option (Int32 × xS)} {v : Int32} (hF : 500 ≤ F) (p : xpr t b (xB m + 1) ((m.1 70 16).toInt) m) (le : xlt m 97 122 (m.1 70 8)) (hg : ∀ m', xpr t b (xB m') ((m'.1 70 16).toInt) m' → (m.1 70 8).toInt < (m'.1 70 8).toInt → (m'.1 70 1).toInt = (m.1 70 1).toInt → xP (g 1 m') (xVE t b m')) : xP (D184_54 F g v 1 m) (xVE t b m) := by
  unfold D184_54
  refine xP_i (fun c => absurd (zeq c) (by decide)) (fun _ => ?_)
  refine xP_b (P167i hF p.2.1 le.1 (xlt_nb le)) (fun v2 m2 r => ?_)
  obtain ⟨rfl, r⟩ := r
  dsimp only
  exact xP_i (fun _ => P184_76 hF p le (Or.inr rfl) (by decide) hg) (fun _ => P184_76 hF p le (Or.inl rfl) (by decide) hg)
theorem P184_12 (hF : 500 ≤ F) : ∀ (f : Nat) {k : Int32} {m : xS}, ((k = 1 ∧ xpr t b (xB m) ((m.1 70 16).toInt) m) ∨ (k = 0 ∧ xpr t b (xB m + 1) ((m.1 70 16).toInt) m)) → (m.1 70 1).toInt - (m.1 70 8).toInt + k.toInt < f → xP (D184_12 F f k m) (xVE t b m)
  | 0, k, m, p, hf => by
    rcases p with ⟨rfl, p⟩ | ⟨rfl, p⟩
    · have := p.2.2.1
      have hf : (m.1 70 1).toInt - (m.1 70 8).toInt + (1 : Int) < 0 := hf
      omega
    · have := p.2.2.1
      have hf : (m.1 70 1).toInt - (m.1 70 8).toInt + (0 : Int) < 0 := hf
      omega
  | f + 1, k, m, p, hf => by
    unfold D184_12
    rcases p with ⟨rfl, p⟩ | ⟨rfl, p⟩
    · have hf : (m.1 70 1).toInt - (m.1 70 8).toInt + (1 : Int) < ((f + 1 : Nat) : Int) := hf
      refine xP_i (fun c => absurd (zeq c) (by decide)) (fun _ => ?_)
      refine xP_b (P181 hF p) (fun v1 m1 q => ?_)
      obtain ⟨q1, q2⟩ := q
      dsimp only
      refine xP_i (fun c => ?_) (fun c => ?_)
      · have p1 : xpr t b (xB m1 + 1) ((m1.1 70 16).toInt) m1 := by
          rcases q2 with q2 | q2
          · exact absurd q2.1 (znet c)
          · exact q2.2
        refine xP_b (P183 hF p1) (fun _ m2 r => ?_)
        obtain ⟨r1, p2⟩ := r
        have x2 := xq_t rfl q1 r1
        dsimp only
        refine xP_b (P167 hF p2.2.1 p2.2.2.1) (fun v3 m3 s => ?_)
        obtain ⟨w3, s3⟩ := s
        obtain ⟨b3, b4⟩ := xB_f w3.2.1 (fun _ => rfl) rfl
        have p3 : xpr t b (xB m3 + 1) ((m3.1 70 16).toInt) m3 := by
          rw [b3, b4]
          exact xpr_w p2 w3
        have x3 : xq t xMT m m3 := xq_t rfl x2 (xq_l (by decide) (xq_w w3))
        have et3 : m3.1 70 1 = m.1 70 1 := x3.2.1.2 70 1 rfl
        have n3 := x3.2.2.1
        have go : ∀ m4 : xS, (m3.1 70 8).toInt ≤ (m4.1 70 8).toInt → (m4.1 70 1).toInt = (m3.1 70 1).toInt → ∀ m' : xS, xpr t b (xB m') ((m'.1 70 16).toInt) m' → (m4.1 70 8).toInt < (m'.1 70 8).toInt → (m'.1 70 1).toInt = (m4.1 70 1).toInt → xP (D184_12 F f 1 m') (xVE t b m') := by
          intro m4 h1 h2 m' p' h3 h4
          refine P184_12 hF f (Or.inl ⟨rfl, p'⟩) ?_
          show (m'.1 70 1).toInt - (m'.1 70 8).toInt + (1 : Int) < f
          rw [h4, h2, et3]
          omega
        dsimp only
        refine xP_i (fun c3 => ?_) (fun c3 => ?_)
        · have le : xlt m3 97 122 (m3.1 70 8) := by
            rcases s3 with s3 | s3
            · exact absurd s3 (znet c3)
            · exact s3.2
          unfold D184_49
          exact xP_m (P184_54 hF p3 le (go m3 (Int.le_refl _) rfl)) (fun v m' z => xVE_t x3 z)
        · refine xP_b (P167 hF p3.2.1 p3.2.2.1) (fun v4 m4 u => ?_)
          obtain ⟨w4, u4⟩ := u
          obtain ⟨b5, b6⟩ := xB_f w4.2.1 (fun _ => rfl) rfl
          have p4 : xpr t b (xB m4 + 1) ((m4.1 70 16).toInt) m4 := by
            rw [b5, b6]
            exact xpr_w p3 w4
          have x4 : xq t xMT m m4 := xq_t rfl x3 (xq_l (by decide) (xq_w w4))
          have et4 : m4.1 70 1 = m3.1 70 1 := w4.2.1.2 70 1 rfl
          have n4 := w4.2.2.1
          dsimp only
          refine xP_i (fun c4 => ?_) (fun c4 => ?_)
          · unfold D184_54
            refine xP_i (fun _ => ?_) (fun z => absurd rfl (zneq z))
            refine xP_m (P184_12 hF f (Or.inr ⟨rfl, p4⟩) ?_) (fun v m' z => xVE_t x4 z)
            show (m4.1 70 1).toInt - (m4.1 70 8).toInt + (0 : Int) < f
            rw [et4, et3]
            omega
          · have le : xlt m4 97 122 (m4.1 70 8) := by
              rcases u4 with u4 | u4
              · exact absurd u4 (zneq c4)
              · exact u4.2
            unfold D184_49
            exact xP_m (P184_54 hF p4 le (go m4 n4 (by rw [et4]))) (fun v m' z => xVE_t x4 z)
      · refine xP_r ⟨q1, Or.inl ⟨rfl, ?_⟩⟩
        rcases q2 with q2 | q2
        · exact q2.2
        · exact absurd ((zne c).symm.trans q2.1) (by decide)
    · refine xP_i (fun _ => ?_) (fun c => absurd rfl (zneq c))
      refine xP_b (P182 hF p.2.1) (fun v1 mx r => ?_)
      obtain ⟨rfl, r⟩ := r
      dsimp only
      refine xP_i (fun _ => ?_) (fun _ => ?_)
      · refine xP_b (P176 (l := 1) (K := 0) hF (Int.le_refl (1 : Int)) (Int.le_refl _) (x0K p)) (fun _ m2 s => ?_)
        obtain ⟨s1, s2, s3, -, -⟩ := s
        have bo := xT16 s3.2.1
        have l2 : (m2.1 73 t).toInt + ((m2.1 70 16).toInt + 0) ≤ (m2.1 70 8).toInt := s3.2.2.2.2.2.1
        exact xP_r ⟨xq_l (by decide) s1, Or.inr ⟨rfl, ⟨_, Nat.le_add_left 1 _, s3.2.2.2.2.2.2⟩, by show (m2.1 73 t).toInt ≤ (m2.1 70 8).toInt; omega⟩⟩
      · refine xP_b (P164 hF p.2.1 p.2.2.1) (fun v2 m2 q => ?_)
        obtain ⟨q1, q2, q3, q4, -⟩ := q
        have w2 : xWp mx m2 := ⟨q1, q2, q3, q4⟩
        have p2 := xpr_w p w2
        have bb := xT8 q1
        dsimp only
        refine xP_b (P163 (F := F) (k := 0) (a := m2.1 70 8) q1 ⟨by decide, by decide⟩ ⟨by omega, by omega⟩) (fun v3 m3 s => ?_)
        obtain ⟨s1, s2, s3, s4⟩ := s
        dsimp only
        rw [s1]
        exact xP_g (by decide) (xP_r ⟨xq_t rfl (xq_l (by decide) (xq_w w2)) (xq_l (by decide) (xq_9 (t := t) p2.2.2.1 s2 s3)), Or.inl ⟨rfl, s4⟩⟩)
theorem P184 (hF : 500 ≤ F) (p : xpr t b 0 0 m) : xP (D184 F m) (xVE t b m) := by
  have bb := xT8 p.2.1
  unfold D184
  have hT : xT (xu (xu m 70 16 0) 70 13 0) := xT_c (xT_c p.2.1 (i := 70) (j := 16) rfl (by decide) (by decide)) (i := 70) (j := 13) (lo := -2147483648) (hi := 2147483647) rfl (by decide) (by decide)
  have x1 : xq t xMT m (xu (xu m 70 16 0) 70 13 0) := ⟨hT, xfr_t (xfr_u rfl) (xfr_u rfl), Int.le_refl _, p.2.2.1, Int.le_refl _, Int.le_refl _, fun _ _ => rfl⟩
  refine xP_m (P184_12 hF F (k := 1) (Or.inl ⟨rfl, ?_⟩) ?_) (fun v m' z => xVE_t x1 z)
  · exact ⟨p.1, hT, p.2.2.1, p.2.2.2.1, Int.le_refl (0 : Int), p.2.2.2.2.2.1, p.2.2.2.2.2.2⟩
  · show (m.1 70 1).toInt - (m.1 70 8).toInt + (1 : Int) < F
    omega
end XCLO
