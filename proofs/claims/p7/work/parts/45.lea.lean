/-! Words, numbers. -/
section XWRD
variable {F : Nat} {m : xS}
theorem x0 {v : Int32} (h : v.toInt = 0) : v = 0 := by
  rw [yofI h]
  rfl
theorem P167_10 {w : Int64} : ∀ (f : Nat) {v3 : Int64} {v5 : Int32} {m : xS}, xT m → 0 ≤ v5.toInt → (m.1 70 8).toInt + v5.toInt ≤ (m.1 70 1).toInt → (m.1 70 1).toInt - (m.1 70 8).toInt - v5.toInt < f → (0 < v5.toInt → xlt m 97 122 (m.1 70 8)) → xP (D167_10 F f w v3 v5 m) (fun v m' => m' = m ∧ (v = 0 ∨ (v = 1 ∧ xlt m 97 122 (m.1 70 8))))
  | 0, v3, v5, m, h, h1, h2, h3, h4 => by omega
  | f + 1, v3, v5, m, h, h1, h2, h3, h4 => by
    have b := xT8 h
    have e1 : (m.1 70 8 + v5).toInt = (m.1 70 8).toInt + v5.toInt := xa1 (by omega) (by omega)
    unfold D167_10 D167_50 D167_78
    refine xP_b (P166 (F := F) (a := m.1 70 8 + v5) h (by omega)) (fun v m1 q => ?_)
    obtain ⟨rfl, q⟩ := q
    dsimp only
    refine xP_i (fun c => ?_) (fun c => ?_)
    · refine xP_i (fun _ => xP_r ⟨rfl, Or.inl rfl⟩) (fun c2 => xP_i (fun _ => xP_r ⟨rfl, Or.inl rfl⟩) (fun _ => xP_i (fun _ => xP_r ⟨rfl, Or.inl rfl⟩) (fun _ => ?_)))
      have c2 : ¬ v5.toInt ≤ (0 : Int) := zf c2
      exact xP_r ⟨rfl, Or.inr ⟨rfl, h4 (by omega)⟩⟩
    · have c : v ≠ 0 := zneq c
      have q : xlt m1 97 122 (m1.1 70 8 + v5) := by
        rcases q with q | q
        · exact absurd q.1 c
        · exact q.2
      have lt : (m1.1 70 8).toInt + v5.toInt < (m1.1 70 1).toInt := by have := q.1; omega
      have e2 : (v5 + Int32.ofInt 1).toInt = v5.toInt + 1 := xa1 (by show _ ≤ _ + (1 : Int); omega) (by show _ + (1 : Int) ≤ _; omega)
      have fst : 0 < (v5 + Int32.ofInt 1).toInt → xlt m1 97 122 (m1.1 70 8) := by
        intro _
        by_cases z : 0 < v5.toInt
        · exact h4 z
        · have z : v5 = 0 := x0 (by omega)
          subst z
          have e : m1.1 70 8 + 0 = m1.1 70 8 := Int32.add_zero _
          rw [e] at q
          exact q
      refine xP_i (fun _ => ?_) (fun _ => xP_g (xib_t (by omega) (by omega)) ?_)
      · exact P167_10 f h (by omega) (by omega) (by omega) fst
      · exact P167_10 f h (by omega) (by omega) (by omega) fst
abbrev xWp (m : xS) (m' : xS) : Prop := xT m' ∧ xfr xM8 m m' ∧ (m.1 70 8).toInt ≤ (m'.1 70 8).toInt ∧ (m'.1 70 8).toInt ≤ (m.1 70 1).toInt
/-- isWord -/
theorem P167 {w : Int64} (hF : 500 ≤ F) (h : xT m) (h2 : (m.1 70 8).toInt ≤ (m.1 70 1).toInt) : xP (D167 F w m) (fun v m' => xWp m m' ∧ (v = 0 ∨ (v = 1 ∧ xlt m' 97 122 (m'.1 70 8)))) := by
  unfold D167
  refine xP_b (P164 hF h h2) (fun v m1 q => ?_)
  obtain ⟨q1, q2, q3, q4, -⟩ := q
  have e : m1.1 70 1 = m.1 70 1 := q2.2 70 1 (by decide)
  have b := xT8 q1
  dsimp only
  refine xP_m (P167_10 F q1 (Int.le_refl (0 : Int)) (by rw [e]; show _ + (0 : Int) ≤ _; omega) (by show _ - (0 : Int) < _; omega) (fun z => absurd z (by decide))) (fun v2 m2 q => ?_)
  obtain ⟨rfl, q⟩ := q
  exact ⟨⟨q1, q2, q3, q4⟩, q⟩
/-- passWord -/
theorem P168_0 : ∀ (f : Nat) {m : xS}, xT m → (m.1 70 8).toInt ≤ (m.1 70 1).toInt → (m.1 70 1).toInt - (m.1 70 8).toInt < f → xP (D168_0 F f m) (fun _ m' => xWp m m' ∧ (xlt m 97 122 (m.1 70 8) → (m.1 70 8).toInt < (m'.1 70 8).toInt))
  | 0, m, h, h2, h3 => by omega
  | f + 1, m, h, h2, h3 => by
    have b := xT8 h
    unfold D168_0
    refine xP_b (P166 (F := F) (a := m.1 70 8) h (by omega)) (fun v m1 q => ?_)
    obtain ⟨rfl, q⟩ := q
    dsimp only
    refine xP_i (fun c => ?_) (fun c => ?_)
    · have c : v = 0 := zeq c
      refine xP_r ⟨⟨h, xfr_r _ _, Int.le_refl _, h2⟩, fun z => ?_⟩
      rcases q with q | q
      · exact absurd z q.2
      · rw [c] at q
        exact absurd q.1 (by decide)
    · have c : v ≠ 0 := zneq c
      have q : xlt m1 97 122 (m1.1 70 8) := by
        rcases q with q | q
        · exact absurd q.1 c
        · exact q.2
      have lt := q.1
      have e1 : (m1.1 70 8 + 1).toInt = (m1.1 70 8).toInt + 1 := xa1 (by show _ ≤ _ + (1 : Int); omega) (by show _ + (1 : Int) ≤ _; omega)
      have e2 : ((xu m1 70 8 (m1.1 70 8 + 1)).1 70 8).toInt = (m1.1 70 8).toInt + 1 := by rw [xu_s]; exact e1
      have e3 : (xu m1 70 8 (m1.1 70 8 + 1)).1 70 1 = m1.1 70 1 := rfl
      refine xP_m (P168_0 f (xT_c h (v := m1.1 70 8 + 1) (i := 70) (j := 8) rfl (by omega) (by omega)) (by rw [e2, e3]; omega) (by rw [e2, e3]; omega)) (fun v m' q => ?_)
      obtain ⟨⟨q1, q2, q3, q4⟩, -⟩ := q
      rw [e2] at q3
      exact ⟨⟨q1, xfr_t (xfr_u (by decide)) q2, by omega, q4⟩, fun _ => by omega⟩
theorem P168 (hF : 500 ≤ F) (h : xT m) (h2 : (m.1 70 8).toInt ≤ (m.1 70 1).toInt) : xP (D168 F m) (fun _ m' => xWp m m' ∧ (xlt m 97 122 (m.1 70 8) → (m.1 70 8).toInt < (m'.1 70 8).toInt)) := by
  have b := xT8 h
  exact P168_0 F h h2 (by omega)
/-- takesWord -/
theorem P169 {w : Int64} (hF : 500 ≤ F) (h : xT m) (h2 : (m.1 70 8).toInt ≤ (m.1 70 1).toInt) : xP (D169 F w m) (fun v m' => xWp m m' ∧ (v = 0 ∨ v = 1)) := by
  unfold D169
  refine xP_b (P167 hF h h2) (fun v m1 q => ?_)
  obtain ⟨⟨q1, q2, q3, q4⟩, -⟩ := q
  have e : m1.1 70 1 = m.1 70 1 := q2.2 70 1 (by decide)
  dsimp only
  refine xP_i (fun c => ?_) (fun c => xP_r ⟨⟨q1, q2, q3, q4⟩, Or.inl rfl⟩)
  refine xP_b (P168 hF q1 (by rw [e]; exact q4)) (fun v m2 q => ?_)
  obtain ⟨⟨r1, r2, r3, r4⟩, -⟩ := q
  rw [e] at r4
  dsimp only
  exact xP_r ⟨⟨r1, xfr_t q2 r2, by omega, r4⟩, Or.inr rfl⟩
/-- numberHere -/
theorem P158 {a b c : Int64} : xP (D158 F a b c m) (fun v m' => m' = m ∧ (v = 0 ∨ v = 1)) := by
  unfold D158 D158_17
  exact xP_i (fun _ => xP_r ⟨rfl, Or.inl rfl⟩) (fun _ => xP_i (fun _ => xP_r ⟨rfl, Or.inl rfl⟩) (fun _ => xP_r ⟨rfl, Or.inr rfl⟩))
abbrev xNp (m : xS) (m' : xS) : Prop := xT m' ∧ xfr xM3 m m' ∧ (m.1 70 8).toInt ≤ (m'.1 70 8).toInt ∧ (m'.1 70 8).toInt ≤ (m.1 70 1).toInt
theorem P170_117 {a b c d : Int32} (h : xT m) (h2 : (m.1 70 8).toInt ≤ (m.1 70 1).toInt) (hc : 0 ≤ c.toInt ∧ c.toInt ≤ 400) : xP (D170_117 F a b c d m) (fun v m' => xNp m m' ∧ (m'.1 70 8).toInt = (m.1 70 8).toInt ∧ v = 0 ∧ 1 ≤ (m'.1 70 9).toInt) := by
  unfold D170_117 D170_126
  refine xP_b (P163 (F := F) (k := 1) (a := c) h ⟨by decide, by decide⟩ hc) (fun v m1 q => ?_)
  obtain ⟨q1, q2, q3, q4⟩ := q
  have e : m1.1 70 8 = m.1 70 8 := q3.2 70 8 (by decide)
  dsimp only
  refine xP_i (fun _ => xP_r ⟨⟨q2, xfr_l (by decide) q3, by rw [e]; exact Int.le_refl _, by rw [e]; exact h2⟩, by rw [e], rfl, q4⟩) (fun c2 => absurd q1 (zneq c2))
theorem P170_34 {lo hi v3 : Int32} : ∀ (f : Nat) {v4 : Int32} {m : xS}, xT m → (m.1 70 8).toInt ≤ (m.1 70 1).toInt → (m.1 70 1).toInt - (m.1 70 8).toInt < f → 0 ≤ v3.toInt → v3.toInt ≤ (m.1 70 8).toInt → 0 ≤ v4.toInt → v4.toInt < 100000 → ((m.1 70 8).toInt - v3.toInt = 0 → v4.toInt < 1) → ((m.1 70 8).toInt - v3.toInt = 1 → v4.toInt < 10) → ((m.1 70 8).toInt - v3.toInt = 2 → v4.toInt < 100) → ((m.1 70 8).toInt - v3.toInt = 3 → v4.toInt < 1000) → ((m.1 70 8).toInt - v3.toInt = 4 → v4.toInt < 10000) →
    xP (D170_34 F f lo hi v3 v4 m) (fun v m' => xNp m m' ∧ (xlt m 48 57 (m.1 70 8) → (m.1 70 8).toInt < (m'.1 70 8).toInt) ∧ ((v = 0 ∧ 1 ≤ (m'.1 70 9).toInt) ∨ v = 1))
  | 0, v4, m, h, h2, h3, g1, g2, g3, g4, k0, k1, k2, k3, k4 => by omega
  | f + 1, v4, m, h, h2, h3, g1, g2, g3, g4, k0, k1, k2, k3, k4 => by
    have b := xT8 h
    have es : (m.1 70 8 - v3).toInt = (m.1 70 8).toInt - v3.toInt := xs1 (by omega) (by omega)
    unfold D170_34 D170_126
    refine xP_b (P165 (F := F) (a := m.1 70 8) h (by omega)) (fun v m1 q => ?_)
    obtain ⟨rfl, q⟩ := q
    dsimp only
    refine xP_i (fun c => ?_) (fun c => ?_)
    · have c : v = 0 := zeq c
      have no : ¬ xlt m1 48 57 (m1.1 70 8) := by
        rcases q with q | q
        · exact q.2
        · rw [c] at q
          exact absurd q.1 (by decide)
      have hT : xT (xu m1 70 10 v4) := xT_c h (i := 70) (j := 10) rfl (by omega) (by show _ ≤ (99999 : Int); omega)
      have e8 : (xu m1 70 10 v4).1 70 8 = m1.1 70 8 := rfl
      have e1 : (xu m1 70 10 v4).1 70 1 = m1.1 70 1 := rfl
      have bad : xP (D170_117 F lo hi v3 v4 (xu m1 70 10 v4)) (fun v m' => xNp m1 m' ∧ (xlt m1 48 57 (m1.1 70 8) → (m1.1 70 8).toInt < (m'.1 70 8).toInt) ∧ ((v = 0 ∧ 1 ≤ (m'.1 70 9).toInt) ∨ v = 1)) := by
        refine xP_m (P170_117 hT (by rw [e8, e1]; exact h2) ⟨g1, by omega⟩) (fun v m' q => ?_)
        obtain ⟨⟨q1, q2, q3, q4⟩, -, q6, q7⟩ := q
        exact ⟨⟨q1, xfr_t (xfr_u (by decide)) q2, q3, q4⟩, fun z => absurd z no, Or.inl ⟨q6, q7⟩⟩
      refine xP_i (fun _ => bad) (fun _ => ?_)
      refine xP_b P158 (fun v5 m2 q5 => ?_)
      obtain ⟨rfl, q5⟩ := q5
      dsimp only
      refine xP_i (fun _ => xP_r ⟨⟨hT, xfr_u (by decide), Int.le_refl _, h2⟩, fun z => absurd z no, Or.inr rfl⟩) (fun _ => bad)
    · have c : v ≠ 0 := zneq c
      have q : xlt m1 48 57 (m1.1 70 8) := by
        rcases q with q | q
        · exact absurd q.1 c
        · exact q.2
      obtain ⟨lt, d1, d2⟩ := q
      have e1 : (m1.1 70 8 + 1).toInt = (m1.1 70 8).toInt + 1 := xa1 (by show _ ≤ _ + (1 : Int); omega) (by show _ + (1 : Int) ≤ _; omega)
      have e2 : ((xu m1 70 8 (m1.1 70 8 + 1)).1 70 8).toInt = (m1.1 70 8).toInt + 1 := by rw [xu_s]; exact e1
      have e3 : (xu m1 70 8 (m1.1 70 8 + 1)).1 70 1 = m1.1 70 1 := rfl
      have hT : xT (xu m1 70 8 (m1.1 70 8 + 1)) := xT_c h (v := m1.1 70 8 + 1) (i := 70) (j := 8) rfl (by omega) (by omega)
      have fin : ∀ {v : Int32} {m' : xS}, xNp (xu m1 70 8 (m1.1 70 8 + 1)) m' ∧ (xlt (xu m1 70 8 (m1.1 70 8 + 1)) 48 57 ((xu m1 70 8 (m1.1 70 8 + 1)).1 70 8) → ((xu m1 70 8 (m1.1 70 8 + 1)).1 70 8).toInt < (m'.1 70 8).toInt) ∧ ((v = 0 ∧ 1 ≤ (m'.1 70 9).toInt) ∨ v = 1) → xNp m1 m' ∧ (xlt m1 48 57 (m1.1 70 8) → (m1.1 70 8).toInt < (m'.1 70 8).toInt) ∧ ((v = 0 ∧ 1 ≤ (m'.1 70 9).toInt) ∨ v = 1) := by
        intro v m' q
        obtain ⟨⟨q1, q2, q3, q4⟩, -, q6⟩ := q
        rw [e2] at q3
        exact ⟨⟨q1, xfr_t (xfr_u (by decide)) q2, by omega, q4⟩, fun _ => by omega, q6⟩
      refine xP_i (fun c5 => ?_) (fun c5 => xP_g (xib_t (by omega) (by omega)) ?_)
      · have c5 : (5 : Int) ≤ (m1.1 70 8 - v3).toInt := zt c5
        unfold D170_75
        exact xP_m (P170_34 f hT (by rw [e2, e3]; omega) (by rw [e2, e3]; omega) g1 (by rw [e2]; omega) g3 g4 (by rw [e2]; omega) (by rw [e2]; omega) (by rw [e2]; omega) (by rw [e2]; omega) (by rw [e2]; omega)) (fun v m' q => fin q)
      · have c5 : ¬ (5 : Int) ≤ (m1.1 70 8 - v3).toInt := zf c5
        have hd : v4.toInt < 10000 := by omega
        have t1 : (10 * v4).toInt = 10 * v4.toInt := xm1 (by show _ ≤ (10 : Int) * _; omega) (by show (10 : Int) * _ ≤ _; omega)
        have t2 : (10 * v4 + m1.1 71 (m1.1 70 8).toNatClampNeg).toInt = 10 * v4.toInt + (m1.1 71 (m1.1 70 8).toNatClampNeg).toInt := (xa1 (by omega) (by omega)).trans (by rw [t1])
        have t3 : (10 * v4 + m1.1 71 (m1.1 70 8).toNatClampNeg - 48).toInt = 10 * v4.toInt + (m1.1 71 (m1.1 70 8).toNatClampNeg).toInt - 48 := (xs1 (by show _ ≤ _ - (48 : Int); omega) (by show _ - (48 : Int) ≤ _; omega)).trans (by rw [t2]; rfl)
        unfold D170_75
        refine xP_m (P170_34 f hT (by rw [e2, e3]; omega) (by rw [e2, e3]; omega) g1 (by rw [e2]; omega) ?_ ?_ ?_ ?_ ?_ ?_ ?_) (fun v m' q => fin q)
        · rw [t3]; omega
        · rw [t3]; omega
        · rw [t3, e2]; omega
        · rw [t3, e2]; omega
        · rw [t3, e2]; omega
        · rw [t3, e2]; omega
        · rw [t3, e2]; omega
theorem P170 {lo hi : Int32} (hF : 500 ≤ F) (h : xT m) (h2 : (m.1 70 8).toInt ≤ (m.1 70 1).toInt) : xP (D170 F lo hi m) (fun v m' => xNp m m' ∧ ((v = 0 ∧ 1 ≤ (m'.1 70 9).toInt) ∨ (v = 1 ∧ (m.1 70 8).toInt < (m'.1 70 8).toInt))) := by
  unfold D170
  refine xP_b (P164 hF h h2) (fun v m1 q => ?_)
  obtain ⟨q1, q2, q3, q4, -⟩ := q
  have e : m1.1 70 1 = m.1 70 1 := q2.2 70 1 (by decide)
  have b := xT8 q1
  have q2 : xfr xM3 m m1 := xfr_l (by decide) q2
  dsimp only
  refine xP_b (P165 (F := F) (a := m1.1 70 8) q1 (by omega)) (fun v2 m2 q => ?_)
  obtain ⟨rfl, q⟩ := q
  dsimp only
  refine xP_i (fun c => ?_) (fun c => ?_)
  · have c : v2 ≠ 0 := znet c
    have q : xlt m2 48 57 (m2.1 70 8) := by
      rcases q with q | q
      · exact absurd q.1 c
      · exact q.2
    refine xP_m (P170_34 F (v4 := 0) q1 (by rw [e]; exact q4) (by omega) (by omega) (Int.le_refl _) (Int.le_refl (0 : Int)) (by decide) (fun _ => by decide) (fun _ => by decide) (fun _ => by decide) (fun _ => by decide) (fun _ => by decide)) (fun v m' r => ?_)
    obtain ⟨⟨r1, r2, r3, r4⟩, r5, r6⟩ := r
    have r5 := r5 q
    rw [e] at r4
    exact ⟨⟨r1, xfr_t q2 r2, by omega, r4⟩, r6.imp_right (fun z => ⟨z, by omega⟩)⟩
  · refine xP_b (P163 (F := F) (k := 0) (a := m2.1 70 8) q1 ⟨by decide, by decide⟩ ⟨by omega, by omega⟩) (fun v m3 r => ?_)
    obtain ⟨r1, r2, r3, r4⟩ := r
    have e8 : m3.1 70 8 = m2.1 70 8 := r3.2 70 8 (by decide)
    dsimp only
    rw [r1]
    exact xP_g (by decide) (xP_r ⟨⟨r2, xfr_t q2 (xfr_l (by decide) r3), by rw [e8]; exact q3, by rw [e8]; exact q4⟩, Or.inl ⟨rfl, r4⟩⟩)
end XWRD
