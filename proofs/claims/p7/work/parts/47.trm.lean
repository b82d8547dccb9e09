/-! Terms, sums, comparisons. -/
section XTRM
variable {F t b D : Nat} {m m' : xS} {K : Int}
/-- a byte is passed -/
theorem xpass (p : xpr t b D K m) (lt : (m.1 70 8).toInt < (m.1 70 1).toInt) : xWp m (xu m 70 8 (m.1 70 8 + 1)) ∧ ((xu m 70 8 (m.1 70 8 + 1)).1 70 8).toInt = (m.1 70 8).toInt + 1 ∧ xpr t b D (K + 1) (xu m 70 8 (m.1 70 8 + 1)) := by
  have bb := xT8 p.2.1
  have e1 : (m.1 70 8 + 1).toInt = (m.1 70 8).toInt + 1 := xa1 (by show _ ≤ _ + (1 : Int); omega) (by show _ + (1 : Int) ≤ _; omega)
  have e2 : ((xu m 70 8 (m.1 70 8 + 1)).1 70 8).toInt = (m.1 70 8).toInt + 1 := by rw [xu_s]; exact e1
  have w : xWp m (xu m 70 8 (m.1 70 8 + 1)) := ⟨xT_c p.2.1 (v := m.1 70 8 + 1) (i := 70) (j := 8) rfl (by omega) (by omega), xfr_u (by decide), by omega, by omega⟩
  have pr := xpr_w p w
  refine ⟨w, e2, xpr_q pr (M := xMS) rfl rfl (by have := p.2.2.2.2.1; omega) (xq_r pr.2.1 pr.2.2.1) pr.2.2.2.2.2.2 ?_⟩
  have l : (m.1 73 t).toInt + K ≤ (m.1 70 8).toInt := p.2.2.2.2.2.1
  show (m.1 73 t).toInt + (K + 1) ≤ _
  omega
theorem P178_74 {g : xS → Option (Int32 × xS)} {w : Int32} (hF : 500 ≤ F) (p : xpr t b D K m) (hD : 1 ≤ D) (lt : (m.1 70 8).toInt < (m.1 70 1).toInt) (hw : ∀ k, 2 ≤ k → zst (w + 16 * 0) k = some (k - 1)) (hg : ∀ m', xpr t b D K m' → (m.1 70 8).toInt < (m'.1 70 8).toInt → (m'.1 70 1).toInt = (m.1 70 1).toInt → xP (g m') (xV t b xMS m' D K)) : xP (D178_74 F g w m) (xV t b xMS m D K) := by
  obtain ⟨w1, e1, p1⟩ := xpass p lt
  unfold D178_74
  refine xP_b (P177 hF p1) (fun v m2 q => ?_)
  obtain ⟨q1, q2⟩ := q
  have x2 : xq t xMS m m2 := xq_t rfl (xq_w w1) q1
  dsimp only
  refine xP_i (fun c => ?_) (fun c => ?_)
  · have c : v ≠ 0 := znet c
    obtain ⟨q3, q4⟩ : xg t b (D + 1) m2 ∧ (m2.1 73 t).toInt + (K + 1) ≤ (m2.1 70 8).toInt := by
      rcases q2 with q2 | q2
      · exact absurd q2.1 c
      · exact q2.2
    have p2 : xpr t b (D + 1) (K + 1) m2 := xpr_q p1 rfl rfl p1.2.2.2.2.1 q1 q3 q4
    refine xP_b (P172 (F := F) (D2 := D) p2 p.2.2.2.2.1 (hw (D + 1) (by omega)) ?_) (fun v3 m3 q => ?_)
    · have : ((D + 1 : Nat) : Int) ≤ (m2.1 70 12).toInt := q3.2.2
      omega
    · obtain ⟨z1, z2, z3⟩ := q
      have z1 : xq t xMS m2 m3 := xq_l (by decide) z1
      have x3 := xq_t rfl x2 z1
      have p3 : xpr t b D K m3 := xpr_q p rfl rfl p.2.2.2.2.1 x3 z2 z3
      have et : m3.1 70 1 = m.1 70 1 := x3.2.1.2 70 1 rfl
      have n3 : (m.1 70 8).toInt < (m3.1 70 8).toInt := by
        have h1 : ((xu m 70 8 (m.1 70 8 + 1)).1 70 8).toInt ≤ (m2.1 70 8).toInt := q1.2.2.1
        have h2 : (m2.1 70 8).toInt ≤ (m3.1 70 8).toInt := z1.2.2.1
        omega
      dsimp only
      refine xP_m (hg m3 p3 n3 (by rw [et])) (fun v4 m4 q => ?_)
      exact ⟨xq_t rfl x3 q.1, q.2⟩
  · have c : v = 0 := zne c
    refine xP_r ⟨x2, Or.inl ⟨rfl, ?_⟩⟩
    rcases q2 with q2 | q2
    · exact q2.2
    · rw [c] at q2
      exact absurd q2.1 (by decide)
theorem zst_k {w : Int32} (h : (decide ((w + 16 * 0).toInt % 16 ≠ 0) && (decide ((w + 16 * 0).toInt % 16 ≠ 1) && (decide ((w + 16 * 0).toInt % 16 ≠ 11) && (decide (0 ≤ (w + 16 * 0).toInt) && decide ((w + 16 * 0).toInt % 16 ≠ 15))))) = true) : ∀ k, 2 ≤ k → zst (w + 16 * 0) k = some (k - 1) := by
  simp only [Bool.and_eq_true, decide_eq_true_eq] at h
  exact fun k hk => zst_b h.1 h.2.1 h.2.2.1 h.2.2.2 hk
theorem P178_36 {g : xS → Option (Int32 × xS)} (hF : 500 ≤ F) (p : xpr t b D K m) (hD : 1 ≤ D) (lt : (m.1 70 8).toInt < (m.1 70 1).toInt) (hg : ∀ m', xpr t b D K m' → (m.1 70 8).toInt < (m'.1 70 8).toInt → (m'.1 70 1).toInt = (m.1 70 1).toInt → xP (g m') (xV t b xMS m' D K)) : xP (D178_36 F g m) (xV t b xMS m D K) := by
  have bb := xT8 p.2.1
  have ib : xib (m.1 70 8) 400 = true := xib_t (by omega) (by omega)
  unfold D178_36
  exact xP_g ib (xP_i (fun _ => xP_g ib (xP_i (fun _ => P178_74 hF p hD lt (zst_k (by decide)) hg) (fun _ => P178_74 hF p hD lt (zst_k (by decide)) hg))) (fun _ => P178_74 hF p hD lt (zst_k (by decide)) hg))
/-- what see says of where it stands -/
theorem xsee {v c : Int32} {m1 : xS} (q : (v = -1 ∧ (m1.1 70 8).toInt = (m.1 70 1).toInt) ∨ (v = m.1 71 (m1.1 70 8).toNatClampNeg &&& 255 ∧ (m1.1 70 8).toInt < (m.1 70 1).toInt)) (h : v = c) (hc : c ≠ -1) : (m1.1 70 8).toInt < (m.1 70 1).toInt := by
  rcases q with q | q
  · exact absurd (h.symm.trans q.1) hc
  · exact q.2
theorem P178_9 (hF : 500 ≤ F) : ∀ (f : Nat) {m : xS}, xpr t b D K m → 1 ≤ D → (m.1 70 1).toInt - (m.1 70 8).toInt < f → xP (D178_9 F f m) (xV t b xMS m D K)
  | 0, m, p, hD, hf => by have := p.2.2.1; omega
  | f + 1, m, p, hD, hf => by
    have again : ∀ {m0 : xS}, xWp m m0 → (m0.1 70 8).toInt < (m0.1 70 1).toInt → xP (D178_36 F (D178_9 F f) m0) (xV t b xMS m D K) := by
      intro m0 w lt
      have p0 := xpr_w p w
      have et : m0.1 70 1 = m.1 70 1 := w.2.1.2 70 1 rfl
      have n0 := w.2.2.1
      refine xP_m (P178_36 hF p0 hD lt (fun m' p' h1 h2 => P178_9 hF f p' hD ?_)) (fun v m' q => ⟨xq_t rfl (xq_w w) q.1, q.2⟩)
      rw [h2, et]
      omega
    unfold D178_9
    refine xP_b (P164 hF p.2.1 p.2.2.1) (fun v1 m1 q => ?_)
    obtain ⟨q1, q2, q3, q4, q5⟩ := q
    have w1 : xWp m m1 := ⟨q1, q2, q3, q4⟩
    have et1 : m1.1 70 1 = m.1 70 1 := q2.2 70 1 rfl
    dsimp only
    refine xP_i (fun c => again w1 ?_) (fun _ => ?_)
    · rw [et1]
      exact xsee q5 (zeq c) (by decide)
    refine xP_b (P164 hF q1 (by rw [et1]; exact q4)) (fun v2 m2 r => ?_)
    obtain ⟨r1, r2, r3, r4, r5⟩ := r
    have et2 : m2.1 70 1 = m1.1 70 1 := r2.2 70 1 rfl
    have w2 : xWp m m2 := ⟨r1, xfr_t q2 r2, by omega, by rw [et1] at r4; exact r4⟩
    dsimp only
    refine xP_i (fun c => again w2 ?_) (fun _ => ?_)
    · rw [et2]
      exact xsee r5 (zeq c) (by decide)
    refine xP_b (P164 hF r1 (by rw [et2]; exact r4)) (fun v3 m3 s => ?_)
    obtain ⟨s1, s2, s3, s4, s5⟩ := s
    have et3 : m3.1 70 1 = m2.1 70 1 := s2.2 70 1 rfl
    have w3 : xWp m m3 := ⟨s1, xfr_t (xfr_t q2 r2) s2, by omega, by rw [et2, et1] at s4; exact s4⟩
    have p3 := xpr_w p w3
    dsimp only
    refine xP_i (fun c => xP_r ⟨xq_w w3, Or.inr ⟨rfl, p3.2.2.2.2.2.2, p3.2.2.2.2.2.1⟩⟩) (fun c => again w3 ?_)
    rw [et3]
    exact xsee s5 (zne c) (by decide)
/-- term -/
theorem P178 (hF : 500 ≤ F) (p : xpr t b D K m) : xP (D178 F m) (xV t b xMS m (D + 1) K) := by
  unfold D178
  refine xP_b (P177 hF p) (fun v m1 q => ?_)
  obtain ⟨q1, q2⟩ := q
  dsimp only
  refine xP_i (fun c => ?_) (fun c => ?_)
  · have c : v ≠ 0 := znet c
    obtain ⟨q3, q4⟩ : xg t b (D + 1) m1 ∧ (m1.1 73 t).toInt + K ≤ (m1.1 70 8).toInt := by
      rcases q2 with q2 | q2
      · exact absurd q2.1 c
      · exact q2.2
    have p1 : xpr t b (D + 1) K m1 := xpr_q p rfl rfl p.2.2.2.2.1 q1 q3 q4
    have bb := xT8 p1.2.1
    exact xP_m (P178_9 hF F p1 (by omega) (by omega)) (fun v m' q => ⟨xq_t rfl q1 q.1, q.2⟩)
  · have c : v = 0 := zne c
    refine xP_r ⟨q1, Or.inl ⟨rfl, ?_⟩⟩
    rcases q2 with q2 | q2
    · exact q2.2
    · rw [c] at q2
      exact absurd q2.1 (by decide)
theorem P179_46 {g : xS → Option (Int32 × xS)} {w : Int32} (hF : 500 ≤ F) (p : xpr t b D K m) (hD : 1 ≤ D) (lt : (m.1 70 8).toInt < (m.1 70 1).toInt) (hw : ∀ k, 2 ≤ k → zst (w + 16 * 0) k = some (k - 1)) (hg : ∀ m', xpr t b D K m' → (m.1 70 8).toInt < (m'.1 70 8).toInt → (m'.1 70 1).toInt = (m.1 70 1).toInt → xP (g m') (xV t b xMS m' D K)) : xP (D179_46 F g w m) (xV t b xMS m D K) := by
  obtain ⟨w1, e1, p1⟩ := xpass p lt
  unfold D179_46
  refine xP_b (P178 hF p1) (fun v m2 q => ?_)
  obtain ⟨q1, q2⟩ := q
  have x2 : xq t xMS m m2 := xq_t rfl (xq_w w1) q1
  dsimp only
  refine xP_i (fun c => ?_) (fun c => ?_)
  · have c : v ≠ 0 := znet c
    obtain ⟨q3, q4⟩ : xg t b (D + 1) m2 ∧ (m2.1 73 t).toInt + (K + 1) ≤ (m2.1 70 8).toInt := by
      rcases q2 with q2 | q2
      · exact absurd q2.1 c
      · exact q2.2
    have p2 : xpr t b (D + 1) (K + 1) m2 := xpr_q p1 rfl rfl p1.2.2.2.2.1 q1 q3 q4
    refine xP_b (P172 (F := F) (D2 := D) p2 p.2.2.2.2.1 (hw (D + 1) (by omega)) ?_) (fun v3 m3 q => ?_)
    · have : ((D + 1 : Nat) : Int) ≤ (m2.1 70 12).toInt := q3.2.2
      omega
    · obtain ⟨z1, z2, z3⟩ := q
      have z1 : xq t xMS m2 m3 := xq_l (by decide) z1
      have x3 := xq_t rfl x2 z1
      have p3 : xpr t b D K m3 := xpr_q p rfl rfl p.2.2.2.2.1 x3 z2 z3
      have et : m3.1 70 1 = m.1 70 1 := x3.2.1.2 70 1 rfl
      have n3 : (m.1 70 8).toInt < (m3.1 70 8).toInt := by
        have h1 : ((xu m 70 8 (m.1 70 8 + 1)).1 70 8).toInt ≤ (m2.1 70 8).toInt := q1.2.2.1
        have h2 : (m2.1 70 8).toInt ≤ (m3.1 70 8).toInt := z1.2.2.1
        omega
      dsimp only
      refine xP_m (hg m3 p3 n3 (by rw [et])) (fun v4 m4 q => ?_)
      exact ⟨xq_t rfl x3 q.1, q.2⟩
  · have c : v = 0 := zne c
    refine xP_r ⟨x2, Or.inl ⟨rfl, ?_⟩⟩
    rcases q2 with q2 | q2
    · exact q2.2
    · rw [c] at q2
      exact absurd q2.1 (by decide)
theorem P179_27 {g : xS → Option (Int32 × xS)} (hF : 500 ≤ F) (p : xpr t b D K m) (hD : 1 ≤ D) (lt : (m.1 70 8).toInt < (m.1 70 1).toInt) (hg : ∀ m', xpr t b D K m' → (m.1 70 8).toInt < (m'.1 70 8).toInt → (m'.1 70 1).toInt = (m.1 70 1).toInt → xP (g m') (xV t b xMS m' D K)) : xP (D179_27 F g m) (xV t b xMS m D K) := by
  have bb := xT8 p.2.1
  have ib : xib (m.1 70 8) 400 = true := xib_t (by omega) (by omega)
  unfold D179_27
  exact xP_g ib (xP_i (fun _ => P179_46 hF p hD lt (zst_k (by decide)) hg) (fun _ => P179_46 hF p hD lt (zst_k (by decide)) hg))
theorem P179_9 (hF : 500 ≤ F) : ∀ (f : Nat) {m : xS}, xpr t b D K m → 1 ≤ D → (m.1 70 1).toInt - (m.1 70 8).toInt < f → xP (D179_9 F f m) (xV t b xMS m D K)
  | 0, m, p, hD, hf => by have := p.2.2.1; omega
  | f + 1, m, p, hD, hf => by
    have again : ∀ {m0 : xS}, xWp m m0 → (m0.1 70 8).toInt < (m0.1 70 1).toInt → xP (D179_27 F (D179_9 F f) m0) (xV t b xMS m D K) := by
      intro m0 w lt
      have p0 := xpr_w p w
      have et : m0.1 70 1 = m.1 70 1 := w.2.1.2 70 1 rfl
      have n0 := w.2.2.1
      refine xP_m (P179_27 hF p0 hD lt (fun m' p' h1 h2 => P179_9 hF f p' hD ?_)) (fun v m' q => ⟨xq_t rfl (xq_w w) q.1, q.2⟩)
      rw [h2, et]
      omega
    unfold D179_9
    refine xP_b (P164 hF p.2.1 p.2.2.1) (fun v1 m1 q => ?_)
    obtain ⟨q1, q2, q3, q4, q5⟩ := q
    have w1 : xWp m m1 := ⟨q1, q2, q3, q4⟩
    have et1 : m1.1 70 1 = m.1 70 1 := q2.2 70 1 rfl
    dsimp only
    refine xP_i (fun c => again w1 ?_) (fun _ => ?_)
    · rw [et1]
      exact xsee q5 (zeq c) (by decide)
    refine xP_b (P164 hF q1 (by rw [et1]; exact q4)) (fun v2 m2 r => ?_)
    obtain ⟨r1, r2, r3, r4, r5⟩ := r
    have et2 : m2.1 70 1 = m1.1 70 1 := r2.2 70 1 rfl
    have w2 : xWp m m2 := ⟨r1, xfr_t q2 r2, by omega, by rw [et1] at r4; exact r4⟩
    have p2 := xpr_w p w2
    dsimp only
    refine xP_i (fun c => xP_r ⟨xq_w w2, Or.inr ⟨rfl, p2.2.2.2.2.2.2, p2.2.2.2.2.2.1⟩⟩) (fun c => again w2 ?_)
    rw [et2]
    exact xsee r5 (zne c) (by decide)
/-- sum -/
theorem P179 (hF : 500 ≤ F) (p : xpr t b D K m) : xP (D179 F m) (xV t b xMS m (D + 1) K) := by
  unfold D179
  refine xP_b (P178 hF p) (fun v m1 q => ?_)
  obtain ⟨q1, q2⟩ := q
  dsimp only
  refine xP_i (fun c => ?_) (fun c => ?_)
  · have c : v ≠ 0 := znet c
    obtain ⟨q3, q4⟩ : xg t b (D + 1) m1 ∧ (m1.1 73 t).toInt + K ≤ (m1.1 70 8).toInt := by
      rcases q2 with q2 | q2
      · exact absurd q2.1 c
      · exact q2.2
    have p1 : xpr t b (D + 1) K m1 := xpr_q p rfl rfl p.2.2.2.2.1 q1 q3 q4
    have bb := xT8 p1.2.1
    exact xP_m (P179_9 hF F p1 (by omega) (by omega)) (fun v m' q => ⟨xq_t rfl q1 q.1, q.2⟩)
  · have c : v = 0 := zne c
    refine xP_r ⟨q1, Or.inl ⟨rfl, ?_⟩⟩
    rcases q2 with q2 | q2
    · exact q2.2
    · rw [c] at q2
      exact absurd q2.1 (by decide)
/-- compare -/
theorem xfail {v : Int32} {m2 : xS} {D2 D3 : Nat} {K2 K3 : Int} {M : yM} (h1 : yinM M 70 1 = false) (x : xq t M m m') (q : xV t b M m' D2 K2 v m2) (c : v = 0) : xV t b M m D3 K3 0 m2 := by
  refine ⟨xq_t h1 x q.1, Or.inl ⟨rfl, ?_⟩⟩
  rcases q.2 with z | z
  · exact z.2
  · rw [c] at z
    exact absurd z.1 (by decide)
theorem xgood {v : Int32} {m2 : xS} {D2 : Nat} {K2 : Int} {M : yM} (q : xV t b M m' D2 K2 v m2) (c : v ≠ 0) : xg t b D2 m2 ∧ (m2.1 73 t).toInt + K2 ≤ (m2.1 70 8).toInt := by
  rcases q.2 with z | z
  · exact absurd z.1 c
  · exact z.2
theorem P180_152 {a1 a2 a3 w : Int32} (hF : 500 ≤ F) (p : xpr t b (D + 1) (K + 1) m) (hK : 0 ≤ K) (hw : ∀ k, 2 ≤ k → zst (6 + w + 16 * 0) k = some (k - 1)) : xP (D180_152 F a1 a2 a3 w m) (xV t b xMS m (D + 1) K) := by
  unfold D180_152
  refine xP_b (P179 hF p) (fun v m1 q => ?_)
  dsimp only
  refine xP_i (fun c => ?_) (fun c => xP_r (xfail rfl (xq_r p.2.1 p.2.2.1) q (zne c)))
  obtain ⟨q3, q4⟩ := xgood q (znet c)
  have p1 : xpr t b (D + 1 + 1) (K + 1) m1 := xpr_q p rfl rfl p.2.2.2.2.1 q.1 q3 q4
  refine xP_b (P172 (F := F) (D2 := D + 1) p1 hK (hw (D + 1 + 1) (by omega)) ?_) (fun v3 m3 z => ?_)
  · have : ((D + 1 + 1 : Nat) : Int) ≤ (m1.1 70 12).toInt := q3.2.2
    omega
  · obtain ⟨z1, z2, z3⟩ := z
    exact xP_r ⟨xq_t rfl q.1 (xq_l (by decide) z1), Or.inr ⟨rfl, z2, z3⟩⟩
theorem P180_105 {a1 a2 a3 : Int32} (hF : 500 ≤ F) (p : xpr t b (D + 1) (K + 1) m) (hK : 0 ≤ K) (ha : 0 ≤ a2.toInt ∧ a2.toInt ≤ 400) : xP (D180_105 F a1 a2 a3 m) (xV t b xMS m (D + 1) K) := by
  unfold D180_105
  refine xP_b (P173 (F := F) (a := a2) p.2.1 ha) (fun v m1 q => ?_)
  obtain ⟨s1, s2, s3⟩ := q
  have mm : (m.1 70 12).toInt ≤ (m1.1 70 12).toInt := by rcases s3 with s3 | s3 <;> omega
  obtain ⟨y1, y2⟩ := xmk (t := t) p.2.2.1 s1 s2 mm
  have p1 := y2 p
  have go : ∀ {w : Int32}, (∀ k, 2 ≤ k → zst (6 + w + 16 * 0) k = some (k - 1)) → xP (D180_152 F a1 a2 a3 w m1) (xV t b xMS m (D + 1) K) := fun hw => xP_m (P180_152 hF p1 hK hw) (fun v m' q => ⟨xq_t rfl y1 q.1, q.2⟩)
  dsimp only
  refine xP_i (fun c => ?_) (fun c => ?_)
  · exact xP_i (fun _ => xP_i (fun _ => xP_i (fun _ => go (zst_k (w := 6 + 4) (by decide))) (fun _ => go (zst_k (w := 6 + 3) (by decide)))) (fun _ => go (zst_k (w := 6 + 2) (by decide)))) (fun _ => xP_i (fun _ => go (zst_k (w := 6 + 0) (by decide))) (fun _ => go (zst_k (w := 6 + 1) (by decide))))
  · have c : v = 0 := zne c
    refine xP_r ⟨y1, Or.inl ⟨rfl, ?_⟩⟩
    rcases s3 with s3 | s3
    · exact s3.2.1
    · rw [c] at s3
      exact absurd s3.1 (by decide)
theorem P180_90 {a1 a2 w : Int32} (hF : 500 ≤ F) (p : xpr t b (D + 1) (K + 1) m) (hK : 0 ≤ K) (ha : 0 ≤ a2.toInt ∧ a2.toInt ≤ 400) (lt : w ≠ 0 → (m.1 70 8).toInt < (m.1 70 1).toInt) : xP (D180_90 F a1 a2 w m) (xV t b xMS m (D + 1) K) := by
  unfold D180_90
  refine xP_i (fun _ => P180_105 hF p hK ha) (fun c => ?_)
  obtain ⟨w1, -, -⟩ := xpass p (lt (zneq c))
  exact xP_m (P180_105 hF (xpr_w p w1) hK ha) (fun v m' q => ⟨xq_t rfl (xq_w w1) q.1, q.2⟩)
theorem P180_44 {a1 a2 : Int32} (hF : 500 ≤ F) (p : xpr t b (D + 1) K m) (lt : (m.1 70 8).toInt < (m.1 70 1).toInt) (ha : 0 ≤ a2.toInt ∧ a2.toInt ≤ 400) : xP (D180_44 F a1 a2 m) (xV t b xMS m (D + 1) K) := by
  have bb := xT8 p.2.1
  obtain ⟨w1, e1, p1⟩ := xpass p lt
  have e2 : (m.1 70 8 + 1).toInt = (m.1 70 8).toInt + 1 := by rw [xu_s] at e1; exact e1
  have z0 : xP (D180_90 F a1 a2 0 (xu m 70 8 (m.1 70 8 + 1))) (xV t b xMS m (D + 1) K) := xP_m (P180_90 hF p1 p.2.2.2.2.1 ha (fun z => absurd rfl z)) (fun v m' q => ⟨xq_t rfl (xq_w w1) q.1, q.2⟩)
  unfold D180_44 D180_89
  refine xP_i (fun _ => z0) (fun _ => xP_i (fun _ => z0) (fun c => ?_))
  have c : ¬ (m.1 70 1).toInt ≤ (m.1 70 8 + 1).toInt := zf c
  refine xP_g (xib_t (by omega) (by omega)) (xP_i (fun _ => z0) (fun _ => ?_))
  refine xP_m (P180_90 hF p1 p.2.2.2.2.1 ha (fun _ => ?_)) (fun v m' q => ⟨xq_t rfl (xq_w w1) q.1, q.2⟩)
  rw [e1]
  show _ < (m.1 70 1).toInt
  omega
theorem P180 (hF : 500 ≤ F) (p : xpr t b D K m) : xP (D180 F m) (xV t b xMS m (D + 1) K) := by
  unfold D180
  refine xP_b (P179 hF p) (fun v m1 q => ?_)
  dsimp only
  refine xP_i (fun c => ?_) (fun c => xP_r (xfail rfl (xq_r p.2.1 p.2.2.1) q (zne c)))
  obtain ⟨q3, q4⟩ := xgood q (znet c)
  have p1 : xpr t b (D + 1) K m1 := xpr_q p rfl rfl p.2.2.2.2.1 q.1 q3 q4
  refine xP_b (P164 hF p1.2.1 p1.2.2.1) (fun v2 m2 r => ?_)
  obtain ⟨r1, r2, r3, r4, r5⟩ := r
  have w2 : xWp m1 m2 := ⟨r1, r2, r3, r4⟩
  have p2 := xpr_w p1 w2
  have bb := xT8 r1
  have et : m2.1 70 1 = m1.1 70 1 := r2.2 70 1 rfl
  have x2 : xq t xMS m m2 := xq_t rfl q.1 (xq_w w2)
  have go : ∀ {k : Int32}, v2 = k → k ≠ -1 → xP (D180_44 F v2 (m2.1 70 8) m2) (xV t b xMS m (D + 1) K) := fun h1 h2 => xP_m (P180_44 hF p2 (by rw [et]; exact xsee r5 h1 h2) ⟨by omega, by omega⟩) (fun v m' q => ⟨xq_t rfl x2 q.1, q.2⟩)
  dsimp only
  refine xP_i (fun c => go (zeq c) (by decide)) (fun _ => xP_i (fun c => go (zeq c) (by decide)) (fun _ => xP_i (fun c => go (zeq c) (by decide)) (fun _ => ?_)))
  refine xP_b (P163 (F := F) (k := 0) (a := m2.1 70 8) r1 ⟨by decide, by decide⟩ ⟨by omega, by omega⟩) (fun v3 m3 s => ?_)
  obtain ⟨s1, s2, s3, s4⟩ := s
  dsimp only
  rw [s1]
  exact xP_g (by decide) (xP_r ⟨xq_t rfl x2 (xq_9 p2.2.2.1 s2 s3), Or.inl ⟨rfl, s4⟩⟩)
end XTRM
