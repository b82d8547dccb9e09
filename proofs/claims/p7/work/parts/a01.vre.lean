/-! The reference reads a village. -/
/-- what reading a village writes -/
abbrev vM : yM := [(70, 70, 1), (70, 70, 8), (70, 70, 9), (70, 70, 10), (70, 70, 11), (70, 70, 12), (70, 70, 14), (70, 70, 17), (70, 70, 18), (73, 73, 1000), (76, 76, 1000)]
def rV (m0 : xS) (b : Nat → Int) (n p : Nat) (ft : Int) (k : Nat) (s : Nat → Int) (m : xS) : Prop := (xT m ∧ xfr vM m0 m) ∧ rN m b n ∧ ((m.1 70 8).toInt = (p : Int) ∧ p ≤ n) ∧ (m.1 70 9).toInt = ft ∧ ((m.1 70 11).toInt = 6 ∧ (m.1 70 14).toInt = (k : Int)) ∧ ∀ j, j < 148 → (m.1 76 j).toInt = s j
def vrX (m0 : xS) (g : Int) (m : xS) : Prop := (xT m ∧ xfr vM m0 m) ∧ (m.1 70 9).toInt = g ∧ g ≠ 0
def vrQ (m0 : xS) (b : Nat → Int) (n k : Nat) (o : Int ⊕ vSt) (r : Int32) (m : xS) : Prop := match o with
  | .inl g => r = 0 ∧ vrX m0 g m
  | .inr q => r = 1 ∧ rV m0 b n q.1 0 k q.2 m
/-- places of the row that hold any number -/
def vfree (c : Nat) : Prop := c ≠ 0 ∧ c ≠ 2 ∧ c ≠ 3 ∧ ¬ (10 ≤ c ∧ c < 46 ∧ ((c - 10) % 6 = 0 ∨ (c - 10) % 6 = 3)) ∧ ¬ (124 ≤ c ∧ c < 148 ∧ (c - 124) % 4 = 0)
def vokb (c : Nat) (l u : Int) : Prop := (0 ≤ l ∧ u ≤ 5) ∨ (vfree c ∧ -2147483648 ≤ l ∧ u ≤ 2147483647) ∨ ((c = 0 ∨ c = 2 ∨ c = 3) ∧ 0 ≤ l ∧ u ≤ 6)
/-- what the numbers of houses, tools, works are, behind k clauses -/
def vOk (s : Nat → Int) (k : Nat) : Prop := (k = 0 → s 0 = 0) ∧ (0 < k → 2 ≤ s 0 ∧ s 0 ≤ 6) ∧ (0 ≤ s 2 ∧ s 2 ≤ 6) ∧ (0 ≤ s 3 ∧ s 3 ≤ 6)
section VRE
variable {m0 : xS} {b : Nat → Int} {n p k : Nat} {ft : Int} {s : Nat → Int} {m : xS} {F : Nat}
theorem b76 {c : Nat} {l u x : Int} (h : vokb c l u) (hx : l ≤ x ∧ x ≤ u) : ∀ q, xbn 76 c = some q → q.1 ≤ x ∧ x ≤ q.2 := by
  intro q hq
  have e : xbn 76 c = if ((0 : Nat) < 3 ∧ c < 148) then some (yel 2 c) else none := rfl
  rw [e] at hq
  split at hq
  · next hc =>
    have hq := Option.some.inj hq
    subst hq
    have e2 : yel 2 c = if c = 0 ∨ c = 2 ∨ c = 3 then (0, 6) else if 10 ≤ c ∧ c < 46 ∧ ((c - 10) % 6 = 0 ∨ (c - 10) % 6 = 3) then (0, 5) else if 124 ≤ c ∧ c < 148 ∧ (c - 124) % 4 = 0 then (0, 5) else (-2147483648, 2147483647) := rfl
    rw [e2]
    unfold vokb vfree at h
    split
    · next z =>
      show (0 : Int) ≤ x ∧ x ≤ 6
      rcases h with h | ⟨⟨h1, h2, h3, h4, h5⟩, h6⟩ | h <;> omega
    · split
      · next z =>
        show (0 : Int) ≤ x ∧ x ≤ 5
        rcases h with h | ⟨⟨h1, h2, h3, h4, h5⟩, h6⟩ | h
        · omega
        · exact absurd z h4
        · omega
      · split
        · next z =>
          show (0 : Int) ≤ x ∧ x ≤ 5
          rcases h with h | ⟨⟨h1, h2, h3, h4, h5⟩, h6⟩ | h
          · omega
          · exact absurd z h5
          · omega
        · show (-2147483648 : Int) ≤ x ∧ x ≤ 2147483647
          rcases h with h | ⟨h5, h6⟩ | h <;> omega
  · cases hq
theorem rV_T (h : rV m0 b n p ft k s m) : rT m n p ft (m.1 70 10).toInt m := ⟨h.1.1, xfr_r _ _, h.2.2.1, h.2.2.2.1, rfl⟩
theorem rV_of {p' : Nat} {ft' nu : Int} {m' : xS} (h : rV m0 b n p ft k s m) (q : rT m n p' ft' nu m') : rV m0 b n p' ft' k s m' := by
  obtain ⟨h1, h2, h3, h4, h5, h6⟩ := h
  have f := q.2.1
  have kk := rT_n h2 q
  refine ⟨⟨q.1, xfr_t h1.2 (xfr_l (by decide) f)⟩, ⟨kk.1, h2.2.1, kk.2⟩, q.2.2.1, q.2.2.2.1, ⟨(congrArg Int32.toInt (f.2 70 11 rfl)).trans h5.1, (congrArg Int32.toInt (f.2 70 14 rfl)).trans h5.2⟩, fun j hj => (congrArg Int32.toInt (f.2 76 j ?_)).trans (h6 j hj)⟩
  unfold yinM
  rfl
theorem rV_row (h : rV m0 b n p ft k s m) {c : Nat} {v : Int32} {x l u : Int} (hv : v.toInt = x) (hb : vokb c l u) (hx : l ≤ x ∧ x ≤ u) : rV m0 b n p ft k (vup s c x) (xu m 76 c v) := by
  obtain ⟨h1, h2, h3, h4, h5, h6⟩ := h
  have o : ∀ j, (xu m 76 c v).1 70 j = m.1 70 j := fun j => xu_o (fun z => absurd z.1 (by decide))
  refine ⟨⟨xT_u h1.1 (fun q hq => by rw [hv]; exact b76 hb hx q hq), xfr_t h1.2 (xfr_u (by unfold yinM; rfl))⟩, ⟨by rw [o]; exact h2.1, h2.2.1, fun j hj => ?_⟩, by rw [o]; exact h3, by rw [o]; exact h4, by rw [o, o]; exact h5, fun j hj => ?_⟩
  · rw [xu_o (fun z => absurd z.1 (by decide))]
    exact h2.2.2 j hj
  · unfold vup
    by_cases e : j = c
    · subst e
      rw [xu_s, if_pos rfl]
      exact hv
    · rw [xu_o (fun z => e z.2), if_neg e]
      exact h6 j hj
theorem rV_f (h : rV m0 b n p ft k s m) {j : Nat} {v : Int32} {l u : Int} (e : xbn 70 j = some (l, u)) (h1 : l ≤ v.toInt) (h2 : v.toInt ≤ u) (hj : j ≠ 1 ∧ j ≠ 8 ∧ j ≠ 9 ∧ j ≠ 11 ∧ j ≠ 14) (hM : yinM vM 70 (j : Int) = true) : rV m0 b n p ft k s (xu m 70 j v) := by
  obtain ⟨g1, g2, g3, g4, g5, g6⟩ := h
  have o : ∀ i, i ≠ j → (xu m 70 j v).1 70 i = m.1 70 i := fun i hi => xu_o (fun z => hi z.2)
  refine ⟨⟨xT_c g1.1 e h1 h2, xfr_t g1.2 (xfr_u hM)⟩, ⟨by rw [o _ hj.1.symm]; exact g2.1, g2.2.1, fun i hi => ?_⟩, by rw [o _ hj.2.1.symm]; exact g3, by rw [o _ hj.2.2.1.symm]; exact g4, by rw [o _ hj.2.2.2.1.symm, o _ hj.2.2.2.2.symm]; exact g5, fun i hi => ?_⟩
  · rw [xu_o (fun z => absurd z.1 (by decide))]
    exact g2.2.2 i hi
  · rw [xu_o (fun z => absurd z.1 (by decide))]
    exact g6 i hi
/-- fails -/
theorem rV_x (h : rV m0 b n p 0 k s m) {a c : Int32} {q : Nat} {x : Int} (ha : a.toInt = (q : Int)) (q4 : q ≤ 400) (hc : c.toInt = x) (c1 : 0 ≤ x) (c2 : x ≤ 4) : xP (D163 F c a m) (fun r m' => r = 0 ∧ vrX m0 (1 + 8 * (q : Int) + x) m') := by
  refine xP_m (R163 (rV_T h) (by omega) (by omega) (by omega) (by omega)) (fun r m' q => ⟨q.1, ⟨q.2.1, xfr_t h.1.2 (xfr_l (by decide) q.2.2.1)⟩, ?_, by omega⟩)
  have := q.2.2.2.2.1
  rw [this]
  unfold trf
  rw [if_pos rfl, ha, hc]
theorem rV_see (hF : 500 ≤ F) (h : rV m0 b n p 0 k s m) : xP (D164 F m) (fun v m' => rV m0 b n (tsk b n p) 0 k s m' ∧ v.toInt = tsg b n (tsk b n p)) := xP_m (R164 hF h.2.1 (rV_T h)) (fun v m' q => ⟨rV_of h q.1, q.2⟩)
theorem rV_pass (hF : 500 ≤ F) (h : rV m0 b n p 0 k s m) : xP (D168 F m) (fun _ m' => rV m0 b n (tS tlt b n p) 0 k s m') := xP_m (R168 hF h.2.1 (rV_T h)) (fun v m' q => rV_of h q)
theorem rV_is {w : Int64} {W : List Int} (hF : 500 ≤ F) (h : rV m0 b n p 0 k s m) (hw : tpk W = w.toInt) (hl : 0 < W.length ∧ W.length < 8) (hc : ∀ c ∈ W, 1 ≤ c ∧ c ≤ (255 : Int)) : xP (D167 F w m) (fun r m' => rV m0 b n (tsk b n p) 0 k s m' ∧ ((r = 1 ∧ twd b n p = W) ∨ (r = 0 ∧ twd b n p ≠ W))) := xP_m (R167 hF h.2.1 (rV_T h) hw hl hc) (fun v m' q => ⟨rV_of h q.1, q.2⟩)
/-- a number -/
theorem rV_num {lo hi : Int32} {l u : Int} (el : lo.toInt = l) (eu : hi.toInt = u) (hF : 500 ≤ F) (h : rV m0 b n p 0 k s m) : xP (D170 F lo hi m) (fun r m' => (∃ g, vnu b n p l u = .inl g ∧ r = 0 ∧ vrX m0 g m') ∨ (∃ (v : Int) (e : Nat), vnu b n p l u = .inr (v, e) ∧ r = 1 ∧ rV m0 b n e 0 k s m' ∧ (m'.1 70 10).toInt = v)) := by
  subst el
  subst eu
  refine xP_m (R170 hF h.2.1 (rV_T h)) (fun r m' q => ?_)
  rcases q with ⟨q1, rfl, q2⟩ | ⟨q1, ⟨q3, rfl, q2⟩ | ⟨q3, rfl, q2⟩⟩
  · refine Or.inl ⟨1 + 8 * (tsk b n p : Int), by unfold vnu; rw [if_pos q1], rfl, ⟨q2.1, xfr_t h.1.2 (xfr_l (by decide) q2.2.1)⟩, ?_, by omega⟩
    have := q2.2.2.2.1
    rw [this]
    unfold trf
    rw [if_pos rfl]
  · refine Or.inl ⟨1 + 8 * (tsk b n p : Int) + 1, by unfold vnu; rw [if_neg (fun z => z q1), if_pos q3], rfl, ⟨q2.1, xfr_t h.1.2 (xfr_l (by decide) q2.2.1)⟩, ?_, by omega⟩
    have := q2.2.2.2.1
    rw [this]
    unfold trf
    rw [if_pos rfl]
  · refine Or.inr ⟨_, _, by unfold vnu; rw [if_neg (fun z => z q1), if_neg q3], rfl, rV_of h q2, q2.2.2.2.2⟩
/-- a number into its cell -/
theorem rV_cell {c : Nat} {v1 lo hi : Int32} {l u : Int} (el : lo.toInt = l) (eu : hi.toInt = u) (hF : 500 ≤ F) (h : rV m0 b n p 0 k s m) (hc : v1.toInt = (c : Int)) (c8 : c < 148) (hb : vokb c l u) : xP (D186 F v1 lo hi m) (fun r m' => (∃ g, vnu b n p l u = .inl g ∧ r = 0 ∧ vrX m0 g m') ∨ (∃ (v : Int) (e : Nat), vnu b n p l u = .inr (v, e) ∧ r = 1 ∧ rV m0 b n e 0 k (vup s c v) m')) := by
  unfold D186
  refine xP_b (rV_num el eu hF h) (fun r m1 q => ?_)
  dsimp only
  rcases q with ⟨g, q1, rfl, q2⟩ | ⟨v, e, q1, rfl, q2, q3⟩
  · exact xP_i (fun c => absurd c (by decide)) (fun _ => xP_r (Or.inl ⟨g, q1, rfl, q2⟩))
  · refine xP_i (fun _ => xP_g (xib_t (by omega) (by omega)) (xP_r (Or.inr ⟨v, e, q1, rfl, ?_⟩))) (fun c => absurd c (by decide))
    rw [show v1.toNatClampNeg = c by show v1.toInt.toNat = c; omega]
    have := vnu_b q1
    exact rV_row q2 q3 hb ⟨this.1, this.2.1⟩
theorem rh1 {x : Int32} {h : Int} (e : x.toInt = h) (h0 : 0 ≤ h) (h6 : h ≤ 6) : (x - 1).toInt = h - 1 := (xs1 (by show _ ≤ _ - (1 : Int); omega) (by show _ - (1 : Int) ≤ _; omega)).trans (by rw [e]; rfl)
theorem ixT {x : Int32} {t : Nat} (h : x.toInt = (t : Int)) (l : t ≤ 6) : ((10 : Int32) + 6 * x).toInt = ((10 + 6 * t : Nat) : Int) := by
  have e : (6 * x).toInt = 6 * x.toInt := xm1 (by show _ ≤ (6 : Int) * _; omega) (by show (6 : Int) * _ ≤ _; omega)
  exact (xa1 (by show _ ≤ (10 : Int) + _; omega) (by show (10 : Int) + _ ≤ _; omega)).trans (by rw [e, h]; show (10 : Int) + 6 * (t : Int) = _; omega)
theorem ixW {x : Int32} {t : Nat} (h : x.toInt = (t : Int)) (l : t ≤ 6) : ((124 : Int32) + 4 * x).toInt = ((124 + 4 * t : Nat) : Int) := by
  have e : (4 * x).toInt = 4 * x.toInt := xm1 (by show _ ≤ (4 : Int) * _; omega) (by show (4 : Int) * _ ≤ _; omega)
  exact (xa1 (by show _ ≤ (124 : Int) + _; omega) (by show (124 : Int) + _ ≤ _; omega)).trans (by rw [e, h]; show (124 : Int) + 4 * (t : Int) = _; omega)
theorem ixp {x d : Int32} {c e : Nat} (h : x.toInt = (c : Int)) (hd : d.toInt = (e : Int)) (l : c + e < 2000) : (x + d).toInt = ((c + e : Nat) : Int) := (xa1 (by omega) (by omega)).trans (by omega)
theorem ixH {x y A : Int32} {a c B : Nat} (hA : A.toInt = (B : Int)) (hB : B ≤ 1000) (h : x.toInt = (a : Int)) (h2 : y.toInt = (c : Int)) (l : a ≤ 6) (l2 : c ≤ 6) : (A + 6 * x + y).toInt = ((B + 6 * a + c : Nat) : Int) := by
  have e : (6 * x).toInt = 6 * x.toInt := xm1 (by show _ ≤ (6 : Int) * _; omega) (by show (6 : Int) * _ ≤ _; omega)
  have e6 : (6 * x).toInt = ((6 * a : Nat) : Int) := by omega
  exact ixp (ixp hA e6 (by omega)) h2 (by omega)
/-- village -/
theorem rV187 (hF : 500 ≤ F) (h : rV m0 b n p 0 k s m) {v1 : Int32} {q : Nat} (hv : v1.toInt = (q : Int)) (q4 : q ≤ 400) : xP (D187 F v1 m) (fun r m' => (0 < s 0 ∧ r = 0 ∧ vrX m0 (1 + 8 * (q : Int) + 4) m') ∨ (¬ 0 < s 0 ∧ vrQ m0 b n k (vbod b n (tS tlt b n p) s 0) r m')) := by
  have h0 := h.2.2.2.2.2 0 (by decide)
  unfold D187
  refine xP_i (fun c => ?_) (fun c => ?_)
  · have c : (m.1 76 0).toInt ≤ 0 := zt c
    refine xP_b (rV_pass hF h) (fun _ m1 q1 => ?_)
    refine xP_b (rV_num (l := 2) (u := 6) rfl rfl hF q1) (fun r m2 q2 => ?_)
    dsimp only
    have hb : vbod b n (tS tlt b n p) s 0 = vn b n (tS tlt b n p) 2 6 (fun a e => vn b n e 1 20 fun c e2 => .inr (e2, vup (vup s 1 c) 0 a)) := if_pos rfl
    rcases q2 with ⟨g, e1, rfl, e2⟩ | ⟨v, e, e1, rfl, e2, e3⟩
    · refine xP_i (fun c => absurd c (by decide)) (fun _ => xP_r (Or.inr ⟨by omega, ?_⟩))
      rw [hb, vn_l e1]
      exact ⟨rfl, e2⟩
    · refine xP_i (fun _ => ?_) (fun c => absurd c (by decide))
      have vb := vnu_b e1
      refine xP_b (rV_cell (c := 1) (l := 1) (u := 20) rfl rfl hF e2 rfl (by decide) (Or.inr (Or.inl ⟨by unfold vfree; omega, by decide, by decide⟩))) (fun r m3 q3 => ?_)
      dsimp only
      rcases q3 with ⟨g, d1, rfl, d2⟩ | ⟨v', e', d1, rfl, d2⟩
      · refine xP_i (fun c => absurd c (by decide)) (fun _ => xP_r (Or.inr ⟨by omega, ?_⟩))
        rw [hb, vn_r e1, vn_l d1]
        exact ⟨rfl, d2⟩
      · refine xP_i (fun _ => xP_r (Or.inr ⟨by omega, ?_⟩)) (fun c => absurd c (by decide))
        rw [hb, vn_r e1, vn_r d1]
        refine ⟨rfl, ?_⟩
        exact rV_row d2 e3 (l := 0) (u := 6) (Or.inr (Or.inr ⟨Or.inl rfl, by decide, by decide⟩)) ⟨by omega, by omega⟩
  · have c : ¬ (m.1 76 0).toInt ≤ 0 := zf c
    refine xP_b (rV_x h hv q4 (x := 4) rfl (by decide) (by decide)) (fun r m1 q1 => ?_)
    obtain ⟨rfl, q1⟩ := q1
    dsimp only
    exact xP_g (by decide) (xP_r (Or.inl ⟨by omega, rfl, q1⟩))
/-- tool -/
theorem rV188 (hF : 500 ≤ F) (h : rV m0 b n p 0 k s m) {v1 : Int32} {q t : Nat} (hv : v1.toInt = (q : Int)) (q4 : q ≤ 400) (ht : s 2 = (t : Int)) (t6 : t ≤ 6) (h0 : 1 ≤ s 0 ∧ s 0 ≤ 6) : xP (D188 F v1 m) (fun r m' => (t = 6 ∧ r = 0 ∧ vrX m0 (1 + 8 * (q : Int) + 4) m') ∨ (t < 6 ∧ vrQ m0 b n k (vbod b n (tS tlt b n p) s 1) r m')) := by
  have h2 := h.2.2.2.2.2 2 (by decide)
  unfold D188
  refine xP_i (fun c => ?_) (fun c => ?_)
  · have c : (m.1 76 2).toInt ≠ 6 := zt c
    have t5 : t < 6 := by omega
    refine xP_b (rV_pass hF h) (fun _ m1 q1 => ?_)
    have a0 := q1.2.2.2.2.2 0 (by decide)
    have a2 := q1.2.2.2.2.2 2 (by decide)
    have i0 := ixT (a2.trans ht) t6
    have hb : vbod b n (tS tlt b n p) s 1 = vn b n (tS tlt b n p) 0 (s 0 - 1) (fun a e => vn b n e 0 4 fun c e2 => vn b n e2 0 9 fun d e3 => .inr (e3, vTool s (s 2).toNat a c d)) := by
      unfold vbod
      rw [if_neg (by decide), if_pos rfl]
    have s2t : (s 2).toNat = t := by omega
    rw [s2t] at hb
    dsimp only
    refine xP_b (rV_cell (c := 10 + 6 * t) (l := 0) (u := s 0 - 1) rfl (rh1 a0 (by omega) (by omega)) hF q1 i0 (by omega) (Or.inl ⟨by decide, by omega⟩)) (fun r m2 q2 => ?_)
    dsimp only
    rcases q2 with ⟨g, e1, rfl, e2⟩ | ⟨v, e, e1, rfl, e2⟩
    · unfold D188_77
      refine xP_i (fun _ => xP_r (Or.inr ⟨t5, ?_⟩)) (fun c => absurd c (by decide))
      rw [hb, vn_l e1]
      exact ⟨rfl, e2⟩
    · refine xP_i (fun c => absurd c (by decide)) (fun _ => ?_)
      have vb := vnu_b e1
      have i1 := ixp (d := 1) (e := 1) i0 rfl (by omega)
      refine xP_b (rV_cell (c := 10 + 6 * t + 1) (l := 0) (u := 4) rfl rfl hF e2 i1 (by omega) (Or.inr (Or.inl ⟨by unfold vfree; omega, by decide, by decide⟩))) (fun r m3 q3 => ?_)
      dsimp only
      rcases q3 with ⟨g, d1, rfl, d2⟩ | ⟨v', e', d1, rfl, d2⟩
      · unfold D188_77
        refine xP_i (fun _ => xP_r (Or.inr ⟨t5, ?_⟩)) (fun c => absurd c (by decide))
        rw [hb, vn_r e1, vn_l d1]
        exact ⟨rfl, d2⟩
      · refine xP_i (fun c => absurd c (by decide)) (fun _ => ?_)
        have i2 := ixp (d := 2) (e := 2) i0 rfl (by omega)
        refine xP_b (rV_cell (c := 10 + 6 * t + 2) (l := 0) (u := 9) rfl rfl hF d2 i2 (by omega) (Or.inr (Or.inl ⟨by unfold vfree; omega, by decide, by decide⟩))) (fun r m4 q4' => ?_)
        dsimp only
        rcases q4' with ⟨g, f1, rfl, f2⟩ | ⟨v'', e'', f1, rfl, f2⟩
        · unfold D188_77
          refine xP_i (fun c => absurd c (by decide)) (fun _ => xP_r (Or.inr ⟨t5, ?_⟩))
          rw [hb, vn_r e1, vn_r d1, vn_l f1]
          exact ⟨rfl, f2⟩
        · refine xP_i (fun _ => ?_) (fun c => absurd c (by decide))
          have i3 := ixp (d := 3) (e := 3) i0 rfl (by omega)
          have i4 := ixp (d := 4) (e := 4) i0 rfl (by omega)
          have i5 := ixp (d := 5) (e := 5) i0 rfl (by omega)
          refine xP_g (xib_t (by omega) (by omega)) (xP_g (xib_t (by omega) (by omega)) (xP_g (xib_t (by omega) (by omega)) (xP_g (xib_t (by omega) (by omega)) (xP_r (Or.inr ⟨t5, ?_⟩)))))
          rw [hb, vn_r e1, vn_r d1, vn_r f1]
          refine ⟨rfl, ?_⟩
          have nc : ∀ {x : Int32} {c : Nat}, x.toInt = (c : Int) → x.toNatClampNeg = c := fun {x c} hx => by show x.toInt.toNat = c; omega
          rw [nc i0, nc i3, nc i4, nc i5]
          have ga : (m4.1 76 (10 + 6 * t)).toInt = v := (f2.2.2.2.2.2 _ (by omega)).trans (by rw [vup_o (by omega), vup_o (by omega), vup_s])
          have r1 := rV_row f2 (c := 10 + 6 * t + 3) ga (l := 0) (u := 5) (Or.inl ⟨by decide, by decide⟩) ⟨by omega, by omega⟩
          have r2 := rV_row r1 (c := 10 + 6 * t + 4) (v := 0) (x := 0) rfl (l := 0) (u := 5) (Or.inl ⟨by decide, by decide⟩) ⟨by decide, by decide⟩
          have r3 := rV_row r2 (c := 10 + 6 * t + 5) (v := 0) (x := 0) rfl (l := 0) (u := 5) (Or.inl ⟨by decide, by decide⟩) ⟨by decide, by decide⟩
          have g2 := r3.2.2.2.2.2 2 (by decide)
          rw [vup_o (by omega), vup_o (by omega), vup_o (by omega), vup_o (by omega), vup_o (by omega), vup_o (by omega), ht] at g2
          exact rV_row r3 (c := 2) (x := (t : Int) + 1) (l := 0) (u := 6) ((xa1 (by show _ ≤ _ + (1 : Int); omega) (by show _ + (1 : Int) ≤ _; omega)).trans (by rw [g2]; rfl)) (Or.inr (Or.inr ⟨Or.inr (Or.inl rfl), by decide, by decide⟩)) ⟨by omega, by omega⟩
  · have c : (m.1 76 2).toInt = 6 := Decidable.not_not.mp (zf c)
    refine xP_b (rV_x h hv q4 (x := 4) rfl (by decide) (by decide)) (fun r m1 q1 => ?_)
    obtain ⟨rfl, q1⟩ := q1
    dsimp only
    exact xP_g (by decide) (xP_r (Or.inl ⟨by omega, rfl, q1⟩))
/-- two houses -/
def vtwoR (b : Nat → Int) (n p : Nat) (h : Int) : Int ⊕ (Int × Int × Nat) := vtwo b n p h fun a c e => .inr (a, c, e)
theorem vtwo_l {α : Type} {h g : Int} {K : Int → Int → Nat → Int ⊕ α} (e : vtwoR b n p h = .inl g) : vtwo b n p h K = .inl g := by
  unfold vtwoR vtwo at e
  unfold vtwo
  cases e1 : vnu b n p 0 (h - 1) with
  | inl g1 => rw [vn_l e1] at e ⊢; rw [Sum.inl.inj e]
  | inr q1 =>
    obtain ⟨a, p1⟩ := q1
    rw [vn_r e1] at e ⊢
    cases e2 : vnu b n p1 0 (h - 1) with
    | inl g2 => rw [vn_l e2] at e ⊢; rw [Sum.inl.inj e]
    | inr q2 =>
      obtain ⟨c, p2⟩ := q2
      rw [vn_r e2] at e ⊢
      by_cases ac : a = c
      · rw [if_pos ac] at e ⊢; rw [Sum.inl.inj e]
      · rw [if_neg ac] at e; cases e
theorem vtwo_r {α : Type} {h a c : Int} {e : Nat} {K : Int → Int → Nat → Int ⊕ α} (z : vtwoR b n p h = .inr (a, c, e)) : vtwo b n p h K = K a c e ∧ (0 ≤ a ∧ a ≤ h - 1) ∧ (0 ≤ c ∧ c ≤ h - 1) ∧ a ≠ c ∧ e ≤ n := by
  unfold vtwoR vtwo at z
  unfold vtwo
  cases e1 : vnu b n p 0 (h - 1) with
  | inl g1 => rw [vn_l e1] at z; cases z
  | inr q1 =>
    obtain ⟨a1, p1⟩ := q1
    rw [vn_r e1] at z ⊢
    have b1 := vnu_b e1
    cases e2 : vnu b n p1 0 (h - 1) with
    | inl g2 => rw [vn_l e2] at z; cases z
    | inr q2 =>
      obtain ⟨c1, p2⟩ := q2
      rw [vn_r e2] at z ⊢
      have b2 := vnu_b e2
      by_cases ac : a1 = c1
      · rw [if_pos ac] at z; cases z
      · rw [if_neg ac] at z ⊢
        have z := Sum.inr.inj z
        obtain ⟨z1, z2⟩ := Prod.mk.inj z
        obtain ⟨z3, z4⟩ := Prod.mk.inj z2
        subst z1
        subst z3
        subst z4
        exact ⟨rfl, ⟨b1.1, b1.2.1⟩, ⟨b2.1, b2.2.1⟩, ac, b2.2.2.1⟩
theorem vnu_sk {l u : Int} : vnu b n (tsk b n p) l u = vnu b n p l u := by
  unfold vnu
  rw [tsk_id, tde_id]
theorem rV189 (hF : 500 ≤ F) (h : rV m0 b n p 0 k s m) (h0 : 1 ≤ s 0 ∧ s 0 ≤ 6) : xP (D189 F m) (fun r m' => (∃ g, vtwoR b n (tS tlt b n p) (s 0) = .inl g ∧ r = 0 ∧ vrX m0 g m') ∨ (∃ (a c : Int) (e : Nat), vtwoR b n (tS tlt b n p) (s 0) = .inr (a, c, e) ∧ r = 1 ∧ rV m0 b n e 0 k s m' ∧ (m'.1 70 17).toInt = a ∧ (m'.1 70 18).toInt = c)) := by
  unfold D189
  refine xP_b (rV_pass hF h) (fun _ m1 q1 => ?_)
  have a0 := q1.2.2.2.2.2 0 (by decide)
  dsimp only
  refine xP_b (rV_num (l := 0) (u := s 0 - 1) rfl (rh1 a0 (by omega) (by omega)) hF q1) (fun r m2 q2 => ?_)
  dsimp only
  rcases q2 with ⟨g, e1, rfl, e2⟩ | ⟨v, e, e1, rfl, e2, e3⟩
  · refine xP_i (fun c => absurd c (by decide)) (fun _ => xP_r (Or.inl ⟨g, ?_, rfl, e2⟩))
    unfold vtwoR vtwo
    exact vn_l e1
  · refine xP_i (fun _ => ?_) (fun c => absurd c (by decide))
    have vb := vnu_b e1
    have w1 := rV_f e2 (j := 17) (v := m2.1 70 10) (l := 0) (u := 5) rfl (by omega) (by omega) (by decide) (by decide)
    refine xP_b (xP_m (R164 hF w1.2.1 (rV_T w1)) (fun v m' q => ((⟨rV_of w1 q.1, (q.1.2.1.2 70 17 rfl)⟩ : rV m0 b n (tsk b n e) 0 k s m' ∧ m'.1 70 17 = _)))) (fun v3 m3 q3 => ?_)
    obtain ⟨q3, q17⟩ := q3
    have c0 := q3.2.2.2.2.2 0 (by decide)
    have c8 := q3.2.2.1
    dsimp only
    refine xP_b (xP_m (R170 hF q3.2.1 (rV_T q3)) (fun r m' q => (⟨q, (show m'.1 70 17 = m3.1 70 17 by
      rcases q with ⟨-, -, q⟩ | ⟨-, ⟨-, -, q⟩ | ⟨-, -, q⟩⟩ <;> exact q.2.1.2 70 17 rfl)⟩ : _ ∧ m'.1 70 17 = m3.1 70 17))) (fun r m4 q4 => ?_)
    obtain ⟨q4, f17⟩ := q4
    have hn : (∃ g, vnu b n e 0 (s 0 - 1) = .inl g ∧ r = 0 ∧ vrX m0 g m4) ∨ (∃ (v : Int) (e' : Nat), vnu b n e 0 (s 0 - 1) = .inr (v, e') ∧ r = 1 ∧ rV m0 b n e' 0 k s m4 ∧ (m4.1 70 10).toInt = v) := by
      have eu : (m3.1 76 0 - 1).toInt = s 0 - 1 := rh1 c0 (by omega) (by omega)
      rw [eu, show (0 : Int32).toInt = 0 from rfl, tsk_id, tde_id] at q4
      rcases q4 with ⟨z1, z2, z3⟩ | ⟨z1, ⟨z2, z3, z4⟩ | ⟨z2, z3, z4⟩⟩
      · refine Or.inl ⟨_, by unfold vnu; rw [if_pos z1], z2, ⟨z3.1, xfr_t q3.1.2 (xfr_l (by decide) z3.2.1)⟩, ?_, by omega⟩
        have := z3.2.2.2.1
        rw [this]
        unfold trf
        rw [if_pos rfl]
      · refine Or.inl ⟨_, by unfold vnu; rw [if_neg (fun z => z z1), if_pos z2], z3, ⟨z4.1, xfr_t q3.1.2 (xfr_l (by decide) z4.2.1)⟩, ?_, by omega⟩
        have := z4.2.2.2.1
        rw [this]
        unfold trf
        rw [if_pos rfl]
      · exact Or.inr ⟨_, _, by unfold vnu; rw [if_neg (fun z => z z1), if_neg z2], z3, rV_of q3 z4, z4.2.2.2.2⟩
    dsimp only
    rcases hn with ⟨g, d1, rfl, d2⟩ | ⟨v', e', d1, rfl, d2, d3⟩
    · refine xP_i (fun c => absurd c (by decide)) (fun _ => xP_r (Or.inl ⟨g, ?_, rfl, d2⟩))
      unfold vtwoR vtwo
      rw [vn_r e1]
      exact vn_l d1
    · refine xP_i (fun _ => ?_) (fun c => absurd c (by decide))
      have vb' := vnu_b d1
      have e17 : (m4.1 70 17).toInt = v := by rw [f17, q17, xu_s]; exact e3
      have w2 := rV_f d2 (j := 18) (v := m4.1 70 10) (l := 0) (u := 5) rfl (by omega) (by omega) (by decide) (by decide)
      refine xP_i (fun c => ?_) (fun c => ?_)
      · have c : (m4.1 70 17).toInt ≠ (m4.1 70 10).toInt := zt c
        unfold D189_86
        refine xP_r (Or.inr ⟨v, v', e', ?_, rfl, w2, (congrArg Int32.toInt (xu_o (by decide))).trans e17, (congrArg Int32.toInt (xu_s _ _ _ _)).trans d3⟩)
        unfold vtwoR vtwo
        rw [vn_r e1, vn_r d1, if_neg (by omega)]
      · have c : (m4.1 70 17).toInt = (m4.1 70 10).toInt := Decidable.not_not.mp (zf c)
        have n4 := d2.2.1.2.1
        refine xP_b (rV_x w2 c8.1 (by have := c8.2; omega) (x := 1) rfl (by decide) (by decide)) (fun r m5 q5 => ?_)
        obtain ⟨rfl, q5⟩ := q5
        dsimp only
        refine xP_i (fun _ => xP_r (Or.inl ⟨_, ?_, rfl, q5⟩)) (fun c => absurd c (by decide))
        unfold vtwoR vtwo
        rw [vn_r e1, vn_r d1, if_pos (by omega)]
/-- trust -/
theorem rV190 (hF : 500 ≤ F) (h : rV m0 b n p 0 k s m) (h0 : 1 ≤ s 0 ∧ s 0 ≤ 6) : xP (D190 F m) (fun r m' => vrQ m0 b n k (vbod b n (tS tlt b n p) s 2) r m') := by
  have hb : vbod b n (tS tlt b n p) s 2 = vtwo b n (tS tlt b n p) (s 0) (fun a c e => .inr (e, vup s (46 + 6 * a.toNat + c.toNat) 1)) := by
    unfold vbod
    rw [if_neg (by decide), if_neg (by decide), if_pos rfl]
  unfold D190
  refine xP_b (rV189 hF h h0) (fun r m1 q1 => ?_)
  dsimp only
  rcases q1 with ⟨g, e1, rfl, e2⟩ | ⟨a, c, e, e1, rfl, e2, e3, e4⟩
  · refine xP_i (fun c => absurd c (by decide)) (fun _ => xP_r ?_)
    rw [hb, vtwo_l e1]
    exact ⟨rfl, e2⟩
  · have z := vtwo_r (K := fun a c e => (.inr (e, vup s (46 + 6 * a.toNat + c.toNat) 1) : Int ⊕ vSt)) e1
    have i := ixH (A := 46) (B := 46) (x := m1.1 70 17) (y := m1.1 70 18) (a := a.toNat) (c := c.toNat) rfl (by decide) (by omega) (by omega) (by omega) (by omega)
    refine xP_i (fun _ => xP_g (xib_t (by omega) (by omega)) (xP_r ?_)) (fun c => absurd c (by decide))
    rw [hb, z.1, show ((46 : Int32) + 6 * m1.1 70 17 + m1.1 70 18).toNatClampNeg = 46 + 6 * a.toNat + c.toNat by show Int.toNat _ = _; omega]
    exact ⟨rfl, rV_row e2 (v := 1) (x := 1) rfl (l := 0) (u := 5) (Or.inl ⟨by decide, by decide⟩) ⟨by decide, by decide⟩⟩
/-- thanks -/
theorem rV191 (hF : 500 ≤ F) (h : rV m0 b n p 0 k s m) (h0 : 1 ≤ s 0 ∧ s 0 ≤ 6) : xP (D191 F m) (fun r m' => vrQ m0 b n k (vbod b n (tS tlt b n p) s 4) r m') := by
  have hb : vbod b n (tS tlt b n p) s 4 = vtwo b n (tS tlt b n p) (s 0) (fun a c e => vn b n e 0 9 fun d e2 => .inr (e2, vup s (82 + 6 * a.toNat + c.toNat) d)) := by
    unfold vbod
    rw [if_neg (by decide), if_neg (by decide), if_neg (by decide), if_neg (by decide)]
  unfold D191
  refine xP_b (rV189 hF h h0) (fun r m1 q1 => ?_)
  dsimp only
  rcases q1 with ⟨g, e1, rfl, e2⟩ | ⟨a, c, e, e1, rfl, e2, e3, e4⟩
  · refine xP_i (fun c => absurd c (by decide)) (fun _ => xP_r ?_)
    rw [hb, vtwo_l e1]
    exact ⟨rfl, e2⟩
  · have z := vtwo_r (K := fun a c e => (vn b n e 0 9 fun d e2 => .inr (e2, vup s (82 + 6 * a.toNat + c.toNat) d) : Int ⊕ vSt)) e1
    have i := ixH (A := 82) (B := 82) (x := m1.1 70 17) (y := m1.1 70 18) (a := a.toNat) (c := c.toNat) rfl (by decide) (by omega) (by omega) (by omega) (by omega)
    refine xP_i (fun _ => ?_) (fun c => absurd c (by decide))
    refine xP_b (rV_cell (l := 0) (u := 9) rfl rfl hF e2 i (by omega) (Or.inr (Or.inl ⟨by unfold vfree; omega, by decide, by decide⟩))) (fun r m2 q2 => ?_)
    rw [hb, z.1]
    dsimp only
    rcases q2 with ⟨g, d1, rfl, d2⟩ | ⟨v', e', d1, rfl, d2⟩
    · rw [vn_l d1]
      exact xP_g (by decide) (xP_r ⟨rfl, d2⟩)
    · rw [vn_r d1]
      exact xP_g (by decide) (xP_r ⟨rfl, d2⟩)
/-- work -/
theorem rV192 (hF : 500 ≤ F) (h : rV m0 b n p 0 k s m) {v1 : Int32} {q t : Nat} (hv : v1.toInt = (q : Int)) (q4 : q ≤ 400) (ht : s 3 = (t : Int)) (t6 : t ≤ 6) (h0 : 1 ≤ s 0 ∧ s 0 ≤ 6) : xP (D192 F v1 m) (fun r m' => (t = 6 ∧ r = 0 ∧ vrX m0 (1 + 8 * (q : Int) + 4) m') ∨ (t < 6 ∧ vrQ m0 b n k (vbod b n (tS tlt b n p) s 3) r m')) := by
  have h2 := h.2.2.2.2.2 3 (by decide)
  unfold D192
  refine xP_i (fun c => ?_) (fun c => ?_)
  · have c : (m.1 76 3).toInt ≠ 6 := zt c
    have t5 : t < 6 := by omega
    refine xP_b (rV_pass hF h) (fun _ m1 q1 => ?_)
    have a0 := q1.2.2.2.2.2 0 (by decide)
    have a2 := q1.2.2.2.2.2 3 (by decide)
    have i0 := ixW (a2.trans ht) t6
    have hb : vbod b n (tS tlt b n p) s 3 = vn b n (tS tlt b n p) 0 (s 0 - 1) (fun a e => vn b n e 0 4 fun c e2 => vn b n e2 1 20 fun d e3 => vn b n e3 1 50 fun f e4 => .inr (e4, vWork s (s 3).toNat a c d f)) := by
      unfold vbod
      rw [if_neg (by decide), if_neg (by decide), if_neg (by decide), if_pos rfl]
    have s2t : (s 3).toNat = t := by omega
    rw [s2t] at hb
    dsimp only
    refine xP_b (rV_cell (c := 124 + 4 * t) (l := 0) (u := s 0 - 1) rfl (rh1 a0 (by omega) (by omega)) hF q1 i0 (by omega) (Or.inl ⟨by decide, by omega⟩)) (fun r m2 q2 => ?_)
    dsimp only
    rcases q2 with ⟨g, e1, rfl, e2⟩ | ⟨v, e, e1, rfl, e2⟩
    · unfold D192_89
      refine xP_i (fun _ => xP_r (Or.inr ⟨t5, ?_⟩)) (fun c => absurd c (by decide))
      rw [hb, vn_l e1]
      exact ⟨rfl, e2⟩
    · refine xP_i (fun c => absurd c (by decide)) (fun _ => ?_)
      have i1 := ixp (d := 1) (e := 1) i0 rfl (by omega)
      refine xP_b (rV_cell (c := 124 + 4 * t + 1) (l := 0) (u := 4) rfl rfl hF e2 i1 (by omega) (Or.inl ⟨by decide, by decide⟩)) (fun r m3 q3 => ?_)
      dsimp only
      rcases q3 with ⟨g, d1, rfl, d2⟩ | ⟨v', e', d1, rfl, d2⟩
      · unfold D192_89
        refine xP_i (fun _ => xP_r (Or.inr ⟨t5, ?_⟩)) (fun c => absurd c (by decide))
        rw [hb, vn_r e1, vn_l d1]
        exact ⟨rfl, d2⟩
      · refine xP_i (fun c => absurd c (by decide)) (fun _ => ?_)
        have i2 := ixp (d := 2) (e := 2) i0 rfl (by omega)
        refine xP_b (rV_cell (c := 124 + 4 * t + 2) (l := 1) (u := 20) rfl rfl hF d2 i2 (by omega) (Or.inr (Or.inl ⟨by unfold vfree; omega, by decide, by decide⟩))) (fun r m4 q4' => ?_)
        dsimp only
        rcases q4' with ⟨g, f1, rfl, f2⟩ | ⟨v'', e'', f1, rfl, f2⟩
        · unfold D192_89
          refine xP_i (fun _ => xP_r (Or.inr ⟨t5, ?_⟩)) (fun c => absurd c (by decide))
          rw [hb, vn_r e1, vn_r d1, vn_l f1]
          exact ⟨rfl, f2⟩
        · refine xP_i (fun c => absurd c (by decide)) (fun _ => ?_)
          have i3 := ixp (d := 3) (e := 3) i0 rfl (by omega)
          refine xP_b (rV_cell (c := 124 + 4 * t + 3) (l := 1) (u := 50) rfl rfl hF f2 i3 (by omega) (Or.inr (Or.inl ⟨by unfold vfree; omega, by decide, by decide⟩))) (fun r m5 q5' => ?_)
          dsimp only
          rcases q5' with ⟨g, g1, rfl, g2⟩ | ⟨v3, e3, g1, rfl, g2⟩
          · unfold D192_89
            refine xP_i (fun c => absurd c (by decide)) (fun _ => xP_r (Or.inr ⟨t5, ?_⟩))
            rw [hb, vn_r e1, vn_r d1, vn_r f1, vn_l g1]
            exact ⟨rfl, g2⟩
          · refine xP_i (fun _ => xP_r (Or.inr ⟨t5, ?_⟩)) (fun c => absurd c (by decide))
            rw [hb, vn_r e1, vn_r d1, vn_r f1, vn_r g1]
            refine ⟨rfl, ?_⟩
            have z2 := g2.2.2.2.2.2 3 (by decide)
            rw [vup_o (by omega), vup_o (by omega), vup_o (by omega), vup_o (by omega), ht] at z2
            exact rV_row g2 (c := 3) (x := (t : Int) + 1) (l := 0) (u := 6) ((xa1 (by show _ ≤ _ + (1 : Int); omega) (by show _ + (1 : Int) ≤ _; omega)).trans (by rw [z2]; rfl)) (Or.inr (Or.inr ⟨Or.inr (Or.inr rfl), by decide, by decide⟩)) ⟨by omega, by omega⟩
  · have c : (m.1 76 3).toInt = 6 := Decidable.not_not.mp (zf c)
    refine xP_b (rV_x h hv q4 (x := 4) rfl (by decide) (by decide)) (fun r m1 q1 => ?_)
    obtain ⟨rfl, q1⟩ := q1
    dsimp only
    exact xP_g (by decide) (xP_r (Or.inl ⟨by omega, rfl, q1⟩))
end VRE
