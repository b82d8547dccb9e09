section
/-! What a village's text says: numbers, clauses, the whole text. -/
def vup (s : Nat → Int) (k : Nat) (x : Int) : Nat → Int := fun j => if j = k then x else s j
theorem vup_s (s : Nat → Int) (k : Nat) (x : Int) : vup s k x k = x := if_pos rfl
theorem vup_o {s : Nat → Int} {k j : Nat} {x : Int} (h : j ≠ k) : vup s k x j = s j := if_neg h
/-- the next number: its fault, or it and the place behind it -/
def vnu (b : Nat → Int) (n p : Nat) (lo hi : Int) : Int ⊕ (Int × Nat) :=
  if ¬ (tsk b n p < n ∧ tdg (b (tsk b n p)) = true) then .inl (1 + 8 * (tsk b n p : Int))
  else if 5 < tde b n p - tsk b n p ∨ tv b (tsk b n p) (min (tde b n p - tsk b n p) 5) < lo ∨ hi < tv b (tsk b n p) (min (tde b n p - tsk b n p) 5) then .inl (1 + 8 * (tsk b n p : Int) + 1)
  else .inr (tv b (tsk b n p) (min (tde b n p - tsk b n p) 5), tde b n p)
def vn {α : Type} (b : Nat → Int) (n p : Nat) (lo hi : Int) (K : Int → Nat → Int ⊕ α) : Int ⊕ α := match vnu b n p lo hi with
  | .inl g => .inl g
  | .inr q => K q.1 q.2
/-- two houses, unlike -/
def vtwo {α : Type} (b : Nat → Int) (n p : Nat) (h : Int) (K : Int → Int → Nat → Int ⊕ α) : Int ⊕ α :=
  vn b n p 0 (h - 1) fun a e => vn b n e 0 (h - 1) fun c e2 => if a = c then .inl (1 + 8 * (tsk b n e : Int) + 1) else K a c e2
abbrev vSt : Type := Nat × (Nat → Int)
def vTool (s : Nat → Int) (t : Nat) (a c d : Int) : Nat → Int := vup (vup (vup (vup (vup (vup (vup s (10 + 6 * t) a) (10 + 6 * t + 1) c) (10 + 6 * t + 2) d) (10 + 6 * t + 3) a) (10 + 6 * t + 4) 0) (10 + 6 * t + 5) 0) 2 ((t : Int) + 1)
def vWork (s : Nat → Int) (w : Nat) (a c d e : Int) : Nat → Int := vup (vup (vup (vup (vup s (124 + 4 * w) a) (124 + 4 * w + 1) c) (124 + 4 * w + 2) d) (124 + 4 * w + 3) e) 3 ((w : Int) + 1)
/-- behind a clause's word; u: which word -/
def vbod (b : Nat → Int) (n p : Nat) (s : Nat → Int) (u : Nat) : Int ⊕ vSt :=
  if u = 0 then vn b n p 2 6 fun a e => vn b n e 1 20 fun c e2 => .inr (e2, vup (vup s 1 c) 0 a)
  else if u = 1 then vn b n p 0 (s 0 - 1) fun a e => vn b n e 0 4 fun c e2 => vn b n e2 0 9 fun d e3 => .inr (e3, vTool s (s 2).toNat a c d)
  else if u = 2 then vtwo b n p (s 0) fun a c e => .inr (e, vup s (46 + 6 * a.toNat + c.toNat) 1)
  else if u = 3 then vn b n p 0 (s 0 - 1) fun a e => vn b n e 0 4 fun c e2 => vn b n e2 1 20 fun d e3 => vn b n e3 1 50 fun f e4 => .inr (e4, vWork s (s 3).toNat a c d f)
  else vtwo b n p (s 0) fun a c e => vn b n e 0 9 fun d e2 => .inr (e2, vup s (82 + 6 * a.toNat + c.toNat) d)
/-- may this clause stand here -/
def vmay (s : Nat → Int) (k u : Nat) : Bool := if k = 0 then u == 0 else u != 0 && (decide (k < 40) && ((u != 1 || decide (s 2 < 6)) && (u != 3 || decide (s 3 < 6))))
def vcl (b : Nat → Int) (n k p : Nat) (s : Nat → Int) : Int ⊕ vSt := match tix (twd b n p) tCls with
  | none => .inl (1 + 8 * (tsk b n p : Int))
  | some u => if vmay s k u = true then vbod b n (tS tlt b n (tsk b n p)) s u else .inl (1 + 8 * (tsk b n p : Int) + 4)
def vrun (b : Nat → Int) (n : Nat) : Nat → Nat → Nat → (Nat → Int) → Int ⊕ (Nat → Int)
  | 0, _, _, _ => .inl 0
  | f + 1, k, p, s => match vcl b n k p s with
    | .inl g => .inl g
    | .inr q => if tsg b n (tsk b n q.1) = 59 then vrun b n f (k + 1) (tsk b n q.1 + 1) q.2 else if tsg b n (tsk b n q.1) = -1 then .inr q.2 else .inl (1 + 8 * (tsk b n q.1 : Int))
section VSP
variable {b : Nat → Int} {n p : Nat} {lo hi : Int}
theorem vn_l {α : Type} {K : Int → Nat → Int ⊕ α} {g : Int} (h : vnu b n p lo hi = .inl g) : vn b n p lo hi K = .inl g := by
  unfold vn
  rw [h]
theorem vn_r {α : Type} {K : Int → Nat → Int ⊕ α} {v : Int} {e : Nat} (h : vnu b n p lo hi = .inr (v, e)) : vn b n p lo hi K = K v e := by
  unfold vn
  rw [h]
theorem tsk_id : tsk b n (tsk b n p) = tsk b n p := tS_id p
theorem tde_id : tde b n (tsk b n p) = tde b n p := by
  show tS tdg b n (tS tbl b n (tS tbl b n p)) = _
  rw [tS_id]
theorem vnu_b {v : Int} {e : Nat} (h : vnu b n p lo hi = .inr (v, e)) : lo ≤ v ∧ v ≤ hi ∧ e ≤ n ∧ p ≤ e := by
  unfold vnu at h
  split at h
  · cases h
  · next h1 =>
    split at h
    · cases h
    · next h2 =>
      have h := Sum.inr.inj h
      obtain ⟨rfl, rfl⟩ := Prod.mk.inj h
      have h1 : tsk b n p < n := (Decidable.not_not.mp h1).1
      have g1 : p ≤ tsk b n p := tS_ge _
      have g2 : tsk b n p ≤ tde b n p := tS_ge _
      have g3 : tde b n p ≤ n := tS_le _ (Nat.le_of_lt h1)
      omega
theorem vnu_f {g : Int} (hp : p ≤ n) (h : vnu b n p lo hi = .inl g) : 1 ≤ g ∧ g ≤ 8 * (n : Int) + 2 := by
  have g1 : tsk b n p ≤ n := tS_le _ hp
  unfold vnu at h
  split at h
  · have h := Sum.inl.inj h
    omega
  · split at h
    · have h := Sum.inl.inj h
      omega
    · cases h
end VSP
end
section
/-! The reference reads a village. -/
/-- what reading a village writes -/
abbrev vM : yM := [(70, 70, 1), (70, 70, 8), (70, 70, 9), (70, 70, 10), (70, 70, 11), (70, 70, 12), (70, 70, 14), (70, 70, 17), (70, 70, 18), (73, 73, 1000), (76, 76, 1000)]
def rV (m0 : xS) (b : Nat → Int) (n p : Nat) (ft : Int) (k : Nat) (s : Nat → Int) (m : xS) : Prop := (xT m ∧ xfr vM m0 m) ∧ rN m b n ∧ ((m.1 70 8).toInt = (p : Int) ∧ p ≤ n) ∧ (m.1 70 9).toInt = ft ∧ ((m.1 70 11).toInt = 6 ∧ (m.1 70 14).toInt = (k : Int)) ∧ ∀ j, j < 148 → (m.1 76 j).toInt = s j
def vrX (m0 : xS) (g : Int) (m : xS) : Prop := (xT m ∧ xfr vM m0 m) ∧ (m.1 70 9).toInt = g ∧ g ≠ 0
def vrQ (m0 : xS) (b : Nat → Int) (n k : Nat) (o : Int ⊕ vSt) (r : Int32) (m : xS) : Prop := match o with
  | .inl g => r = 0 ∧ vrX m0 g m
  | .inr q => r = 1 ∧ rV m0 b n q.1 0 k q.2 m
/-- places of the row that hold any number -/
def vfree (c : Nat) : Prop := c ≠ 0 ∧ c ≠ 2 ∧ c ≠ 3 ∧ ¬ (10 ≤ c ∧ c < 46 ∧ ((c - 10) % 6 = 0 ∨ (c - 10) % 6 = 3)) ∧ ¬ (124 ≤ c ∧ c < 148 ∧ (c - 124) % 4 = 0)
def vokb (c : Nat) (l u : Int) : Prop := (0 ≤ l ∧ u ≤ 5) ∨ (vfree c ∧ -2147483648 ≤ l ∧ u ≤ 2147483647) ∨ ((c = 0 ∨ c = 2 ∨ c = 3) ∧ 0 ≤ l ∧ u ≤ 6)
/-- what the numbers of houses, tools, works are, behind k clauses -/
def vOk (s : Nat → Int) (k : Nat) : Prop := (k = 0 → s 0 = 0) ∧ (0 < k → 2 ≤ s 0 ∧ s 0 ≤ 6) ∧ (0 ≤ s 2 ∧ s 2 ≤ 6) ∧ (0 ≤ s 3 ∧ s 3 ≤ 6)
section VRE
variable {m0 : xS} {b : Nat → Int} {n p k : Nat} {ft : Int} {s : Nat → Int} {m : xS} {F : Nat}
theorem b76 {c : Nat} {l u x : Int} (h : vokb c l u) (hx : l ≤ x ∧ x ≤ u) : ∀ q, xbn 76 c = some q → q.1 ≤ x ∧ x ≤ q.2 := by
  intro q hq
  have e : xbn 76 c = if ((0 : Nat) < 3 ∧ c < 148) then some (yel 2 c) else none := rfl
  rw [e] at hq
  split at hq
  · next hc =>
    have hq := Option.some.inj hq
    subst hq
    have e2 : yel 2 c = if c = 0 ∨ c = 2 ∨ c = 3 then (0, 6) else if 10 ≤ c ∧ c < 46 ∧ ((c - 10) % 6 = 0 ∨ (c - 10) % 6 = 3) then (0, 5) else if 124 ≤ c ∧ c < 148 ∧ (c - 124) % 4 = 0 then (0, 5) else (-2147483648, 2147483647) := rfl
    rw [e2]
    unfold vokb vfree at h
    split
    · next z =>
      show (0 : Int) ≤ x ∧ x ≤ 6
      rcases h with h | ⟨⟨h1, h2, h3, h4, h5⟩, h6⟩ | h <;> omega
    · split
      · next z =>
        show (0 : Int) ≤ x ∧ x ≤ 5
        rcases h with h | ⟨⟨h1, h2, h3, h4, h5⟩, h6⟩ | h
        · omega
        · exact absurd z h4
        · omega
      · split
        · next z =>
          show (0 : Int) ≤ x ∧ x ≤ 5
          rcases h with h | ⟨⟨h1, h2, h3, h4, h5⟩, h6⟩ | h
          · omega
          · exact absurd z h5
          · omega
        · show (-2147483648 : Int) ≤ x ∧ x ≤ 2147483647
          rcases h with h | ⟨h5, h6⟩ | h <;> omega
  · cases hq
theorem rV_T (h : rV m0 b n p ft k s m) : rT m n p ft (m.1 70 10).toInt m := ⟨h.1.1, xfr_r _ _, h.2.2.1, h.2.2.2.1, rfl⟩
theorem rV_of {p' : Nat} {ft' nu : Int} {m' : xS} (h : rV m0 b n p ft k s m) (q : rT m n p' ft' nu m') : rV m0 b n p' ft' k s m' := by
  obtain ⟨h1, h2, h3, h4, h5, h6⟩ := h
  have f := q.2.1
  have kk := rT_n h2 q
  refine ⟨⟨q.1, xfr_t h1.2 (xfr_l (by decide) f)⟩, ⟨kk.1, h2.2.1, kk.2⟩, q.2.2.1, q.2.2.2.1, ⟨(congrArg Int32.toInt (f.2 70 11 rfl)).trans h5.1, (congrArg Int32.toInt (f.2 70 14 rfl)).trans h5.2⟩, fun j hj => (congrArg Int32.toInt (f.2 76 j ?_)).trans (h6 j hj)⟩
  unfold yinM
  rfl
theorem rV_row (h : rV m0 b n p ft k s m) {c : Nat} {v : Int32} {x l u : Int} (hv : v.toInt = x) (hb : vokb c l u) (hx : l ≤ x ∧ x ≤ u) : rV m0 b n p ft k (vup s c x) (xu m 76 c v) := by
  obtain ⟨h1, h2, h3, h4, h5, h6⟩ := h
  have o : ∀ j, (xu m 76 c v).1 70 j = m.1 70 j := fun j => xu_o (fun z => absurd z.1 (by decide))
  refine ⟨⟨xT_u h1.1 (fun q hq => by rw [hv]; exact b76 hb hx q hq), xfr_t h1.2 (xfr_u (by unfold yinM; rfl))⟩, ⟨by rw [o]; exact h2.1, h2.2.1, fun j hj => ?_⟩, by rw [o]; exact h3, by rw [o]; exact h4, by rw [o, o]; exact h5, fun j hj => ?_⟩
  · rw [xu_o (fun z => absurd z.1 (by decide))]
    exact h2.2.2 j hj
  · unfold vup
    by_cases e : j = c
    · subst e
      rw [xu_s, if_pos rfl]
      exact hv
    · rw [xu_o (fun z => e z.2), if_neg e]
      exact h6 j hj
theorem rV_f (h : rV m0 b n p ft k s m) {j : Nat} {v : Int32} {l u : Int} (e : xbn 70 j = some (l, u)) (h1 : l ≤ v.toInt) (h2 : v.toInt ≤ u) (hj : j ≠ 1 ∧ j ≠ 8 ∧ j ≠ 9 ∧ j ≠ 11 ∧ j ≠ 14) (hM : yinM vM 70 (j : Int) = true) : rV m0 b n p ft k s (xu m 70 j v) := by
  obtain ⟨g1, g2, g3, g4, g5, g6⟩ := h
  have o : ∀ i, i ≠ j → (xu m 70 j v).1 70 i = m.1 70 i := fun i hi => xu_o (fun z => hi z.2)
  refine ⟨⟨xT_c g1.1 e h1 h2, xfr_t g1.2 (xfr_u hM)⟩, ⟨by rw [o _ hj.1.symm]; exact g2.1, g2.2.1, fun i hi => ?_⟩, by rw [o _ hj.2.1.symm]; exact g3, by rw [o _ hj.2.2.1.symm]; exact g4, by rw [o _ hj.2.2.2.1.symm, o _ hj.2.2.2.2.symm]; exact g5, fun i hi => ?_⟩
  · rw [xu_o (fun z => absurd z.1 (by decide))]
    exact g2.2.2 i hi
  · rw [xu_o (fun z => absurd z.1 (by decide))]
    exact g6 i hi
/-- fails -/
theorem rV_x (h : rV m0 b n p 0 k s m) {a c : Int32} {q : Nat} {x : Int} (ha : a.toInt = (q : Int)) (q4 : q ≤ 400) (hc : c.toInt = x) (c1 : 0 ≤ x) (c2 : x ≤ 4) : xP (D163 F c a m) (fun r m' => r = 0 ∧ vrX m0 (1 + 8 * (q : Int) + x) m') := by
  refine xP_m (R163 (rV_T h) (by omega) (by omega) (by omega) (by omega)) (fun r m' q => ⟨q.1, ⟨q.2.1, xfr_t h.1.2 (xfr_l (by decide) q.2.2.1)⟩, ?_, by omega⟩)
  have := q.2.2.2.2.1
  rw [this]
  unfold trf
  rw [if_pos rfl, ha, hc]
theorem rV_see (hF : 500 ≤ F) (h : rV m0 b n p 0 k s m) : xP (D164 F m) (fun v m' => rV m0 b n (tsk b n p) 0 k s m' ∧ v.toInt = tsg b n (tsk b n p)) := xP_m (R164 hF h.2.1 (rV_T h)) (fun v m' q => ⟨rV_of h q.1, q.2⟩)
theorem rV_pass (hF : 500 ≤ F) (h : rV m0 b n p 0 k s m) : xP (D168 F m) (fun _ m' => rV m0 b n (tS tlt b n p) 0 k s m') := xP_m (R168 hF h.2.1 (rV_T h)) (fun v m' q => rV_of h q)
theorem rV_is {w : Int64} {W : List Int} (hF : 500 ≤ F) (h : rV m0 b n p 0 k s m) (hw : tpk W = w.toInt) (hl : 0 < W.length ∧ W.length < 8) (hc : ∀ c ∈ W, 1 ≤ c ∧ c ≤ (255 : Int)) : xP (D167 F w m) (fun r m' => rV m0 b n (tsk b n p) 0 k s m' ∧ ((r = 1 ∧ twd b n p = W) ∨ (r = 0 ∧ twd b n p ≠ W))) := xP_m (R167 hF h.2.1 (rV_T h) hw hl hc) (fun v m' q => ⟨rV_of h q.1, q.2⟩)
/-- a number -/
theorem rV_num {lo hi : Int32} {l u : Int} (el : lo.toInt = l) (eu : hi.toInt = u) (hF : 500 ≤ F) (h : rV m0 b n p 0 k s m) : xP (D170 F lo hi m) (fun r m' => (∃ g, vnu b n p l u = .inl g ∧ r = 0 ∧ vrX m0 g m') ∨ (∃ (v : Int) (e : Nat), vnu b n p l u = .inr (v, e) ∧ r = 1 ∧ rV m0 b n e 0 k s m' ∧ (m'.1 70 10).toInt = v)) := by
  subst el
  subst eu
  refine xP_m (R170 hF h.2.1 (rV_T h)) (fun r m' q => ?_)
  rcases q with ⟨q1, rfl, q2⟩ | ⟨q1, ⟨q3, rfl, q2⟩ | ⟨q3, rfl, q2⟩⟩
  · refine Or.inl ⟨1 + 8 * (tsk b n p : Int), by unfold vnu; rw [if_pos q1], rfl, ⟨q2.1, xfr_t h.1.2 (xfr_l (by decide) q2.2.1)⟩, ?_, by omega⟩
    have := q2.2.2.2.1
    rw [this]
    unfold trf
    rw [if_pos rfl]
  · refine Or.inl ⟨1 + 8 * (tsk b n p : Int) + 1, by unfold vnu; rw [if_neg (fun z => z q1), if_pos q3], rfl, ⟨q2.1, xfr_t h.1.2 (xfr_l (by decide) q2.2.1)⟩, ?_, by omega⟩
    have := q2.2.2.2.1
    rw [this]
    unfold trf
    rw [if_pos rfl]
  · refine Or.inr ⟨_, _, by unfold vnu; rw [if_neg (fun z => z q1), if_neg q3], rfl, rV_of h q2, q2.2.2.2.2⟩
/-- a number into its cell -/
theorem rV_cell {c : Nat} {v1 lo hi : Int32} {l u : Int} (el : lo.toInt = l) (eu : hi.toInt = u) (hF : 500 ≤ F) (h : rV m0 b n p 0 k s m) (hc : v1.toInt = (c : Int)) (c8 : c < 148) (hb : vokb c l u) : xP (D186 F v1 lo hi m) (fun r m' => (∃ g, vnu b n p l u = .inl g ∧ r = 0 ∧ vrX m0 g m') ∨ (∃ (v : Int) (e : Nat), vnu b n p l u = .inr (v, e) ∧ r = 1 ∧ rV m0 b n e 0 k (vup s c v) m')) := by
  unfold D186
  refine xP_b (rV_num el eu hF h) (fun r m1 q => ?_)
  dsimp only
  rcases q with ⟨g, q1, rfl, q2⟩ | ⟨v, e, q1, rfl, q2, q3⟩
  · exact xP_i (fun c => absurd c (by decide)) (fun _ => xP_r (Or.inl ⟨g, q1, rfl, q2⟩))
  · refine xP_i (fun _ => xP_g (xib_t (by omega) (by omega)) (xP_r (Or.inr ⟨v, e, q1, rfl, ?_⟩))) (fun c => absurd c (by decide))
    rw [show v1.toNatClampNeg = c by show v1.toInt.toNat = c; omega]
    have := vnu_b q1
    exact rV_row q2 q3 hb ⟨this.1, this.2.1⟩
theorem rh1 {x : Int32} {h : Int} (e : x.toInt = h) (h0 : 0 ≤ h) (h6 : h ≤ 6) : (x - 1).toInt = h - 1 := (xs1 (by show _ ≤ _ - (1 : Int); omega) (by show _ - (1 : Int) ≤ _; omega)).trans (by rw [e]; rfl)
theorem ixT {x : Int32} {t : Nat} (h : x.toInt = (t : Int)) (l : t ≤ 6) : ((10 : Int32) + 6 * x).toInt = ((10 + 6 * t : Nat) : Int) := by
  have e : (6 * x).toInt = 6 * x.toInt := xm1 (by show _ ≤ (6 : Int) * _; omega) (by show (6 : Int) * _ ≤ _; omega)
  exact (xa1 (by show _ ≤ (10 : Int) + _; omega) (by show (10 : Int) + _ ≤ _; omega)).trans (by rw [e, h]; show (10 : Int) + 6 * (t : Int) = _; omega)
theorem ixW {x : Int32} {t : Nat} (h : x.toInt = (t : Int)) (l : t ≤ 6) : ((124 : Int32) + 4 * x).toInt = ((124 + 4 * t : Nat) : Int) := by
  have e : (4 * x).toInt = 4 * x.toInt := xm1 (by show _ ≤ (4 : Int) * _; omega) (by show (4 : Int) * _ ≤ _; omega)
  exact (xa1 (by show _ ≤ (124 : Int) + _; omega) (by show (124 : Int) + _ ≤ _; omega)).trans (by rw [e, h]; show (124 : Int) + 4 * (t : Int) = _; omega)
theorem ixp {x d : Int32} {c e : Nat} (h : x.toInt = (c : Int)) (hd : d.toInt = (e : Int)) (l : c + e < 2000) : (x + d).toInt = ((c + e : Nat) : Int) := (xa1 (by omega) (by omega)).trans (by omega)
theorem ixH {x y A : Int32} {a c B : Nat} (hA : A.toInt = (B : Int)) (hB : B ≤ 1000) (h : x.toInt = (a : Int)) (h2 : y.toInt = (c : Int)) (l : a ≤ 6) (l2 : c ≤ 6) : (A + 6 * x + y).toInt = ((B + 6 * a + c : Nat) : Int) := by
  have e : (6 * x).toInt = 6 * x.toInt := xm1 (by show _ ≤ (6 : Int) * _; omega) (by show (6 : Int) * _ ≤ _; omega)
  have e6 : (6 * x).toInt = ((6 * a : Nat) : Int) := by omega
  exact ixp (ixp hA e6 (by omega)) h2 (by omega)
/-- village -/
theorem rV187 (hF : 500 ≤ F) (h : rV m0 b n p 0 k s m) {v1 : Int32} {q : Nat} (hv : v1.toInt = (q : Int)) (q4 : q ≤ 400) : xP (D187 F v1 m) (fun r m' => (0 < s 0 ∧ r = 0 ∧ vrX m0 (1 + 8 * (q : Int) + 4) m') ∨ (¬ 0 < s 0 ∧ vrQ m0 b n k (vbod b n (tS tlt b n p) s 0) r m')) := by
  have h0 := h.2.2.2.2.2 0 (by decide)
  unfold D187
  refine xP_i (fun c => ?_) (fun c => ?_)
  · have c : (m.1 76 0).toInt ≤ 0 := zt c
    refine xP_b (rV_pass hF h) (fun _ m1 q1 => ?_)
    refine xP_b (rV_num (l := 2) (u := 6) rfl rfl hF q1) (fun r m2 q2 => ?_)
    dsimp only
    have hb : vbod b n (tS tlt b n p) s 0 = vn b n (tS tlt b n p) 2 6 (fun a e => vn b n e 1 20 fun c e2 => .inr (e2, vup (vup s 1 c) 0 a)) := if_pos rfl
    rcases q2 with ⟨g, e1, rfl, e2⟩ | ⟨v, e, e1, rfl, e2, e3⟩
    · refine xP_i (fun c => absurd c (by decide)) (fun _ => xP_r (Or.inr ⟨by omega, ?_⟩))
      rw [hb, vn_l e1]
      exact ⟨rfl, e2⟩
    · refine xP_i (fun _ => ?_) (fun c => absurd c (by decide))
      have vb := vnu_b e1
      refine xP_b (rV_cell (c := 1) (l := 1) (u := 20) rfl rfl hF e2 rfl (by decide) (Or.inr (Or.inl ⟨by unfold vfree; omega, by decide, by decide⟩))) (fun r m3 q3 => ?_)
      dsimp only
      rcases q3 with ⟨g, d1, rfl, d2⟩ | ⟨v', e', d1, rfl, d2⟩
      · refine xP_i (fun c => absurd c (by decide)) (fun _ => xP_r (Or.inr ⟨by omega, ?_⟩))
        rw [hb, vn_r e1, vn_l d1]
        exact ⟨rfl, d2⟩
      · refine xP_i (fun _ => xP_r (Or.inr ⟨by omega, ?_⟩)) (fun c => absurd c (by decide))
        rw [hb, vn_r e1, vn_r d1]
        refine ⟨rfl, ?_⟩
        exact rV_row d2 e3 (l := 0) (u := 6) (Or.inr (Or.inr ⟨Or.inl rfl, by decide, by decide⟩)) ⟨by omega, by omega⟩
  · have c : ¬ (m.1 76 0).toInt ≤ 0 := zf c
    refine xP_b (rV_x h hv q4 (x := 4) rfl (by decide) (by decide)) (fun r m1 q1 => ?_)
    obtain ⟨rfl, q1⟩ := q1
    dsimp only
    exact xP_g (by decide) (xP_r (Or.inl ⟨by omega, rfl, q1⟩))
/-- tool -/
theorem rV188 (hF : 500 ≤ F) (h : rV m0 b n p 0 k s m) {v1 : Int32} {q t : Nat} (hv : v1.toInt = (q : Int)) (q4 : q ≤ 400) (ht : s 2 = (t : Int)) (t6 : t ≤ 6) (h0 : 1 ≤ s 0 ∧ s 0 ≤ 6) : xP (D188 F v1 m) (fun r m' => (t = 6 ∧ r = 0 ∧ vrX m0 (1 + 8 * (q : Int) + 4) m') ∨ (t < 6 ∧ vrQ m0 b n k (vbod b n (tS tlt b n p) s 1) r m')) := by
  have h2 := h.2.2.2.2.2 2 (by decide)
  unfold D188
  refine xP_i (fun c => ?_) (fun c => ?_)
  · have c : (m.1 76 2).toInt ≠ 6 := zt c
    have t5 : t < 6 := by omega
    refine xP_b (rV_pass hF h) (fun _ m1 q1 => ?_)
    have a0 := q1.2.2.2.2.2 0 (by decide)
    have a2 := q1.2.2.2.2.2 2 (by decide)
    have i0 := ixT (a2.trans ht) t6
    have hb : vbod b n (tS tlt b n p) s 1 = vn b n (tS tlt b n p) 0 (s 0 - 1) (fun a e => vn b n e 0 4 fun c e2 => vn b n e2 0 9 fun d e3 => .inr (e3, vTool s (s 2).toNat a c d)) := by
      unfold vbod
      rw [if_neg (by decide), if_pos rfl]
    have s2t : (s 2).toNat = t := by omega
    rw [s2t] at hb
    dsimp only
    refine xP_b (rV_cell (c := 10 + 6 * t) (l := 0) (u := s 0 - 1) rfl (rh1 a0 (by omega) (by omega)) hF q1 i0 (by omega) (Or.inl ⟨by decide, by omega⟩)) (fun r m2 q2 => ?_)
    dsimp only
    rcases q2 with ⟨g, e1, rfl, e2⟩ | ⟨v, e, e1, rfl, e2⟩
    · unfold D188_77
      refine xP_i (fun _ => xP_r (Or.inr ⟨t5, ?_⟩)) (fun c => absurd c (by decide))
      rw [hb, vn_l e1]
      exact ⟨rfl, e2⟩
    · refine xP_i (fun c => absurd c (by decide)) (fun _ => ?_)
      have vb := vnu_b e1
      have i1 := ixp (d := 1) (e := 1) i0 rfl (by omega)
      refine xP_b (rV_cell (c := 10 + 6 * t + 1) (l := 0) (u := 4) rfl rfl hF e2 i1 (by omega) (Or.inr (Or.inl ⟨by unfold vfree; omega, by decide, by decide⟩))) (fun r m3 q3 => ?_)
      dsimp only
      rcases q3 with ⟨g, d1, rfl, d2⟩ | ⟨v', e', d1, rfl, d2⟩
      · unfold D188_77
        refine xP_i (fun _ => xP_r (Or.inr ⟨t5, ?_⟩)) (fun c => absurd c (by decide))
        rw [hb, vn_r e1, vn_l d1]
        exact ⟨rfl, d2⟩
      · refine xP_i (fun c => absurd c (by decide)) (fun _ => ?_)
        have i2 := ixp (d := 2) (e := 2) i0 rfl (by omega)
        refine xP_b (rV_cell (c := 10 + 6 * t + 2) (l := 0) (u := 9) rfl rfl hF d2 i2 (by omega) (Or.inr (Or.inl ⟨by unfold vfree; omega, by decide, by decide⟩))) (fun r m4 q4' => ?_)
        dsimp only
        rcases q4' with ⟨g, f1, rfl, f2⟩ | ⟨v'', e'', f1, rfl, f2⟩
        · unfold D188_77
          refine xP_i (fun c => absurd c (by decide)) (fun _ => xP_r (Or.inr ⟨t5, ?_⟩))
          rw [hb, vn_r e1, vn_r d1, vn_l f1]
          exact ⟨rfl, f2⟩
        · refine xP_i (fun _ => ?_) (fun c => absurd c (by decide))
          have i3 := ixp (d := 3) (e := 3) i0 rfl (by omega)
          have i4 := ixp (d := 4) (e := 4) i0 rfl (by omega)
          have i5 := ixp (d := 5) (e := 5) i0 rfl (by omega)
          refine xP_g (xib_t (by omega) (by omega)) (xP_g (xib_t (by omega) (by omega)) (xP_g (xib_t (by omega) (by omega)) (xP_g (xib_t (by omega) (by omega)) (xP_r (Or.inr ⟨t5, ?_⟩)))))
          rw [hb, vn_r e1, vn_r d1, vn_r f1]
          refine ⟨rfl, ?_⟩
          have nc : ∀ {x : Int32} {c : Nat}, x.toInt = (c : Int) → x.toNatClampNeg = c := fun {x c} hx => by show x.toInt.toNat = c; omega
          rw [nc i0, nc i3, nc i4, nc i5]
          have ga : (m4.1 76 (10 + 6 * t)).toInt = v := (f2.2.2.2.2.2 _ (by omega)).trans (by rw [vup_o (by omega), vup_o (by omega), vup_s])
          have r1 := rV_row f2 (c := 10 + 6 * t + 3) ga (l := 0) (u := 5) (Or.inl ⟨by decide, by decide⟩) ⟨by omega, by omega⟩
          have r2 := rV_row r1 (c := 10 + 6 * t + 4) (v := 0) (x := 0) rfl (l := 0) (u := 5) (Or.inl ⟨by decide, by decide⟩) ⟨by decide, by decide⟩
          have r3 := rV_row r2 (c := 10 + 6 * t + 5) (v := 0) (x := 0) rfl (l := 0) (u := 5) (Or.inl ⟨by decide, by decide⟩) ⟨by decide, by decide⟩
          have g2 := r3.2.2.2.2.2 2 (by decide)
          rw [vup_o (by omega), vup_o (by omega), vup_o (by omega), vup_o (by omega), vup_o (by omega), vup_o (by omega), ht] at g2
          exact rV_row r3 (c := 2) (x := (t : Int) + 1) (l := 0) (u := 6) ((xa1 (by show _ ≤ _ + (1 : Int); omega) (by show _ + (1 : Int) ≤ _; omega)).trans (by rw [g2]; rfl)) (Or.inr (Or.inr ⟨Or.inr (Or.inl rfl), by decide, by decide⟩)) ⟨by omega, by omega⟩
  · have c : (m.1 76 2).toInt = 6 := Decidable.not_not.mp (zf c)
    refine xP_b (rV_x h hv q4 (x := 4) rfl (by decide) (by decide)) (fun r m1 q1 => ?_)
    obtain ⟨rfl, q1⟩ := q1
    dsimp only
    exact xP_g (by decide) (xP_r (Or.inl ⟨by omega, rfl, q1⟩))
/-- two houses -/
def vtwoR (b : Nat → Int) (n p : Nat) (h : Int) : Int ⊕ (Int × Int × Nat) := vtwo b n p h fun a c e => .inr (a, c, e)
theorem vtwo_l {α : Type} {h g : Int} {K : Int → Int → Nat → Int ⊕ α} (e : vtwoR b n p h = .inl g) : vtwo b n p h K = .inl g := by
  unfold vtwoR vtwo at e
  unfold vtwo
  cases e1 : vnu b n p 0 (h - 1) with
  | inl g1 => rw [vn_l e1] at e ⊢; rw [Sum.inl.inj e]
  | inr q1 =>
    obtain ⟨a, p1⟩ := q1
    rw [vn_r e1] at e ⊢
    cases e2 : vnu b n p1 0 (h - 1) with
    | inl g2 => rw [vn_l e2] at e ⊢; rw [Sum.inl.inj e]
    | inr q2 =>
      obtain ⟨c, p2⟩ := q2
      rw [vn_r e2] at e ⊢
      by_cases ac : a = c
      · rw [if_pos ac] at e ⊢; rw [Sum.inl.inj e]
      · rw [if_neg ac] at e; cases e
theorem vtwo_r {α : Type} {h a c : Int} {e : Nat} {K : Int → Int → Nat → Int ⊕ α} (z : vtwoR b n p h = .inr (a, c, e)) : vtwo b n p h K = K a c e ∧ (0 ≤ a ∧ a ≤ h - 1) ∧ (0 ≤ c ∧ c ≤ h - 1) ∧ a ≠ c ∧ e ≤ n := by
  unfold vtwoR vtwo at z
  unfold vtwo
  cases e1 : vnu b n p 0 (h - 1) with
  | inl g1 => rw [vn_l e1] at z; cases z
  | inr q1 =>
    obtain ⟨a1, p1⟩ := q1
    rw [vn_r e1] at z ⊢
    have b1 := vnu_b e1
    cases e2 : vnu b n p1 0 (h - 1) with
    | inl g2 => rw [vn_l e2] at z; cases z
    | inr q2 =>
      obtain ⟨c1, p2⟩ := q2
      rw [vn_r e2] at z ⊢
      have b2 := vnu_b e2
      by_cases ac : a1 = c1
      · rw [if_pos ac] at z; cases z
      · rw [if_neg ac] at z ⊢
        have z := Sum.inr.inj z
        obtain ⟨z1, z2⟩ := Prod.mk.inj z
        obtain ⟨z3, z4⟩ := Prod.mk.inj z2
        subst z1
        subst z3
        subst z4
        exact ⟨rfl, ⟨b1.1, b1.2.1⟩, ⟨b2.1, b2.2.1⟩, ac, b2.2.2.1⟩
theorem vnu_sk {l u : Int} : vnu b n (tsk b n p) l u = vnu b n p l u := by
  unfold vnu
  rw [tsk_id, tde_id]
theorem rV189 (hF : 500 ≤ F) (h : rV m0 b n p 0 k s m) (h0 : 1 ≤ s 0 ∧ s 0 ≤ 6) : xP (D189 F m) (fun r m' => (∃ g, vtwoR b n (tS tlt b n p) (s 0) = .inl g ∧ r = 0 ∧ vrX m0 g m') ∨ (∃ (a c : Int) (e : Nat), vtwoR b n (tS tlt b n p) (s 0) = .inr (a, c, e) ∧ r = 1 ∧ rV m0 b n e 0 k s m' ∧ (m'.1 70 17).toInt = a ∧ (m'.1 70 18).toInt = c)) := by
  unfold D189
  refine xP_b (rV_pass hF h) (fun _ m1 q1 => ?_)
  have a0 := q1.2.2.2.2.2 0 (by decide)
  dsimp only
  refine xP_b (rV_num (l := 0) (u := s 0 - 1) rfl (rh1 a0 (by omega) (by omega)) hF q1) (fun r m2 q2 => ?_)
  dsimp only
  rcases q2 with ⟨g, e1, rfl, e2⟩ | ⟨v, e, e1, rfl, e2, e3⟩
  · refine xP_i (fun c => absurd c (by decide)) (fun _ => xP_r (Or.inl ⟨g, ?_, rfl, e2⟩))
    unfold vtwoR vtwo
    exact vn_l e1
  · refine xP_i (fun _ => ?_) (fun c => absurd c (by decide))
    have vb := vnu_b e1
    have w1 := rV_f e2 (j := 17) (v := m2.1 70 10) (l := 0) (u := 5) rfl (by omega) (by omega) (by decide) (by decide)
    refine xP_b (xP_m (R164 hF w1.2.1 (rV_T w1)) (fun v m' q => ((⟨rV_of w1 q.1, (q.1.2.1.2 70 17 rfl)⟩ : rV m0 b n (tsk b n e) 0 k s m' ∧ m'.1 70 17 = _)))) (fun v3 m3 q3 => ?_)
    obtain ⟨q3, q17⟩ := q3
    have c0 := q3.2.2.2.2.2 0 (by decide)
    have c8 := q3.2.2.1
    dsimp only
    refine xP_b (xP_m (R170 hF q3.2.1 (rV_T q3)) (fun r m' q => (⟨q, (show m'.1 70 17 = m3.1 70 17 by
      rcases q with ⟨-, -, q⟩ | ⟨-, ⟨-, -, q⟩ | ⟨-, -, q⟩⟩ <;> exact q.2.1.2 70 17 rfl)⟩ : _ ∧ m'.1 70 17 = m3.1 70 17))) (fun r m4 q4 => ?_)
    obtain ⟨q4, f17⟩ := q4
    have hn : (∃ g, vnu b n e 0 (s 0 - 1) = .inl g ∧ r = 0 ∧ vrX m0 g m4) ∨ (∃ (v : Int) (e' : Nat), vnu b n e 0 (s 0 - 1) = .inr (v, e') ∧ r = 1 ∧ rV m0 b n e' 0 k s m4 ∧ (m4.1 70 10).toInt = v) := by
      have eu : (m3.1 76 0 - 1).toInt = s 0 - 1 := rh1 c0 (by omega) (by omega)
      rw [eu, show (0 : Int32).toInt = 0 from rfl, tsk_id, tde_id] at q4
      rcases q4 with ⟨z1, z2, z3⟩ | ⟨z1, ⟨z2, z3, z4⟩ | ⟨z2, z3, z4⟩⟩
      · refine Or.inl ⟨_, by unfold vnu; rw [if_pos z1], z2, ⟨z3.1, xfr_t q3.1.2 (xfr_l (by decide) z3.2.1)⟩, ?_, by omega⟩
        have := z3.2.2.2.1
        rw [this]
        unfold trf
        rw [if_pos rfl]
      · refine Or.inl ⟨_, by unfold vnu; rw [if_neg (fun z => z z1), if_pos z2], z3, ⟨z4.1, xfr_t q3.1.2 (xfr_l (by decide) z4.2.1)⟩, ?_, by omega⟩
        have := z4.2.2.2.1
        rw [this]
        unfold trf
        rw [if_pos rfl]
      · exact Or.inr ⟨_, _, by unfold vnu; rw [if_neg (fun z => z z1), if_neg z2], z3, rV_of q3 z4, z4.2.2.2.2⟩
    dsimp only
    rcases hn with ⟨g, d1, rfl, d2⟩ | ⟨v', e', d1, rfl, d2, d3⟩
    · refine xP_i (fun c => absurd c (by decide)) (fun _ => xP_r (Or.inl ⟨g, ?_, rfl, d2⟩))
      unfold vtwoR vtwo
      rw [vn_r e1]
      exact vn_l d1
    · refine xP_i (fun _ => ?_) (fun c => absurd c (by decide))
      have vb' := vnu_b d1
      have e17 : (m4.1 70 17).toInt = v := by rw [f17, q17, xu_s]; exact e3
      have w2 := rV_f d2 (j := 18) (v := m4.1 70 10) (l := 0) (u := 5) rfl (by omega) (by omega) (by decide) (by decide)
      refine xP_i (fun c => ?_) (fun c => ?_)
      · have c : (m4.1 70 17).toInt ≠ (m4.1 70 10).toInt := zt c
        unfold D189_86
        refine xP_r (Or.inr ⟨v, v', e', ?_, rfl, w2, (congrArg Int32.toInt (xu_o (by decide))).trans e17, (congrArg Int32.toInt (xu_s _ _ _ _)).trans d3⟩)
        unfold vtwoR vtwo
        rw [vn_r e1, vn_r d1, if_neg (by omega)]
      · have c : (m4.1 70 17).toInt = (m4.1 70 10).toInt := Decidable.not_not.mp (zf c)
        have n4 := d2.2.1.2.1
        refine xP_b (rV_x w2 c8.1 (by have := c8.2; omega) (x := 1) rfl (by decide) (by decide)) (fun r m5 q5 => ?_)
        obtain ⟨rfl, q5⟩ := q5
        dsimp only
        refine xP_i (fun _ => xP_r (Or.inl ⟨_, ?_, rfl, q5⟩)) (fun c => absurd c (by decide))
        unfold vtwoR vtwo
        rw [vn_r e1, vn_r d1, if_pos (by omega)]
/-- trust -/
theorem rV190 (hF : 500 ≤ F) (h : rV m0 b n p 0 k s m) (h0 : 1 ≤ s 0 ∧ s 0 ≤ 6) : xP (D190 F m) (fun r m' => vrQ m0 b n k (vbod b n (tS tlt b n p) s 2) r m') := by
  have hb : vbod b n (tS tlt b n p) s 2 = vtwo b n (tS tlt b n p) (s 0) (fun a c e => .inr (e, vup s (46 + 6 * a.toNat + c.toNat) 1)) := by
    unfold vbod
    rw [if_neg (by decide), if_neg (by decide), if_pos rfl]
  unfold D190
  refine xP_b (rV189 hF h h0) (fun r m1 q1 => ?_)
  dsimp only
  rcases q1 with ⟨g, e1, rfl, e2⟩ | ⟨a, c, e, e1, rfl, e2, e3, e4⟩
  · refine xP_i (fun c => absurd c (by decide)) (fun _ => xP_r ?_)
    rw [hb, vtwo_l e1]
    exact ⟨rfl, e2⟩
  · have z := vtwo_r (K := fun a c e => (.inr (e, vup s (46 + 6 * a.toNat + c.toNat) 1) : Int ⊕ vSt)) e1
    have i := ixH (A := 46) (B := 46) (x := m1.1 70 17) (y := m1.1 70 18) (a := a.toNat) (c := c.toNat) rfl (by decide) (by omega) (by omega) (by omega) (by omega)
    refine xP_i (fun _ => xP_g (xib_t (by omega) (by omega)) (xP_r ?_)) (fun c => absurd c (by decide))
    rw [hb, z.1, show ((46 : Int32) + 6 * m1.1 70 17 + m1.1 70 18).toNatClampNeg = 46 + 6 * a.toNat + c.toNat by show Int.toNat _ = _; omega]
    exact ⟨rfl, rV_row e2 (v := 1) (x := 1) rfl (l := 0) (u := 5) (Or.inl ⟨by decide, by decide⟩) ⟨by decide, by decide⟩⟩
/-- thanks -/
theorem rV191 (hF : 500 ≤ F) (h : rV m0 b n p 0 k s m) (h0 : 1 ≤ s 0 ∧ s 0 ≤ 6) : xP (D191 F m) (fun r m' => vrQ m0 b n k (vbod b n (tS tlt b n p) s 4) r m') := by
  have hb : vbod b n (tS tlt b n p) s 4 = vtwo b n (tS tlt b n p) (s 0) (fun a c e => vn b n e 0 9 fun d e2 => .inr (e2, vup s (82 + 6 * a.toNat + c.toNat) d)) := by
    unfold vbod
    rw [if_neg (by decide), if_neg (by decide), if_neg (by decide), if_neg (by decide)]
  unfold D191
  refine xP_b (rV189 hF h h0) (fun r m1 q1 => ?_)
  dsimp only
  rcases q1 with ⟨g, e1, rfl, e2⟩ | ⟨a, c, e, e1, rfl, e2, e3, e4⟩
  · refine xP_i (fun c => absurd c (by decide)) (fun _ => xP_r ?_)
    rw [hb, vtwo_l e1]
    exact ⟨rfl, e2⟩
  · have z := vtwo_r (K := fun a c e => (vn b n e 0 9 fun d e2 => .inr (e2, vup s (82 + 6 * a.toNat + c.toNat) d) : Int ⊕ vSt)) e1
    have i := ixH (A := 82) (B := 82) (x := m1.1 70 17) (y := m1.1 70 18) (a := a.toNat) (c := c.toNat) rfl (by decide) (by omega) (by omega) (by omega) (by omega)
    refine xP_i (fun _ => ?_) (fun c => absurd c (by decide))
    refine xP_b (rV_cell (l := 0) (u := 9) rfl rfl hF e2 i (by omega) (Or.inr (Or.inl ⟨by unfold vfree; omega, by decide, by decide⟩))) (fun r m2 q2 => ?_)
    rw [hb, z.1]
    dsimp only
    rcases q2 with ⟨g, d1, rfl, d2⟩ | ⟨v', e', d1, rfl, d2⟩
    · rw [vn_l d1]
      exact xP_g (by decide) (xP_r ⟨rfl, d2⟩)
    · rw [vn_r d1]
      exact xP_g (by decide) (xP_r ⟨rfl, d2⟩)
/-- work -/
theorem rV192 (hF : 500 ≤ F) (h : rV m0 b n p 0 k s m) {v1 : Int32} {q t : Nat} (hv : v1.toInt = (q : Int)) (q4 : q ≤ 400) (ht : s 3 = (t : Int)) (t6 : t ≤ 6) (h0 : 1 ≤ s 0 ∧ s 0 ≤ 6) : xP (D192 F v1 m) (fun r m' => (t = 6 ∧ r = 0 ∧ vrX m0 (1 + 8 * (q : Int) + 4) m') ∨ (t < 6 ∧ vrQ m0 b n k (vbod b n (tS tlt b n p) s 3) r m')) := by
  have h2 := h.2.2.2.2.2 3 (by decide)
  unfold D192
  refine xP_i (fun c => ?_) (fun c => ?_)
  · have c : (m.1 76 3).toInt ≠ 6 := zt c
    have t5 : t < 6 := by omega
    refine xP_b (rV_pass hF h) (fun _ m1 q1 => ?_)
    have a0 := q1.2.2.2.2.2 0 (by decide)
    have a2 := q1.2.2.2.2.2 3 (by decide)
    have i0 := ixW (a2.trans ht) t6
    have hb : vbod b n (tS tlt b n p) s 3 = vn b n (tS tlt b n p) 0 (s 0 - 1) (fun a e => vn b n e 0 4 fun c e2 => vn b n e2 1 20 fun d e3 => vn b n e3 1 50 fun f e4 => .inr (e4, vWork s (s 3).toNat a c d f)) := by
      unfold vbod
      rw [if_neg (by decide), if_neg (by decide), if_neg (by decide), if_pos rfl]
    have s2t : (s 3).toNat = t := by omega
    rw [s2t] at hb
    dsimp only
    refine xP_b (rV_cell (c := 124 + 4 * t) (l := 0) (u := s 0 - 1) rfl (rh1 a0 (by omega) (by omega)) hF q1 i0 (by omega) (Or.inl ⟨by decide, by omega⟩)) (fun r m2 q2 => ?_)
    dsimp only
    rcases q2 with ⟨g, e1, rfl, e2⟩ | ⟨v, e, e1, rfl, e2⟩
    · unfold D192_89
      refine xP_i (fun _ => xP_r (Or.inr ⟨t5, ?_⟩)) (fun c => absurd c (by decide))
      rw [hb, vn_l e1]
      exact ⟨rfl, e2⟩
    · refine xP_i (fun c => absurd c (by decide)) (fun _ => ?_)
      have i1 := ixp (d := 1) (e := 1) i0 rfl (by omega)
      refine xP_b (rV_cell (c := 124 + 4 * t + 1) (l := 0) (u := 4) rfl rfl hF e2 i1 (by omega) (Or.inl ⟨by decide, by decide⟩)) (fun r m3 q3 => ?_)
      dsimp only
      rcases q3 with ⟨g, d1, rfl, d2⟩ | ⟨v', e', d1, rfl, d2⟩
      · unfold D192_89
        refine xP_i (fun _ => xP_r (Or.inr ⟨t5, ?_⟩)) (fun c => absurd c (by decide))
        rw [hb, vn_r e1, vn_l d1]
        exact ⟨rfl, d2⟩
      · refine xP_i (fun c => absurd c (by decide)) (fun _ => ?_)
        have i2 := ixp (d := 2) (e := 2) i0 rfl (by omega)
        refine xP_b (rV_cell (c := 124 + 4 * t + 2) (l := 1) (u := 20) rfl rfl hF d2 i2 (by omega) (Or.inr (Or.inl ⟨by unfold vfree; omega, by decide, by decide⟩))) (fun r m4 q4' => ?_)
        dsimp only
        rcases q4' with ⟨g, f1, rfl, f2⟩ | ⟨v'', e'', f1, rfl, f2⟩
        · unfold D192_89
          refine xP_i (fun _ => xP_r (Or.inr ⟨t5, ?_⟩)) (fun c => absurd c (by decide))
          rw [hb, vn_r e1, vn_r d1, vn_l f1]
          exact ⟨rfl, f2⟩
        · refine xP_i (fun c => absurd c (by decide)) (fun _ => ?_)
          have i3 := ixp (d := 3) (e := 3) i0 rfl (by omega)
          refine xP_b (rV_cell (c := 124 + 4 * t + 3) (l := 1) (u := 50) rfl rfl hF f2 i3 (by omega) (Or.inr (Or.inl ⟨by unfold vfree; omega, by decide, by decide⟩))) (fun r m5 q5' => ?_)
          dsimp only
          rcases q5' with ⟨g, g1, rfl, g2⟩ | ⟨v3, e3, g1, rfl, g2⟩
          · unfold D192_89
            refine xP_i (fun c => absurd c (by decide)) (fun _ => xP_r (Or.inr ⟨t5, ?_⟩))
            rw [hb, vn_r e1, vn_r d1, vn_r f1, vn_l g1]
            exact ⟨rfl, g2⟩
          · refine xP_i (fun _ => xP_r (Or.inr ⟨t5, ?_⟩)) (fun c => absurd c (by decide))
            rw [hb, vn_r e1, vn_r d1, vn_r f1, vn_r g1]
            refine ⟨rfl, ?_⟩
            have z2 := g2.2.2.2.2.2 3 (by decide)
            rw [vup_o (by omega), vup_o (by omega), vup_o (by omega), vup_o (by omega), ht] at z2
            exact rV_row g2 (c := 3) (x := (t : Int) + 1) (l := 0) (u := 6) ((xa1 (by show _ ≤ _ + (1 : Int); omega) (by show _ + (1 : Int) ≤ _; omega)).trans (by rw [z2]; rfl)) (Or.inr (Or.inr ⟨Or.inr (Or.inr rfl), by decide, by decide⟩)) ⟨by omega, by omega⟩
  · have c : (m.1 76 3).toInt = 6 := Decidable.not_not.mp (zf c)
    refine xP_b (rV_x h hv q4 (x := 4) rfl (by decide) (by decide)) (fun r m1 q1 => ?_)
    obtain ⟨rfl, q1⟩ := q1
    dsimp only
    exact xP_g (by decide) (xP_r (Or.inl ⟨by omega, rfl, q1⟩))
end VRE
end
section
/-! The reference's village: clauses, the whole text, the call. -/
section VRF
variable {m0 : xS} {b : Nat → Int} {n p k : Nat} {s : Nat → Int} {m : xS} {F : Nat}
theorem tcls_c {w : List Int} {u : Nat} (h : tix w tCls = some u) : (u = 0 ∧ w = [118, 105, 108, 108, 97, 103, 101]) ∨ (u = 1 ∧ w = [116, 111, 111, 108]) ∨ (u = 2 ∧ w = [116, 114, 117, 115, 116]) ∨ (u = 3 ∧ w = [119, 111, 114, 107]) ∨ (u = 4 ∧ w = [116, 104, 97, 110, 107, 115]) := by
  unfold tCls at h
  by_cases c0 : w = [118, 105, 108, 108, 97, 103, 101]
  · subst c0
    have h : (0 : Nat) = u := Option.some.inj h
    exact Or.inl ⟨h.symm, rfl⟩
  rw [tix_ne c0] at h
  by_cases c1 : w = [116, 111, 111, 108]
  · subst c1
    have h : (1 : Nat) = u := Option.some.inj h
    exact Or.inr (Or.inl ⟨h.symm, rfl⟩)
  rw [tix_ne c1] at h
  by_cases c2 : w = [116, 114, 117, 115, 116]
  · subst c2
    have h : (2 : Nat) = u := Option.some.inj h
    exact Or.inr (Or.inr (Or.inl ⟨h.symm, rfl⟩))
  rw [tix_ne c2] at h
  by_cases c3 : w = [119, 111, 114, 107]
  · subst c3
    have h : (3 : Nat) = u := Option.some.inj h
    exact Or.inr (Or.inr (Or.inr (Or.inl ⟨h.symm, rfl⟩)))
  rw [tix_ne c3] at h
  by_cases c4 : w = [116, 104, 97, 110, 107, 115]
  · subst c4
    have h : (4 : Nat) = u := Option.some.inj h
    exact Or.inr (Or.inr (Or.inr (Or.inr ⟨h.symm, rfl⟩)))
  rw [tix_ne c4] at h
  cases h
theorem tcls_n {w : List Int} (h : tix w tCls = none) : w ≠ [118, 105, 108, 108, 97, 103, 101] ∧ w ≠ [116, 111, 111, 108] ∧ w ≠ [116, 114, 117, 115, 116] ∧ w ≠ [119, 111, 114, 107] ∧ w ≠ [116, 104, 97, 110, 107, 115] := by
  refine ⟨fun e => ?_, fun e => ?_, fun e => ?_, fun e => ?_, fun e => ?_⟩ <;> (subst e; cases h)
theorem rV_w0 (hF : 500 ≤ F) (h : rV m0 b n p 0 k s m) (e : tsk b n p = p) : xP (D167 F 33329961647564645 m) (fun r m' => rV m0 b n p 0 k s m' ∧ ((r = 1 ∧ twd b n p = [118, 105, 108, 108, 97, 103, 101]) ∨ (r = 0 ∧ twd b n p ≠ [118, 105, 108, 108, 97, 103, 101]))) := by
  have := rV_is (W := [118, 105, 108, 108, 97, 103, 101]) (w := 33329961647564645) hF h (by decide) (by decide) (by decide)
  rw [e] at this
  exact this
theorem rV_w1 (hF : 500 ≤ F) (h : rV m0 b n p 0 k s m) (e : tsk b n p = p) : xP (D167 F 1953460076 m) (fun r m' => rV m0 b n p 0 k s m' ∧ ((r = 1 ∧ twd b n p = [116, 111, 111, 108]) ∨ (r = 0 ∧ twd b n p ≠ [116, 111, 111, 108]))) := by
  have := rV_is (W := [116, 111, 111, 108]) (w := 1953460076) hF h (by decide) (by decide) (by decide)
  rw [e] at this
  exact this
theorem rV_w2 (hF : 500 ≤ F) (h : rV m0 b n p 0 k s m) (e : tsk b n p = p) : xP (D167 F 500136506228 m) (fun r m' => rV m0 b n p 0 k s m' ∧ ((r = 1 ∧ twd b n p = [116, 114, 117, 115, 116]) ∨ (r = 0 ∧ twd b n p ≠ [116, 114, 117, 115, 116]))) := by
  have := rV_is (W := [116, 114, 117, 115, 116]) (w := 500136506228) hF h (by decide) (by decide) (by decide)
  rw [e] at this
  exact this
theorem rV_w3 (hF : 500 ≤ F) (h : rV m0 b n p 0 k s m) (e : tsk b n p = p) : xP (D167 F 2003792491 m) (fun r m' => rV m0 b n p 0 k s m' ∧ ((r = 1 ∧ twd b n p = [119, 111, 114, 107]) ∨ (r = 0 ∧ twd b n p ≠ [119, 111, 114, 107]))) := by
  have := rV_is (W := [119, 111, 114, 107]) (w := 2003792491) hF h (by decide) (by decide) (by decide)
  rw [e] at this
  exact this
theorem rV_w4 (hF : 500 ≤ F) (h : rV m0 b n p 0 k s m) (e : tsk b n p = p) : xP (D167 F 127991660047219 m) (fun r m' => rV m0 b n p 0 k s m' ∧ ((r = 1 ∧ twd b n p = [116, 104, 97, 110, 107, 115]) ∨ (r = 0 ∧ twd b n p ≠ [116, 104, 97, 110, 107, 115]))) := by
  have := rV_is (W := [116, 104, 97, 110, 107, 115]) (w := 127991660047219) hF h (by decide) (by decide) (by decide)
  rw [e] at this
  exact this
/-- isVillageWord -/
theorem rV194 (hF : 500 ≤ F) (h : rV m0 b n p 0 k s m) (e : tsk b n p = p) : xP (D194 F m) (fun r m' => rV m0 b n p 0 k s m' ∧ ((r = 1 ∧ ∃ u, tix (twd b n p) tCls = some u) ∨ (r = 0 ∧ tix (twd b n p) tCls = none))) := by
  unfold D194 D194_50
  refine xP_b (rV_w0 hF h e) (fun r m1 q => ?_)
  obtain ⟨h1, q⟩ := q
  dsimp only
  rcases q with ⟨rfl, q⟩ | ⟨rfl, q0⟩
  · exact xP_i (fun _ => xP_r ⟨h1, Or.inl ⟨rfl, 0, by rw [q]; rfl⟩⟩) (fun c => absurd c (by decide))
  refine xP_i (fun c => absurd c (by decide)) (fun _ => ?_)
  refine xP_b (rV_w1 hF h1 e) (fun r m2 q => ?_)
  obtain ⟨h2, q⟩ := q
  dsimp only
  rcases q with ⟨rfl, q⟩ | ⟨rfl, q1⟩
  · exact xP_i (fun _ => xP_r ⟨h2, Or.inl ⟨rfl, 1, by rw [q]; rfl⟩⟩) (fun c => absurd c (by decide))
  refine xP_i (fun c => absurd c (by decide)) (fun _ => ?_)
  refine xP_b (rV_w2 hF h2 e) (fun r m3 q => ?_)
  obtain ⟨h3, q⟩ := q
  dsimp only
  rcases q with ⟨rfl, q⟩ | ⟨rfl, q2⟩
  · exact xP_i (fun _ => xP_r ⟨h3, Or.inl ⟨rfl, 2, by rw [q]; rfl⟩⟩) (fun c => absurd c (by decide))
  refine xP_i (fun c => absurd c (by decide)) (fun _ => ?_)
  refine xP_b (rV_w3 hF h3 e) (fun r m4 q => ?_)
  obtain ⟨h4, q⟩ := q
  dsimp only
  rcases q with ⟨rfl, q⟩ | ⟨rfl, q3⟩
  · exact xP_i (fun _ => xP_r ⟨h4, Or.inl ⟨rfl, 3, by rw [q]; rfl⟩⟩) (fun c => absurd c (by decide))
  refine xP_i (fun c => absurd c (by decide)) (fun _ => ?_)
  refine xP_b (rV_w4 hF h4 e) (fun r m5 q => ?_)
  obtain ⟨h5, q⟩ := q
  dsimp only
  rcases q with ⟨rfl, q⟩ | ⟨rfl, q4⟩
  · exact xP_i (fun c => absurd c (by decide)) (fun _ => xP_r ⟨h5, Or.inl ⟨rfl, 4, by rw [q]; rfl⟩⟩)
  · refine xP_i (fun _ => xP_r ⟨h5, Or.inr ⟨rfl, ?_⟩⟩) (fun c => absurd c (by decide))
    unfold tCls
    rw [tix_ne q0, tix_ne q1, tix_ne q2, tix_ne q3, tix_ne q4]
    rfl
theorem xbo_r {r : Int32} {o : Int ⊕ vSt} {m' : xS} (h : vrQ m0 b n k o r m') : xbo r = true := by
  unfold vrQ at h
  split at h
  · rw [h.1]; decide
  · rw [h.1]; decide
/-- a clause behind its word -/
theorem rV193 (hF : 500 ≤ F) (h : rV m0 b n p 0 (k + 1) s m) (e : tsk b n p = p) (ok : vOk s k) (k40 : k < 40) {v1 : Int32} (hv : v1.toInt = (p : Int)) {u : Nat} (hu : tix (twd b n p) tCls = some u) : xP (D193 F v1 m) (fun r m' => vrQ m0 b n (k + 1) (if vmay s k u = true then vbod b n (tS tlt b n p) s u else .inl (1 + 8 * (p : Int) + 4)) r m') := by
  have p4 : p ≤ 400 := Nat.le_trans h.2.2.1.2 h.2.1.2.1
  obtain ⟨o1, o2, o3, o4⟩ := ok
  obtain ⟨t, ht⟩ : ∃ t : Nat, s 2 = (t : Int) := ⟨(s 2).toNat, by omega⟩
  obtain ⟨t3, ht3⟩ : ∃ t : Nat, s 3 = (t : Int) := ⟨(s 3).toNat, by omega⟩
  have c := tcls_c hu
  unfold D193
  refine xP_b (rV_w0 hF h e) (fun r m1 q => ?_)
  obtain ⟨h1, q⟩ := q
  have s0 := h1.2.2.2.2.2 0 (by decide)
  dsimp only
  rcases c with ⟨rfl, hw⟩ | c
  · -- village
    rcases q with ⟨rfl, q⟩ | ⟨rfl, q⟩
    · refine xP_i (fun c => absurd c (by decide)) (fun _ => ?_)
      refine xP_b (rV187 hF h1 hv p4) (fun r m2 q2 => ?_)
      dsimp only
      rcases q2 with ⟨g1, rfl, g2⟩ | ⟨g1, g2⟩
      · refine xP_g (by decide) (xP_r ?_)
        have k0 : k ≠ 0 := fun z => by have := o1 z; omega
        have : vmay s k 0 = false := by unfold vmay; rw [if_neg k0]; rfl
        rw [this]
        exact ⟨rfl, g2⟩
      · refine xP_g (xbo_r g2) (xP_r ?_)
        have k0 : k = 0 := by
          by_cases z : k = 0
          · exact z
          · have := o2 (by omega); omega
        have : vmay s k 0 = true := by unfold vmay; rw [if_pos k0]; rfl
        rw [this]
        exact g2
    · exact absurd hw q
  have nv : u ≠ 0 := by rcases c with c | c | c | c <;> omega
  have hwn : twd b n p ≠ [118, 105, 108, 108, 97, 103, 101] := fun z => by
    rw [z] at hu
    have hu : (0 : Nat) = u := Option.some.inj hu
    omega
  rcases q with ⟨rfl, q⟩ | ⟨rfl, -⟩
  · exact absurd q hwn
  refine xP_i (fun _ => ?_) (fun c => absurd c (by decide))
  refine xP_i (fun c0 => ?_) (fun c0 => ?_)
  rotate_left
  · have c0 : (m1.1 76 0).toInt = 0 := Decidable.not_not.mp (zf c0)
    have k0 : k = 0 := by
      by_cases z : k = 0
      · exact z
      · have := o2 (by omega); omega
    refine xP_b (rV_x h1 hv p4 (x := 4) rfl (by decide) (by decide)) (fun r m2 q2 => ?_)
    obtain ⟨rfl, q2⟩ := q2
    dsimp only
    refine xP_g (by decide) (xP_r ?_)
    have : vmay s k u = false := by
      unfold vmay
      rw [if_pos k0]
      simpa using nv
    rw [this]
    exact ⟨rfl, q2⟩
  have c0 : (m1.1 76 0).toInt ≠ 0 := zt c0
  have k0 : k ≠ 0 := fun z => by have := o1 z; omega
  have s06 := o2 (by omega)
  have may : vmay s k u = ((u != 1 || decide (s 2 < 6)) && (u != 3 || decide (s 3 < 6))) := by
    unfold vmay
    rw [if_neg k0, decide_eq_true k40, show (u != 0) = true by simpa using nv]
    rfl
  rw [may]
  refine xP_b (rV_w1 hF h1 e) (fun r m2 q => ?_)
  obtain ⟨h2, q⟩ := q
  dsimp only
  rcases c with ⟨rfl, hw⟩ | c
  · rcases q with ⟨rfl, q⟩ | ⟨rfl, q⟩
    · refine xP_i (fun c => absurd c (by decide)) (fun _ => ?_)
      refine xP_b (rV188 hF h2 hv p4 ht (by omega) (by omega)) (fun r m3 q2 => ?_)
      dsimp only
      rcases q2 with ⟨g1, rfl, g2⟩ | ⟨g1, g2⟩
      · refine xP_g (by decide) (xP_r ?_)
        rw [decide_eq_false (p := s 2 < 6) (by omega)]
        exact ⟨rfl, g2⟩
      · refine xP_g (xbo_r g2) (xP_r ?_)
        rw [decide_eq_true (p := s 2 < 6) (by omega)]
        exact g2
    · exact absurd hw q
  have n1 : u ≠ 1 := by rcases c with c | c | c <;> omega
  rcases q with ⟨rfl, q⟩ | ⟨rfl, -⟩
  · rw [q] at hu
    have hu : (1 : Nat) = u := Option.some.inj hu
    omega
  refine xP_i (fun _ => ?_) (fun c => absurd c (by decide))
  refine xP_b (rV_w2 hF h2 e) (fun r m3 q => ?_)
  obtain ⟨h3, q⟩ := q
  dsimp only
  rcases c with ⟨rfl, hw⟩ | c
  · rcases q with ⟨rfl, q⟩ | ⟨rfl, q⟩
    · refine xP_i (fun c => absurd c (by decide)) (fun _ => ?_)
      refine xP_b (rV190 hF h3 (by omega)) (fun r m4 q2 => ?_)
      exact xP_g (xbo_r q2) (xP_r q2)
    · exact absurd hw q
  have n2 : u ≠ 2 := by rcases c with c | c <;> omega
  rcases q with ⟨rfl, q⟩ | ⟨rfl, -⟩
  · rw [q] at hu
    have hu : (2 : Nat) = u := Option.some.inj hu
    omega
  refine xP_i (fun _ => ?_) (fun c => absurd c (by decide))
  refine xP_b (rV_w3 hF h3 e) (fun r m4 q => ?_)
  obtain ⟨h4, q⟩ := q
  dsimp only
  rcases c with ⟨rfl, hw⟩ | ⟨rfl, hw⟩
  · rcases q with ⟨rfl, q⟩ | ⟨rfl, q⟩
    · refine xP_i (fun c => absurd c (by decide)) (fun _ => ?_)
      refine xP_b (rV192 hF h4 hv p4 ht3 (by omega) (by omega)) (fun r m5 q2 => ?_)
      dsimp only
      rcases q2 with ⟨g1, rfl, g2⟩ | ⟨g1, g2⟩
      · refine xP_g (by decide) (xP_r ?_)
        rw [decide_eq_false (p := s 3 < 6) (by omega)]
        exact ⟨rfl, g2⟩
      · refine xP_g (xbo_r g2) (xP_r ?_)
        rw [decide_eq_true (p := s 3 < 6) (by omega)]
        exact g2
    · exact absurd hw q
  · rcases q with ⟨rfl, q⟩ | ⟨rfl, -⟩
    · rw [q] at hu
      have hu : (3 : Nat) = 4 := Option.some.inj hu
      omega
    refine xP_i (fun _ => ?_) (fun c => absurd c (by decide))
    refine xP_b (rV191 hF h4 (by omega)) (fun r m5 q2 => ?_)
    exact xP_g (xbo_r q2) (xP_r q2)
/-- a clause -/
theorem rV195 (hF : 500 ≤ F) (h : rV m0 b n p 0 k s m) (ok : vOk s k) (k40 : k ≤ 40) : xP (D195 F m) (fun r m' => vrQ m0 b n (k + 1) (vcl b n k p s) r m') := by
  unfold D195
  refine xP_b (rV_see hF h) (fun v m1 q1 => ?_)
  obtain ⟨h1, -⟩ := q1
  have p4 : tsk b n p ≤ 400 := Nat.le_trans h1.2.2.1.2 h1.2.1.2.1
  have hv := h1.2.2.1.1
  have ei : tsk b n (tsk b n p) = tsk b n p := tS_id _
  have tw0 : twd b n (tsk b n p) = twd b n p := by
    show tw b (tS tbl b n (tS tbl b n p)) (tS tlt b n (tS tbl b n (tS tbl b n p))) = _
    rw [tS_id]
  dsimp only
  refine xP_i (fun c => ?_) (fun _ => ?_)
  · have c : (m1.1 70 11).toInt ≠ 6 := zt c
    exact absurd h1.2.2.2.2.1.1 c
  unfold D195_24
  refine xP_i (fun c => absurd c (by decide)) (fun _ => ?_)
  refine xP_b (rV194 hF h1 ei) (fun r m2 q2 => ?_)
  obtain ⟨h2, q2⟩ := q2
  rw [tw0] at q2
  dsimp only
  rcases q2 with ⟨rfl, u, hu⟩ | ⟨rfl, hu⟩
  · refine xP_i (fun _ => ?_) (fun c => absurd c (by decide))
    have vc : vcl b n k p s = if vmay s k u = true then vbod b n (tS tlt b n (tsk b n p)) s u else .inl (1 + 8 * (tsk b n p : Int) + 4) := by
      unfold vcl
      rw [hu]
    rw [vc]
    unfold D195_56
    refine xP_i (fun c => absurd c (by decide)) (fun _ => ?_)
    have hk := h2.2.2.2.2.1.2
    unfold D195_71
    refine xP_i (fun c => ?_) (fun c => ?_)
    · have c : (m2.1 70 14).toInt ≠ 40 := zt c
      refine xP_i (fun c => absurd c (by decide)) (fun _ => ?_)
      have h3 : rV m0 b n (tsk b n p) 0 (k + 1) s (xu m2 70 14 (m2.1 70 14 + 1)) := by
        obtain ⟨g1, g2, g3, g4, g5, g6⟩ := h2
        have e1 : (m2.1 70 14 + 1).toInt = (k : Int) + 1 := (xa1 (by show _ ≤ _ + (1 : Int); omega) (by show _ + (1 : Int) ≤ _; omega)).trans (by rw [hk]; rfl)
        have o : ∀ i, i ≠ 14 → (xu m2 70 14 (m2.1 70 14 + 1)).1 70 i = m2.1 70 i := fun i hi => xu_o (fun z => hi z.2)
        refine ⟨⟨xT_c g1.1 (i := 70) (j := 14) rfl (by omega) (by omega), xfr_t g1.2 (xfr_u rfl)⟩, ⟨by rw [o _ (by decide)]; exact g2.1, g2.2.1, fun i hi => ?_⟩, by rw [o _ (by decide)]; exact g3, by rw [o _ (by decide)]; exact g4, ⟨by rw [o _ (by decide)]; exact g5.1, by rw [xu_s]; exact e1⟩, fun i hi => ?_⟩
        · rw [xu_o (fun z => absurd z.1 (by decide))]
          exact g2.2.2 i hi
        · rw [xu_o (fun z => absurd z.1 (by decide))]
          exact g6 i hi
      refine xP_b (rV193 hF h3 ei ok (by omega) hv (u := u) (by rw [tw0]; exact hu)) (fun r m3 q3 => ?_)
      exact xP_g (xbo_r q3) (xP_r q3)
    · have c : (m2.1 70 14).toInt = 40 := Decidable.not_not.mp (zf c)
      refine xP_b (rV_x h2 hv p4 (x := 4) rfl (by decide) (by decide)) (fun r m3 q3 => ?_)
      obtain ⟨rfl, q3⟩ := q3
      dsimp only
      refine xP_g (by decide) (xP_r ?_)
      have : vmay s k u = false := by
        unfold vmay
        rw [if_neg (by omega), decide_eq_false (p := k < 40) (by omega), Bool.false_and, Bool.and_false]
      rw [this]
      exact ⟨rfl, q3⟩
  · refine xP_i (fun c => absurd c (by decide)) (fun _ => ?_)
    have vc : vcl b n k p s = .inl (1 + 8 * (tsk b n p : Int)) := by
      unfold vcl
      rw [hu]
    rw [vc]
    unfold D195_49
    refine xP_b (rV_x h2 hv p4 (x := 0) rfl (by decide) (by decide)) (fun r m3 q3 => ?_)
    obtain ⟨rfl, q3⟩ := q3
    dsimp only
    refine xP_g (by decide) (xP_r ⟨rfl, ?_⟩)
    rw [show (1 + 8 * (tsk b n p : Int) + 0) = 1 + 8 * (tsk b n p : Int) from Int.add_zero _] at q3
    exact q3
/-- a clause keeps the numbers -/
theorem vbod_ok {u : Nat} {e : Nat} {s' : Nat → Int} (ok : vOk s k) (hm : vmay s k u = true) (u5 : u < 5) (hp : p ≤ n) (h : vbod b n p s u = .inr (e, s')) : vOk s' (k + 1) ∧ e ≤ n := by
  obtain ⟨o1, o2, o3, o4⟩ := ok
  unfold vmay at hm
  unfold vbod at h
  by_cases u0 : u = 0
  · rw [if_pos u0] at h
    have k0 : k = 0 := by
      by_cases z : k = 0
      · exact z
      · rw [if_neg z, u0] at hm
        cases hm
    cases e1 : vnu b n p 2 6 with
    | inl g => rw [vn_l e1] at h; cases h
    | inr q1 =>
      obtain ⟨a, p1⟩ := q1
      rw [vn_r e1] at h
      have b1 := vnu_b e1
      cases e2 : vnu b n p1 1 20 with
      | inl g => rw [vn_l e2] at h; cases h
      | inr q2 =>
        obtain ⟨c, p2⟩ := q2
        rw [vn_r e2] at h
        have b2 := vnu_b e2
        have h := Sum.inr.inj h
        obtain ⟨h1, h2⟩ := Prod.mk.inj h
        subst h1
        subst h2
        refine ⟨⟨fun z => by omega, fun _ => ?_, ?_, ?_⟩, b2.2.2.1⟩
        · rw [vup_s]; omega
        · rw [vup_o (by decide), vup_o (by decide)]; exact o3
        · rw [vup_o (by decide), vup_o (by decide)]; exact o4
  rw [if_neg u0] at h
  have k0 : k ≠ 0 := fun z => by
    rw [if_pos z] at hm
    exact u0 (by simpa using hm)
  have s06 := o2 (by omega)
  rw [if_neg k0] at hm
  simp only [Bool.and_eq_true, Bool.or_eq_true, decide_eq_true_eq, bne_iff_ne] at hm
  obtain ⟨-, -, m1, m3⟩ := hm
  by_cases u1 : u = 1
  · rw [if_pos u1] at h
    have l6 := m1.resolve_left (fun z => z u1)
    cases e1 : vnu b n p 0 (s 0 - 1) with
    | inl g => rw [vn_l e1] at h; cases h
    | inr q1 =>
      obtain ⟨a, p1⟩ := q1
      rw [vn_r e1] at h
      cases e2 : vnu b n p1 0 4 with
      | inl g => rw [vn_l e2] at h; cases h
      | inr q2 =>
        obtain ⟨c, p2⟩ := q2
        rw [vn_r e2] at h
        cases e3 : vnu b n p2 0 9 with
        | inl g => rw [vn_l e3] at h; cases h
        | inr q3 =>
          obtain ⟨d, p3⟩ := q3
          rw [vn_r e3] at h
          have b3 := vnu_b e3
          have h := Sum.inr.inj h
          obtain ⟨h1, h2⟩ := Prod.mk.inj h
          subst h1
          subst h2
          unfold vTool
          refine ⟨⟨fun z => by omega, fun _ => ?_, ?_, ?_⟩, b3.2.2.1⟩
          · rw [vup_o (by omega), vup_o (by omega), vup_o (by omega), vup_o (by omega), vup_o (by omega), vup_o (by omega), vup_o (by omega)]; exact s06
          · rw [vup_s]; omega
          · rw [vup_o (by omega), vup_o (by omega), vup_o (by omega), vup_o (by omega), vup_o (by omega), vup_o (by omega), vup_o (by omega)]; exact o4
  rw [if_neg u1] at h
  by_cases u2 : u = 2
  · rw [if_pos u2] at h
    cases e1 : vtwoR b n p (s 0) with
    | inl g => rw [vtwo_l e1] at h; cases h
    | inr q1 =>
      obtain ⟨a, c, p1⟩ := q1
      have z := vtwo_r (K := fun a c e => (.inr (e, vup s (46 + 6 * a.toNat + c.toNat) 1) : Int ⊕ vSt)) e1
      rw [z.1] at h
      have h := Sum.inr.inj h
      obtain ⟨h1, h2⟩ := Prod.mk.inj h
      subst h1
      subst h2
      refine ⟨⟨fun z => by omega, fun _ => ?_, ?_, ?_⟩, z.2.2.2.2⟩
      · rw [vup_o (by omega)]; exact s06
      · rw [vup_o (by omega)]; exact o3
      · rw [vup_o (by omega)]; exact o4
  rw [if_neg u2] at h
  by_cases u3 : u = 3
  · rw [if_pos u3] at h
    have l6 := m3.resolve_left (fun z => z u3)
    cases e1 : vnu b n p 0 (s 0 - 1) with
    | inl g => rw [vn_l e1] at h; cases h
    | inr q1 =>
      obtain ⟨a, p1⟩ := q1
      rw [vn_r e1] at h
      cases e2 : vnu b n p1 0 4 with
      | inl g => rw [vn_l e2] at h; cases h
      | inr q2 =>
        obtain ⟨c, p2⟩ := q2
        rw [vn_r e2] at h
        cases e3 : vnu b n p2 1 20 with
        | inl g => rw [vn_l e3] at h; cases h
        | inr q3 =>
          obtain ⟨d, p3⟩ := q3
          rw [vn_r e3] at h
          cases e4 : vnu b n p3 1 50 with
          | inl g => rw [vn_l e4] at h; cases h
          | inr q4 =>
            obtain ⟨f, p4⟩ := q4
            rw [vn_r e4] at h
            have b4 := vnu_b e4
            have h := Sum.inr.inj h
            obtain ⟨h1, h2⟩ := Prod.mk.inj h
            subst h1
            subst h2
            unfold vWork
            refine ⟨⟨fun z => by omega, fun _ => ?_, ?_, ?_⟩, b4.2.2.1⟩
            · rw [vup_o (by omega), vup_o (by omega), vup_o (by omega), vup_o (by omega), vup_o (by omega)]; exact s06
            · rw [vup_o (by omega), vup_o (by omega), vup_o (by omega), vup_o (by omega), vup_o (by omega)]; exact o3
            · rw [vup_s]; omega
  rw [if_neg u3] at h
  cases e1 : vtwoR b n p (s 0) with
  | inl g => rw [vtwo_l e1] at h; cases h
  | inr q1 =>
    obtain ⟨a, c, p1⟩ := q1
    have z := vtwo_r (K := fun a c e => (vn b n e 0 9 fun d e2 => .inr (e2, vup s (82 + 6 * a.toNat + c.toNat) d) : Int ⊕ vSt)) e1
    rw [z.1] at h
    cases e2 : vnu b n p1 0 9 with
    | inl g => rw [vn_l e2] at h; cases h
    | inr q2 =>
      obtain ⟨d, p2⟩ := q2
      rw [vn_r e2] at h
      have b2 := vnu_b e2
      have h := Sum.inr.inj h
      obtain ⟨h1, h2⟩ := Prod.mk.inj h
      subst h1
      subst h2
      refine ⟨⟨fun z => by omega, fun _ => ?_, ?_, ?_⟩, b2.2.2.1⟩
      · rw [vup_o (by omega)]; exact s06
      · rw [vup_o (by omega)]; exact o3
      · rw [vup_o (by omega)]; exact o4
theorem vcl_ok {e : Nat} {s' : Nat → Int} (ok : vOk s k) (hp : p ≤ n) (h : vcl b n k p s = .inr (e, s')) : vOk s' (k + 1) ∧ e ≤ n ∧ k < 40 := by
  unfold vcl at h
  split at h
  · cases h
  · next u hu =>
    split at h
    · next hm =>
      have u5 : u < 5 := by
        rcases tcls_c hu with c | c | c | c | c <;> omega
      have l1 : tsk b n p ≤ n := tS_le _ hp
      have z := vbod_ok ok hm u5 (tS_le _ l1) h
      refine ⟨z.1, z.2, ?_⟩
      unfold vmay at hm
      by_cases k0 : k = 0
      · omega
      · rw [if_neg k0] at hm
        simp only [Bool.and_eq_true, decide_eq_true_eq] at hm
        exact hm.2.1
    · cases h
def vrW (m0 : xS) (o : Int ⊕ (Nat → Int)) (v : Int32) (m : xS) : Prop := (xT m ∧ xfr vM m0 m) ∧ (match o with
  | .inl g => v = 0 ∧ g ≠ 0 ∧ (m.1 70 9).toInt = g
  | .inr s => v = 1 ∧ (m.1 70 9).toInt = 0 ∧ ∀ j, j < 148 → (m.1 76 j).toInt = s j)
theorem rV196_88l {g : Int} {v1 : Int32} {s' : Nat → Int} (h : vrX m0 g m) : xP (D196_88 F v1 m) (fun v m' => vrW m0 (.inl g) v m') := by
  unfold D196_88
  refine xP_i (fun _ => xP_r ⟨⟨xT_c h.1.1 (i := 70) (j := 1) rfl (by decide) (by decide), xfr_t h.1.2 (xfr_u rfl)⟩, rfl, h.2.2, (congrArg Int32.toInt (xu_o (by decide))).trans h.2.1⟩) (fun c => ?_)
  have c : (m.1 70 9).toInt = 0 := Decidable.not_not.mp (zf c)
  exact absurd (h.2.1.symm.trans c) h.2.2
theorem rV196_66l {g : Int} (h : vrX m0 g m) : xP (D196_66 F 0 m) (fun v m' => vrW m0 (.inl g) v m') := by
  unfold D196_66
  exact xP_i (fun _ => rV196_88l (s' := fun _ => 0) h) (fun c => absurd c (by decide))
/-- the loop over clauses -/
theorem rV196_35 (hF : 500 ≤ F) : ∀ (g f : Nat) {k p : Nat} {s : Nat → Int} {r : Int32} {m : xS}, g ≤ f → k + g = 41 → vOk s k → p ≤ n → vrQ m0 b n (k + 1) (vcl b n k p s) r m → xP (D196_35 F (f + 1) r m) (fun v m' => vrW m0 (vrun b n (g + 1) k p s) v m') := by
  intro g
  induction g with
  | zero =>
    intro f k p s r m _ hk ok hp h
    have n4 : vrun b n (0 + 1) k p s = (match vcl b n k p s with
      | .inl g => .inl g
      | .inr q => if tsg b n (tsk b n q.1) = 59 then vrun b n 0 (k + 1) (tsk b n q.1 + 1) q.2 else if tsg b n (tsk b n q.1) = -1 then .inr q.2 else .inl (1 + 8 * (tsk b n q.1 : Int))) := rfl
    cases hc : vcl b n k p s with
    | inl x =>
      rw [hc] at h n4
      obtain ⟨rfl, h⟩ := h
      rw [n4]
      unfold D196_35
      exact xP_i (fun _ => rV196_66l h) (fun c => absurd c (by decide))
    | inr q =>
      obtain ⟨e, s'⟩ := q
      have := (vcl_ok ok hp hc).2.2
      omega
  | succ g ih =>
    intro f k p s r m hf hk ok hp h
    have nx : vrun b n (g + 1 + 1) k p s = (match vcl b n k p s with
      | .inl g => .inl g
      | .inr q => if tsg b n (tsk b n q.1) = 59 then vrun b n (g + 1) (k + 1) (tsk b n q.1 + 1) q.2 else if tsg b n (tsk b n q.1) = -1 then .inr q.2 else .inl (1 + 8 * (tsk b n q.1 : Int))) := rfl
    rw [nx]
    unfold D196_35
    cases hc : vcl b n k p s with
    | inl x =>
      rw [hc] at h
      obtain ⟨rfl, h⟩ := h
      exact xP_i (fun _ => rV196_66l h) (fun c => absurd c (by decide))
    | inr q =>
      obtain ⟨e, s'⟩ := q
      obtain ⟨ok', en, k40⟩ := vcl_ok ok hp hc
      rw [hc] at h
      obtain ⟨rfl, h⟩ := h
      refine xP_i (fun c => absurd c (by decide)) (fun _ => ?_)
      refine xP_b (rV_see hF h) (fun v m1 q1 => ?_)
      obtain ⟨h1, e1⟩ := q1
      dsimp only at h1 e1 ⊢
      have l1 : tsk b n e ≤ n := tS_le _ en
      refine xP_i (fun c => ?_) (fun c => ?_)
      · have c : v.toInt ≠ 59 := zt c
        rw [if_neg (by omega)]
        unfold D196_66
        refine xP_i (fun c => absurd c (by decide)) (fun _ => ?_)
        refine xP_b (rV_see hF h1) (fun v2 m2 q2 => ?_)
        obtain ⟨h2, e2⟩ := q2
        rw [tsk_id] at h2 e2
        dsimp only
        refine xP_i (fun d => ?_) (fun d => ?_)
        · have d : v2 = -1 := zeq d
          rw [if_pos (by rw [← e2, d]; rfl)]
          unfold D196_88
          have f0 := h2.2.2.2.1
          refine xP_i (fun c => ?_) (fun _ => xP_r ⟨⟨xT_c h2.1.1 (i := 70) (j := 1) rfl (by decide) (by decide), xfr_t h2.1.2 (xfr_u rfl)⟩, rfl, (congrArg Int32.toInt (xu_o (by decide))).trans f0, fun j hj => (congrArg Int32.toInt (xu_o (fun z => absurd z.1 (by decide)))).trans (h2.2.2.2.2.2 j hj)⟩)
          have c : (m2.1 70 9).toInt ≠ 0 := zt c
          exact absurd f0 c
        · have d : v2 ≠ -1 := zneq d
          have d2 : tsg b n (tsk b n e) ≠ -1 := fun z => d (Int32.toInt_inj.mp (e2.trans z))
          rw [if_neg d2]
          refine xP_b (rV_x h2 h2.2.2.1.1 (Nat.le_trans l1 h2.2.1.2.1) (x := 0) rfl (by decide) (by decide)) (fun r m3 q3 => ?_)
          obtain ⟨-, q3⟩ := q3
          rw [show (1 + 8 * (tsk b n e : Int) + 0) = 1 + 8 * (tsk b n e : Int) from Int.add_zero _] at q3
          exact rV196_88l (s' := fun _ => 0) q3
      · have c : v.toInt = 59 := Decidable.not_not.mp (zf c)
        have c2 : tsg b n (tsk b n e) = 59 := e1.symm.trans c
        have lt : tsk b n e < n := by
          unfold tsg at c2
          split at c2
          · assumption
          · omega
        rw [if_pos c2]
        have n4 : n ≤ 400 := h1.2.1.2.1
        have h8 := h1.2.2.1.1
        have e8 : (m1.1 70 8 + 1).toInt = ((tsk b n e + 1 : Nat) : Int) := (xa1 (by show _ ≤ _ + (1 : Int); omega) (by show _ + (1 : Int) ≤ _; omega)).trans (by rw [h8]; rfl)
        have h2 : rV m0 b n (tsk b n e + 1) 0 (k + 1) s' (xu m1 70 8 (m1.1 70 8 + 1)) := rV_of h1 (rT_p (rV_T h1) e8 n4 lt)
        refine xP_b (rV195 hF h2 ok' (by omega)) (fun r2 m2 q2 => ?_)
        obtain ⟨f', rfl⟩ : ∃ f', f = f' + 1 := ⟨f - 1, by omega⟩
        exact ih f' (by omega) (by omega) ok' lt q2
/-- readsAll -/
theorem rV196 (hF : 500 ≤ F) (N : rN m b n) (hX : xT m) (h11 : (m.1 70 11).toInt = 6) (h76 : ∀ j, j < 148 → (m.1 76 j).toInt = 0) : xP (D196 F m) (fun v m' => vrW m (vrun b n 42 0 0 (fun _ => 0)) v m') := by
  have et : (m.1 70 11).toNatClampNeg = 6 := by show (m.1 70 11).toInt.toNat = 6; omega
  unfold D196
  rw [et]
  refine xP_g (xib_t (by omega) (by omega)) ?_
  have b73 : xbn 73 6 = some (0, 400) := xbn_a (k := 0) (n := 7) (ec := 11) (by decide) rfl (by decide) (by decide)
  have hV : rV m b n 0 0 0 (fun _ => 0) (xu (xu (xu (xu (xu m 73 6 0) 70 14 0) 70 8 0) 70 9 0) 70 12 0) := by
    have q70 : ∀ {j : Nat}, j ≠ 14 → j ≠ 8 → j ≠ 9 → j ≠ 12 → (xu (xu (xu (xu (xu m 73 6 0) 70 14 0) 70 8 0) 70 9 0) 70 12 0).1 70 j = m.1 70 j := fun z1 z2 z3 z4 => (xu_o (fun z => z4 z.2)).trans ((xu_o (fun z => z3 z.2)).trans ((xu_o (fun z => z2 z.2)).trans ((xu_o (fun z => z1 z.2)).trans (xu_o (fun z => absurd z.1 (by decide))))))
    have qo : ∀ {i j : Nat}, i ≠ 70 → i ≠ 73 → (xu (xu (xu (xu (xu m 73 6 0) 70 14 0) 70 8 0) 70 9 0) 70 12 0).1 i j = m.1 i j := fun z1 z2 => (xu_o (fun z => z1 z.1)).trans ((xu_o (fun z => z1 z.1)).trans ((xu_o (fun z => z1 z.1)).trans ((xu_o (fun z => z1 z.1)).trans (xu_o (fun z => z2 z.1)))))
    refine ⟨⟨xT_c (xT_c (xT_c (xT_c (xT_c hX b73 (by decide) (by decide)) (i := 70) (j := 14) rfl (by decide) (by decide)) (i := 70) (j := 8) rfl (by decide) (by decide)) (i := 70) (j := 9) rfl (by decide) (by decide)) (i := 70) (j := 12) rfl (by decide) (by decide), xfr_t (xfr_t (xfr_t (xfr_t (xfr_u rfl) (xfr_u rfl)) (xfr_u rfl)) (xfr_u rfl)) (xfr_u rfl)⟩, ⟨by rw [q70 (by decide) (by decide) (by decide) (by decide)]; exact N.1, N.2.1, fun j hj => by rw [qo (by decide) (by decide)]; exact N.2.2 j hj⟩, ⟨?_, Nat.zero_le _⟩, ?_, ⟨by rw [q70 (by decide) (by decide) (by decide) (by decide)]; exact h11, ?_⟩, fun j hj => by rw [qo (by decide) (by decide)]; exact h76 j hj⟩
    · rw [(xu_o (by decide)).trans ((xu_o (by decide)).trans (xu_s _ _ _ _))]
      rfl
    · rw [(xu_o (by decide)).trans (xu_s _ _ _ _)]
      rfl
    · rw [(xu_o (by decide)).trans ((xu_o (by decide)).trans ((xu_o (by decide)).trans (xu_s _ _ _ _)))]
      rfl
  have ok0 : vOk (fun _ => 0) 0 := ⟨fun _ => rfl, fun z => absurd z (by decide), by decide, by decide⟩
  refine xP_b (rV195 hF hV ok0 (by decide)) (fun r m1 q1 => ?_)
  obtain ⟨f', hf⟩ : ∃ f', F = f' + 1 := ⟨F - 1, by omega⟩
  have z := rV196_35 hF 41 f' (by omega) rfl ok0 (Nat.zero_le _) q1
  rw [← hf] at z
  exact z
/-- behind the call: a fault, and said stays; or the village is said -/
def rVQ (m0 : xS) (b : Nat → Int) (n : Nat) (v : Int32) (m : xS) : Prop := (∃ g, vrun b n 42 0 0 (fun _ => 0) = .inl g ∧ g ≠ 0 ∧ v.toInt = -2 - g ∧ (∀ j, m.1 80 j = m0.1 80 j) ∧ m.1 70 25 = m0.1 70 25) ∨ (∃ s, vrun b n 42 0 0 (fun _ => 0) = .inr s ∧ v.toInt = s 2 ∧ (∀ j, j < 148 → (m.1 80 j).toInt = if 118 ≤ j ∧ j < 124 then -1 else s j) ∧ m.1 70 25 = 0)
theorem rV198_72 {s' : Nat → Int} : ∀ (f : Nat) {i : Nat} {v1 : Int32} {m : xS}, v1.toInt = (i : Int) → i ≤ 6 → 6 - i < f → (∀ j, j < 148 → (m.1 80 j).toInt = if 118 ≤ j ∧ j < 118 + i then -1 else s' j) → xP (D198_72 F f v1 m) (fun v m' => v.toInt = s' 2 ∧ (∀ j, j < 148 → (m'.1 80 j).toInt = if 118 ≤ j ∧ j < 124 then -1 else s' j) ∧ m'.1 70 25 = 0) := by
  intro f
  induction f with
  | zero => intro i v1 m _ _ l; omega
  | succ f ih =>
    intro i v1 m hv h6 hf h
    unfold D198_72
    refine xP_i (fun c => xP_r ⟨?_, fun j hj => ?_, xu_s _ _ _ _⟩) (fun c => ?_)
    · have := h 2 (by decide)
      rw [if_neg (by omega)] at this
      exact this
    · have c : (6 : Int) ≤ v1.toInt := zt c
      rw [xu_o (fun z => absurd z.1 (by decide)), h j hj]
      have : i = 6 := by omega
      rw [this]
    · have c : ¬ (6 : Int) ≤ v1.toInt := zf c
      have e1 : ((118 : Int32) + v1).toInt = ((118 + i : Nat) : Int) := ixp (c := 118) rfl hv (by omega)
      refine xP_g (xib_t (by omega) (by omega)) (ih (i := i + 1) (xinc hv (by omega)) (by omega) (by omega) (fun j hj => ?_))
      rw [show ((118 : Int32) + v1).toNatClampNeg = 118 + i by show Int.toNat _ = _; omega]
      by_cases e : j = 118 + i
      · subst e
        rw [xu_s, if_pos (by omega)]
        rfl
      · rw [xu_o (fun z => e z.2), h j hj]
        by_cases d : 118 ≤ j ∧ j < 118 + i
        · rw [if_pos d, if_pos (by omega)]
        · rw [if_neg d, if_neg (by omega)]
theorem rV198_45 {s' : Nat → Int} (hF : 500 ≤ F) : ∀ (f : Nat) {i : Nat} {v1 : Int32} {m : xS}, v1.toInt = (i : Int) → i ≤ 148 → 148 - i < f → (∀ j, j < 148 → (m.1 76 j).toInt = s' j) → (∀ j, j < i → (m.1 80 j).toInt = s' j) → xP (D198_45 F f v1 m) (fun v m' => v.toInt = s' 2 ∧ (∀ j, j < 148 → (m'.1 80 j).toInt = if 118 ≤ j ∧ j < 124 then -1 else s' j) ∧ m'.1 70 25 = 0) := by
  intro f
  induction f with
  | zero => intro i v1 m _ _ l; omega
  | succ f ih =>
    intro i v1 m hv h6 hf h76 h80
    have ei : v1.toNatClampNeg = i := by show v1.toInt.toNat = i; omega
    unfold D198_45
    refine xP_i (fun c => ?_) (fun c => ?_)
    · have c : (148 : Int) ≤ v1.toInt := zt c
      exact rV198_72 F (i := 0) rfl (by omega) (by omega) (fun j hj => by rw [if_neg (by omega)]; exact h80 j (by omega))
    · have c : ¬ (148 : Int) ≤ v1.toInt := zf c
      rw [ei]
      refine xP_g (xib_t (by omega) (by omega)) (xP_g (xib_t (by omega) (by omega)) (ih (i := i + 1) (xinc hv (by omega)) (by omega) (by omega) (fun j hj => (congrArg Int32.toInt (xu_o (fun z => absurd z.1 (by decide)))).trans (h76 j hj)) (fun j hj => ?_)))
      by_cases e : j = i
      · subst e
        rw [xu_s]
        exact h76 j (by omega)
      · rw [xu_o (fun z => e z.2)]
        exact h80 j (by omega)
theorem rV198_8 (hF : 500 ≤ F) : ∀ (f : Nat) {i : Nat} {v1 : Int32} {m : xS}, v1.toInt = (i : Int) → i ≤ 148 → 148 - i < f → xT m → rN m b n → (m.1 70 11).toInt = 6 → (∀ j, j < i → (m.1 76 j).toInt = 0) → xP (D198_8 F f v1 m) (rVQ m b n) := by
  intro f
  induction f with
  | zero => intro i v1 m _ _ l; omega
  | succ f ih =>
    intro i v1 m hv h6 hf hX N h11 h76
    have ei : v1.toNatClampNeg = i := by show v1.toInt.toNat = i; omega
    unfold D198_8
    refine xP_i (fun c => ?_) (fun c => ?_)
    · have c : (148 : Int) ≤ v1.toInt := zt c
      refine xP_b (rV196 hF N hX h11 (fun j hj => h76 j (by omega))) (fun v m1 q => ?_)
      obtain ⟨⟨q1, q2⟩, q3⟩ := q
      dsimp only
      cases hr : vrun b n 42 0 0 (fun _ => 0) with
      | inl g =>
        rw [hr] at q3
        obtain ⟨rfl, g0, g9⟩ := q3
        refine xP_i (fun c => absurd c (by decide)) (fun _ => xP_r (Or.inl ⟨g, hr, g0, ?_, fun j => q2.2 80 j (by unfold yinM; rfl), q2.2 70 25 rfl⟩))
        have b9 : 0 ≤ (m1.1 70 9).toInt ∧ (m1.1 70 9).toInt ≤ 4000 := q1 70 9 (0, 4000) rfl
        exact (xs1 (by show _ ≤ (-2 : Int) - _; omega) (by show (-2 : Int) - _ ≤ _; omega)).trans (by rw [g9]; rfl)
      | inr s' =>
        rw [hr] at q3
        obtain ⟨rfl, -, g76⟩ := q3
        refine xP_i (fun _ => ?_) (fun c => absurd c (by decide))
        exact xP_m (rV198_45 hF F (i := 0) rfl (by omega) (by omega) g76 (fun j hj => absurd hj (Nat.not_lt_zero _))) (fun v m' q => Or.inr ⟨s', hr, q⟩)
    · have c : ¬ (148 : Int) ≤ v1.toInt := zf c
      rw [ei]
      refine xP_g (xib_t (by omega) (by omega)) ?_
      have o : ∀ j, (xu m 76 i 0).1 70 j = m.1 70 j := fun j => xu_o (fun z => absurd z.1 (by decide))
      refine xP_m (ih (i := i + 1) (m := xu m 76 i 0) (xinc hv (by omega)) (by omega) (by omega) (xT_u hX (fun q hq => b76 (l := 0) (u := 5) (Or.inl ⟨by decide, by decide⟩) ⟨by decide, by decide⟩ q hq)) ⟨by rw [o]; exact N.1, N.2.1, fun j hj => by rw [xu_o (fun z => absurd z.1 (by decide))]; exact N.2.2 j hj⟩ (by rw [o]; exact h11) (fun j hj => ?_)) (fun v m' q => ?_)
      · by_cases e : j = i
        · subst e
          rw [xu_s]
          rfl
        · rw [xu_o (fun z => e z.2)]
          exact h76 j (by omega)
      · rcases q with ⟨g, g1, g2, g3, g4, g5⟩ | q
        · exact Or.inl ⟨g, g1, g2, g3, fun j => (g4 j).trans (xu_o (fun z => absurd z.1 (by decide))), g5.trans (o _)⟩
        · exact Or.inr q
/-- village -/
theorem rV198 (hF : 500 ≤ F) (N : rN m b n) (hX : xT m) : xP (D198 F m) (rVQ m b n) := by
  unfold D198
  refine xP_m (rV198_8 hF F (i := 0) (m := xu m 70 11 6) (b := b) (n := n) rfl (by omega) (by omega) (xT_c hX (i := 70) (j := 11) rfl (by decide) (by decide)) ⟨(congrArg Int32.toInt (xu_o (by decide))).trans N.1, N.2.1, fun j hj => by rw [xu_o (fun z => absurd z.1 (by decide))]; exact N.2.2 j hj⟩ (by rw [xu_s]; rfl) (fun j hj => absurd hj (Nat.not_lt_zero _))) (fun v m' q => ?_)
  rcases q with ⟨g, g1, g2, g3, g4, g5⟩ | q
  · exact Or.inl ⟨g, g1, g2, g3, fun j => (g4 j).trans (xu_o (fun z => absurd z.1 (by decide))), g5.trans (xu_o (by decide))⟩
  · exact Or.inr q
end VRF
end
section
/-! A village in the class's cells (c) and in the reference's (s). -/
def cup (c : Nat → Int32) (k : Nat) (v : Int32) : Nat → Int32 := fun j => if j = k then v else c j
theorem cup_s (c : Nat → Int32) (k : Nat) (v : Int32) : cup c k v k = v := if_pos rfl
theorem cup_o {c : Nat → Int32} {k j : Nat} {v : Int32} (h : j ≠ k) : cup c k v j = c j := if_neg h
theorem xu_cup (m : xS) (i k : Nat) (v : Int32) : (xu m i k v).1 i = cup (m.1 i) k v := by
  funext j
  unfold xu cup
  dsimp only
  by_cases h : j = k
  · rw [if_pos h, if_pos ⟨rfl, h⟩]
  · rw [if_neg h, if_neg (fun z => h z.2)]
def tbt (x : Int32) (d : Nat) : Bool := x.toBitVec.getLsbD d
def vR (s : Nat → Int) (c : Nat → Int32) : Prop :=
  (∀ j, j < 6 → (c j).toInt = s j) ∧
  (∀ t w, t < 6 → w < 6 → (c (6 + 6 * w + t)).toInt = s (10 + 6 * t + w)) ∧
  (∀ w k, w < 6 → k < 4 → (c (42 + 6 * k + w)).toInt = s (124 + 4 * w + k)) ∧
  (∀ w : Nat, w < 6 → (w : Int) < s 3 → (c (66 + w)).toInt = s (118 + w)) ∧
  (∀ a d, a < 6 → d < 6 → s (46 + 6 * a + d) = if tbt (c (72 + a)) d = true then 1 else 0) ∧
  (∀ a d, a < 6 → d < 6 → (c (78 + 6 * a + d)).toInt = s (82 + 6 * a + d))
section VRL
variable {s : Nat → Int} {c : Nat → Int32} {v : Int32} {x : Int}
theorem vR_sc (h : vR s c) {j : Nat} (hj : j < 6) (h3 : j ≠ 3) (e : v.toInt = x) : vR (vup s j x) (cup c j v) := by
  obtain ⟨h1, h2, h4, h5, h6, h7⟩ := h
  refine ⟨fun i hi => ?_, fun t w ht hw => ?_, fun w k hw hk => ?_, fun w hw l => ?_, fun a d ha hd => ?_, fun a d ha hd => ?_⟩
  · by_cases z : i = j
    · subst z
      rw [cup_s, vup_s]
      exact e
    · rw [cup_o z, vup_o z]
      exact h1 i hi
  · rw [cup_o (by omega), vup_o (by omega)]
    exact h2 t w ht hw
  · rw [cup_o (by omega), vup_o (by omega)]
    exact h4 w k hw hk
  · rw [vup_o (by omega)] at l
    rw [cup_o (by omega), vup_o (by omega)]
    exact h5 w hw l
  · rw [cup_o (by omega), vup_o (by omega)]
    exact h6 a d ha hd
  · rw [cup_o (by omega), vup_o (by omega)]
    exact h7 a d ha hd
theorem vR_tool (h : vR s c) {t0 w0 : Nat} (ht0 : t0 < 6) (hw0 : w0 < 6) (e : v.toInt = x) : vR (vup s (10 + 6 * t0 + w0) x) (cup c (6 + 6 * w0 + t0) v) := by
  obtain ⟨h1, h2, h4, h5, h6, h7⟩ := h
  refine ⟨fun i hi => ?_, fun t w ht hw => ?_, fun w k hw hk => ?_, fun w hw l => ?_, fun a d ha hd => ?_, fun a d ha hd => ?_⟩
  · rw [cup_o (by omega), vup_o (by omega)]
    exact h1 i hi
  · by_cases z : t = t0 ∧ w = w0
    · obtain ⟨rfl, rfl⟩ := z
      rw [cup_s, vup_s]
      exact e
    · rw [cup_o (by omega), vup_o (by omega)]
      exact h2 t w ht hw
  · rw [cup_o (by omega), vup_o (by omega)]
    exact h4 w k hw hk
  · rw [vup_o (by omega)] at l
    rw [cup_o (by omega), vup_o (by omega)]
    exact h5 w hw l
  · rw [cup_o (by omega), vup_o (by omega)]
    exact h6 a d ha hd
  · rw [cup_o (by omega), vup_o (by omega)]
    exact h7 a d ha hd
theorem vR_work (h : vR s c) {w0 k0 : Nat} (hw0 : w0 < 6) (hk0 : k0 < 4) (e : v.toInt = x) : vR (vup s (124 + 4 * w0 + k0) x) (cup c (42 + 6 * k0 + w0) v) := by
  obtain ⟨h1, h2, h4, h5, h6, h7⟩ := h
  refine ⟨fun i hi => ?_, fun t w ht hw => ?_, fun w k hw hk => ?_, fun w hw l => ?_, fun a d ha hd => ?_, fun a d ha hd => ?_⟩
  · rw [cup_o (by omega), vup_o (by omega)]
    exact h1 i hi
  · rw [cup_o (by omega), vup_o (by omega)]
    exact h2 t w ht hw
  · by_cases z : w = w0 ∧ k = k0
    · obtain ⟨rfl, rfl⟩ := z
      rw [cup_s, vup_s]
      exact e
    · rw [cup_o (by omega), vup_o (by omega)]
      exact h4 w k hw hk
  · rw [vup_o (by omega)] at l
    rw [cup_o (by omega), vup_o (by omega)]
    exact h5 w hw l
  · rw [cup_o (by omega), vup_o (by omega)]
    exact h6 a d ha hd
  · rw [cup_o (by omega), vup_o (by omega)]
    exact h7 a d ha hd
theorem vR_done (h : vR s c) {w0 : Nat} (hw0 : w0 < 6) (e : v.toInt = x) : vR (vup s (118 + w0) x) (cup c (66 + w0) v) := by
  obtain ⟨h1, h2, h4, h5, h6, h7⟩ := h
  refine ⟨fun i hi => ?_, fun t w ht hw => ?_, fun w k hw hk => ?_, fun w hw l => ?_, fun a d ha hd => ?_, fun a d ha hd => ?_⟩
  · rw [cup_o (by omega), vup_o (by omega)]
    exact h1 i hi
  · rw [cup_o (by omega), vup_o (by omega)]
    exact h2 t w ht hw
  · rw [cup_o (by omega), vup_o (by omega)]
    exact h4 w k hw hk
  · rw [vup_o (by omega)] at l
    by_cases z : w = w0
    · subst z
      rw [cup_s, vup_s]
      exact e
    · rw [cup_o (by omega), vup_o (by omega)]
      exact h5 w hw l
  · rw [cup_o (by omega), vup_o (by omega)]
    exact h6 a d ha hd
  · rw [cup_o (by omega), vup_o (by omega)]
    exact h7 a d ha hd
theorem vR_thx (h : vR s c) {a0 d0 : Nat} (ha0 : a0 < 6) (hd0 : d0 < 6) (e : v.toInt = x) : vR (vup s (82 + 6 * a0 + d0) x) (cup c (78 + 6 * a0 + d0) v) := by
  obtain ⟨h1, h2, h4, h5, h6, h7⟩ := h
  refine ⟨fun i hi => ?_, fun t w ht hw => ?_, fun w k hw hk => ?_, fun w hw l => ?_, fun a d ha hd => ?_, fun a d ha hd => ?_⟩
  · rw [cup_o (by omega), vup_o (by omega)]
    exact h1 i hi
  · rw [cup_o (by omega), vup_o (by omega)]
    exact h2 t w ht hw
  · rw [cup_o (by omega), vup_o (by omega)]
    exact h4 w k hw hk
  · rw [vup_o (by omega)] at l
    rw [cup_o (by omega), vup_o (by omega)]
    exact h5 w hw l
  · rw [cup_o (by omega), vup_o (by omega)]
    exact h6 a d ha hd
  · by_cases z : a = a0 ∧ d = d0
    · obtain ⟨rfl, rfl⟩ := z
      rw [cup_s, vup_s]
      exact e
    · rw [cup_o (by omega), vup_o (by omega)]
      exact h7 a d ha hd
/-- a house's trust -/
theorem vR_tru (h : vR s c) {a0 d0 : Nat} {y : Bool} (ha0 : a0 < 6) (hd0 : d0 < 6) (e0 : tbt v d0 = y) (e1 : ∀ d, d < 6 → d ≠ d0 → tbt v d = tbt (c (72 + a0)) d) : vR (vup s (46 + 6 * a0 + d0) (if y = true then 1 else 0)) (cup c (72 + a0) v) := by
  obtain ⟨h1, h2, h4, h5, h6, h7⟩ := h
  refine ⟨fun i hi => ?_, fun t w ht hw => ?_, fun w k hw hk => ?_, fun w hw l => ?_, fun a d ha hd => ?_, fun a d ha hd => ?_⟩
  · rw [cup_o (by omega), vup_o (by omega)]
    exact h1 i hi
  · rw [cup_o (by omega), vup_o (by omega)]
    exact h2 t w ht hw
  · rw [cup_o (by omega), vup_o (by omega)]
    exact h4 w k hw hk
  · rw [vup_o (by omega)] at l
    rw [cup_o (by omega), vup_o (by omega)]
    exact h5 w hw l
  · by_cases za : a = a0
    · subst za
      rw [cup_s]
      by_cases zd : d = d0
      · subst zd
        rw [vup_s, e0]
      · rw [vup_o (by omega), e1 d hd zd]
        exact h6 a d ha hd
    · rw [cup_o (by omega), vup_o (by omega)]
      exact h6 a d ha hd
  · rw [cup_o (by omega), vup_o (by omega)]
    exact h7 a d ha hd
/-- one work more -/
theorem vR_nw (h : vR s c) {w0 : Nat} (e0 : s 3 = (w0 : Int)) (e1 : (c (66 + w0)).toInt = s (118 + w0)) (e : v.toInt = (w0 : Int) + 1) : vR (vup s 3 ((w0 : Int) + 1)) (cup c 3 v) := by
  obtain ⟨h1, h2, h4, h5, h6, h7⟩ := h
  refine ⟨fun i hi => ?_, fun t w ht hw => ?_, fun w k hw hk => ?_, fun w hw l => ?_, fun a d ha hd => ?_, fun a d ha hd => ?_⟩
  · by_cases z : i = 3
    · subst z
      rw [cup_s, vup_s]
      exact e
    · rw [cup_o z, vup_o z]
      exact h1 i hi
  · rw [cup_o (by omega), vup_o (by omega)]
    exact h2 t w ht hw
  · rw [cup_o (by omega), vup_o (by omega)]
    exact h4 w k hw hk
  · rw [vup_s] at l
    rw [cup_o (by omega), vup_o (by omega)]
    by_cases z : w = w0
    · subst z
      exact e1
    · exact h5 w hw (by omega)
  · rw [cup_o (by omega), vup_o (by omega)]
    exact h6 a d ha hd
  · rw [cup_o (by omega), vup_o (by omega)]
    exact h7 a d ha hd
theorem vup_id (s : Nat → Int) (k : Nat) (h : s k = x) : vup s k x = s := by
  funext j
  unfold vup
  split
  · next z => rw [z, h]
  · rfl
/-- said, as reading leaves it: no work is done -/
def vdn (s : Nat → Int) (j : Nat) : Int := if 118 ≤ j ∧ j < 124 then -1 else s j
theorem vdn_up {k : Nat} (h : ¬ (118 ≤ k ∧ k < 124)) : vdn (vup s k x) = vup (vdn s) k x := by
  funext j
  unfold vdn vup
  by_cases z : j = k
  · subst z
    rw [if_neg h, if_pos rfl, if_pos rfl]
  · rw [if_neg z, if_neg z]
theorem vdn_o {j : Nat} (h : ¬ (118 ≤ j ∧ j < 124)) : vdn s j = s j := if_neg h
/-- bits -/
theorem tb_or {x y : Int32} {d : Nat} : tbt (x ||| y) d = (tbt x d || tbt y d) := by
  unfold tbt
  rw [Int32.toBitVec_or, BitVec.getLsbD_or]
theorem tb_one {a d : Nat} (ha : a < 6) (hd : d < 6) : tbt ((1 : Int32) <<< (Int32.ofNat a &&& 31)) d = decide (d = a) := by
  have key : (List.range 6).all (fun a => (List.range 6).all (fun d => tbt ((1 : Int32) <<< (Int32.ofNat a &&& 31)) d == decide (d = a))) = true := by decide +kernel
  have k1 := List.all_eq_true.mp (List.all_eq_true.mp key a (List.mem_range.mpr ha)) d (List.mem_range.mpr hd)
  simpa using k1
theorem i32n {x : Int32} {a : Nat} (h : x.toInt = (a : Int)) : x = Int32.ofNat a := by
  apply Int32.toInt_inj.mp
  have := y32 x
  rw [xI (by omega), h]
end VRL
end
section
/-! The class reads a village. -/
/-- what reading a village writes -/
abbrev cM : yM := [(2, 2, 2), (2, 2, 3), (2, 2, 4), (6, 6, 1), (6, 6, 3), (6, 6, 4), (6, 6, 5), (6, 6, 6), (6, 6, 7), (6, 6, 8), (6, 6, 9), (7, 7, 1000), (8, 8, 1000), (5, 5, 1000), (12, 12, 1000)]
def tC (m0 : xS) (b : Nat → Int) (n p bg : Nat) (ft : Int) (m : xS) : Prop := kN m b n ∧ (xT m ∧ xfr cM m0 m) ∧ ((m.1 2 2).toInt = (p : Int) ∧ p ≤ n) ∧ (m.1 2 3).toInt = (bg : Int) ∧ (m.1 2 4).toInt = ft
/-- bounds of a village's cells -/
def b12 (c : Nat) (l u : Int) : Prop := (0 ≤ l ∧ u ≤ 5) ∨ ((c = 0 ∨ c = 2 ∨ c = 3) ∧ 0 ≤ l ∧ u ≤ 6) ∨ ((72 ≤ c ∧ c < 78) ∧ 0 ≤ l ∧ u ≤ 63) ∨ ((c ≠ 0 ∧ c ≠ 2 ∧ c ≠ 3 ∧ ¬ ((6 ≤ c ∧ c < 12) ∨ (24 ≤ c ∧ c < 30) ∨ (42 ≤ c ∧ c < 48)) ∧ ¬ (72 ≤ c ∧ c < 78)) ∧ -2147483648 ≤ l ∧ u ≤ 2147483647)
/-- tools that are not told hold nothing -/
def vz (s : Nat → Int) : Prop := ∀ j, 10 + 6 * (s 2).toNat ≤ j → j < 46 → s j = 0
section VCL
variable {m0 : xS} {b : Nat → Int} {n p bg k : Nat} {ft : Int} {s : Nat → Int} {m : xS} {F : Nat}
theorem b12_ok {r c : Nat} {l u x : Int} (hr : yty r = (1, 0, 114, 1, [])) (r88 : r < 88) (h : b12 c l u) (hx : l ≤ x ∧ x ≤ u) : ∀ q, xbn r c = some q → q.1 ≤ x ∧ x ≤ q.2 := by
  intro q hq
  have e : xbn r c = if ((0 : Nat) < 3 ∧ c < 114) then some (yel 1 c) else none := by
    unfold xbn
    rw [if_pos r88, hr]
    rfl
  rw [e] at hq
  split at hq
  · next hc =>
    have hq := Option.some.inj hq
    subst hq
    have e2 : yel 1 c = if c = 0 ∨ c = 2 ∨ c = 3 then (0, 6) else if (6 ≤ c ∧ c < 12) ∨ (24 ≤ c ∧ c < 30) ∨ (42 ≤ c ∧ c < 48) then (0, 5) else if 72 ≤ c ∧ c < 78 then (0, 63) else (-2147483648, 2147483647) := rfl
    rw [e2]
    unfold b12 at h
    split
    · show (0 : Int) ≤ x ∧ x ≤ 6
      omega
    · split
      · show (0 : Int) ≤ x ∧ x ≤ 5
        omega
      · split
        · show (0 : Int) ≤ x ∧ x ≤ 63
          omega
        · show (-2147483648 : Int) ≤ x ∧ x ≤ 2147483647
          omega
  · cases hq
theorem tC_k (h : tC m0 b n p bg ft m) : ∃ (out wait : List Int) (cl k dp br ex wh : Int), kC m n p bg ft out wait cl k dp br ex wh m := by
  obtain ⟨h1, h2, h3, h4, h5⟩ := h
  have b1 : 0 ≤ (m.1 6 1).toInt ∧ (m.1 6 1).toInt ≤ 400 := h2.1 6 1 (0, 400) rfl
  have b3 : 0 ≤ (m.1 6 3).toInt ∧ (m.1 6 3).toInt ≤ 400 := h2.1 6 3 (0, 400) rfl
  refine ⟨tk (m.1 7) (m.1 6 1).toInt.toNat, tk (m.1 8) (m.1 6 3).toInt.toNat, _, _, _, _, _, _, h2.1, xfr_r _ _, h3, h4, h5, ⟨?_, ?_⟩, ⟨?_, ?_⟩, rfl, rfl, rfl, rfl, rfl, rfl⟩
  · rw [tk_len]; omega
  · rw [tk_len]
  · rw [tk_len]; omega
  · rw [tk_len]
theorem tC_of {p' bg' : Nat} {ft' : Int} {out wait : List Int} {cl k dp br ex wh : Int} {m' : xS} (h : tC m0 b n p bg ft m) (q : kC m n p' bg' ft' out wait cl k dp br ex wh m') : tC m0 b n p' bg' ft' m' ∧ xfr kM m m' := by
  have kk := kC_n h.1 q
  exact ⟨⟨⟨kk.1, h.1.2.1, kk.2⟩, ⟨q.1, xfr_t h.2.1.2 (xfr_l (by decide) q.2.1)⟩, q.2.2.1, q.2.2.2.1, q.2.2.2.2.1⟩, q.2.1⟩
theorem kM12 {m' : xS} (f : xfr kM m m') : m'.1 12 = m.1 12 := funext fun j => f.2 12 j (by unfold yinM; rfl)
theorem kM5 {m' : xS} (f : xfr kM m m') : m'.1 5 = m.1 5 := funext fun j => f.2 5 j (by unfold yinM; rfl)
theorem tC_5 (h : tC m0 b n p bg ft m) (i : Nat) (v : Int32) : tC m0 b n p bg ft (xu m 5 i v) := by
  obtain ⟨h1, h2, h3, h4, h5⟩ := h
  have o : ∀ a j, a ≠ 5 → (xu m 5 i v).1 a j = m.1 a j := fun a j z => xu_o (fun y => z y.1)
  refine ⟨⟨by rw [o _ _ (by decide)]; exact h1.1, h1.2.1, fun j hj => by rw [o _ _ (by decide)]; exact h1.2.2 j hj⟩, ⟨xT_u h2.1 (fun q hq => ?_), xfr_t h2.2 (xfr_u (by unfold yinM; rfl))⟩, by rw [o _ _ (by decide)]; exact h3, by rw [o _ _ (by decide)]; exact h4, by rw [o _ _ (by decide)]; exact h5⟩
  have e : xbn 5 i = if ((0 : Nat) < 3 ∧ i < 4) then some (yel 0 i) else none := rfl
  rw [e] at hq
  split at hq
  · have hq := Option.some.inj hq
    subst hq
    have := y32 v
    show (-2147483648 : Int) ≤ v.toInt ∧ v.toInt ≤ 2147483647
    omega
  · cases hq
theorem tC_12 (h : tC m0 b n p bg ft m) {c : Nat} {v : Int32} {l u : Int} (hb : b12 c l u) (hx : l ≤ v.toInt ∧ v.toInt ≤ u) : tC m0 b n p bg ft (xu m 12 c v) := by
  obtain ⟨h1, h2, h3, h4, h5⟩ := h
  have o : ∀ a j, a ≠ 12 → (xu m 12 c v).1 a j = m.1 a j := fun a j z => xu_o (fun y => z y.1)
  exact ⟨⟨by rw [o _ _ (by decide)]; exact h1.1, h1.2.1, fun j hj => by rw [o _ _ (by decide)]; exact h1.2.2 j hj⟩, ⟨xT_u h2.1 (b12_ok rfl (by decide) hb hx), xfr_t h2.2 (xfr_u (by unfold yinM; rfl))⟩, by rw [o _ _ (by decide)]; exact h3, by rw [o _ _ (by decide)]; exact h4, by rw [o _ _ (by decide)]; exact h5⟩
/-- a number -/
theorem cNum {lo hi : Int32} {l u : Int} (hF : 500 ≤ F) (el : lo.toInt = l) (eu : hi.toInt = u) (h : tC m0 b n p bg 0 m) : xP (D58_2 F lo hi m) (fun r m' => xfr kM m m' ∧ ((∃ g, vnu b n p l u = .inl g ∧ g ≠ 0 ∧ ∃ p', tC m0 b n p' (tsk b n p) g m') ∨ (∃ (v : Int) (e : Nat), vnu b n p l u = .inr (v, e) ∧ r.toInt = v ∧ tC m0 b n e (tsk b n p) 0 m'))) := by
  subst el
  subst eu
  obtain ⟨out, wait, cl, k, dp, br, ex, wh, hk⟩ := tC_k h
  refine xP_m (P58 hF h.1 hk) (fun r m' q => ?_)
  obtain ⟨q1, q2⟩ := q
  obtain ⟨z1, z2⟩ := tC_of h q2
  refine ⟨z2, ?_⟩
  by_cases c1 : tsk b n p < n ∧ tdg (b (tsk b n p)) = true
  · have lt : tsk b n p < tde b n p := tS_lt c1.1 c1.2
    by_cases c2 : 5 < tde b n p - tsk b n p ∨ r.toInt < lo.toInt ∨ hi.toInt < r.toInt
    · have tn : tnf lo.toInt hi.toInt (tsk b n p) (tde b n p) r.toInt 0 = 1 + 8 * (tsk b n p : Int) + 1 := by
        unfold tnf trf
        rw [if_neg (by omega), if_pos c2, if_pos rfl]
      rw [tn] at z1
      refine Or.inl ⟨_, ?_, by omega, _, z1⟩
      unfold vnu
      rw [if_neg (fun z => z c1), if_pos (by rw [← q1]; exact c2)]
    · have tn : tnf lo.toInt hi.toInt (tsk b n p) (tde b n p) r.toInt 0 = 0 := by
        unfold tnf
        rw [if_neg (by omega), if_neg c2]
      rw [tn] at z1
      refine Or.inr ⟨_, _, ?_, rfl, z1⟩
      unfold vnu
      rw [if_neg (fun z => z c1), if_neg (by rw [← q1]; exact c2), ← q1]
  · have tn : tnf lo.toInt hi.toInt (tsk b n p) (tde b n p) r.toInt 0 = 1 + 8 * (tsk b n p : Int) := by
      unfold tnf trf
      rw [if_pos (tS_f c1), if_pos rfl]
      omega
    rw [tn] at z1
    refine Or.inl ⟨_, ?_, by omega, _, z1⟩
    unfold vnu
    rw [if_pos c1]
theorem cWord (hF : 500 ≤ F) (h : tC m0 b n p bg 0 m) : xP (D60_2_1001 F m) (fun r m' => xfr kM m m' ∧ ((∃ u, tix (twd b n p) tCls = some u ∧ r.toInt = (u : Int) ∧ tC m0 b n (tS tlt b n (tsk b n p)) (tsk b n p) 0 m') ∨ (tix (twd b n p) tCls = none ∧ r.toInt = -1 ∧ tC m0 b n (tsk b n p) (tsk b n p) (1 + 8 * (tsk b n p : Int)) m'))) := by
  obtain ⟨out, wait, cl, k, dp, br, ex, wh, hk⟩ := tC_k h
  refine xP_m (P60_1001 hF h.1 hk) (fun r m' q => ?_)
  rcases q with ⟨u, q1, q2, q3⟩ | ⟨q1, q2, q3⟩
  · obtain ⟨z1, z2⟩ := tC_of h q3
    exact ⟨z2, Or.inl ⟨u, q1, q2, z1⟩⟩
  · obtain ⟨z1, z2⟩ := tC_of h q3
    have tn : trf 0 (1 + 8 * (tS tbl b n p : Int)) = 1 + 8 * (tsk b n p : Int) := if_pos rfl
    rw [tn] at z1
    exact ⟨z2, Or.inr ⟨q1, q2, z1⟩⟩
theorem cRef {a c : Int32} {q : Nat} {x : Int} (h : tC m0 b n p bg 0 m) (ha : a.toInt = (q : Int)) (q4 : q ≤ 400) (hc : c.toInt = x) (c1 : 0 ≤ x) (c2 : x ≤ 4) : xP (D52_2 F a c m) (fun _ m' => xfr kM m m' ∧ tC m0 b n p bg (1 + 8 * (q : Int) + x) m') := by
  obtain ⟨out, wait, cl, k, dp, br, ex, wh, hk⟩ := tC_k h
  refine xP_m (P52 hk (by omega) (by omega) (by omega) (by omega)) (fun r m' q => ?_)
  obtain ⟨z1, z2⟩ := tC_of h q
  rw [show trf 0 (1 + 8 * a.toInt + c.toInt) = 1 + 8 * a.toInt + c.toInt from if_pos rfl, ha, hc] at z1
  exact ⟨z2, z1⟩
theorem cSnd (h : tC m0 b n p bg ft m) : xP (D51_2 F m) (fun r m' => m' = m ∧ ((r = 1 ∧ ft = 0) ∨ (r = 0 ∧ ft ≠ 0))) := by
  have h5 := h.2.2.2.2
  unfold D51_2
  refine xP_i (fun c => xP_r ⟨rfl, Or.inr ⟨rfl, ?_⟩⟩) (fun c => xP_r ⟨rfl, Or.inl ⟨rfl, ?_⟩⟩)
  · have c : (m.1 2 4).toInt ≠ 0 := zt c
    omega
  · have c : (m.1 2 4).toInt = 0 := Decidable.not_not.mp (zf c)
    omega
/-- readNumbers: an unsound text ends it -/
theorem cN_stop {f : Nat} {v2 v3 v4 v5 : Int32} {Q : Unit → xS → Prop} (a1 : xib (v3 + 1) 6 = true) (h : tC m0 b n p bg ft m) (g0 : ft ≠ 0) (hQ : Q () m) : xP (D119_4_2_10 F (f + 1) v2 v3 v4 v5 m) Q := by
  unfold D119_4_2_10
  refine xP_g a1 (xP_i (fun _ => xP_r hQ) (fun _ => ?_))
  refine xP_b (cSnd h) (fun r m1 q => ?_)
  obtain ⟨rfl, q⟩ := q
  rcases q with ⟨-, q⟩ | ⟨rfl, q⟩
  · exact absurd q g0
  · dsimp only
    exact xP_i (fun _ => xP_r hQ) (fun c => absurd c (by decide))
theorem cN_exit {f : Nat} {v2 v3 v4 v5 : Int32} {Q : Unit → xS → Prop} (a1 : xib (v3 + 1) 6 = true) (a2 : zcmp .ge (v4 + v5) (zsv 30 ((v3 + 1) : Int32).toNatClampNeg) = true) (hQ : Q () m) : xP (D119_4_2_10 F (f + 1) v2 v3 v4 v5 m) Q := by
  unfold D119_4_2_10
  exact xP_g a1 (xP_i (fun _ => xP_r hQ) (fun c => absurd a2 (by rw [c]; decide)))
theorem cN10 {f : Nat} {v2 v3 v4 v5 : Int32} {Q : Unit → xS → Prop} {i : Nat} {isH : Bool} {l u : Int} (hF : 500 ≤ F) (a1 : xib (v3 + 1) 6 = true) (a2 : zcmp .ge (v4 + v5) (zsv 30 ((v3 + 1) : Int32).toNatClampNeg) = false) (a3 : xib (v4 + v5) 14 = true) (a4 : zcmp .ne (zsv 32 ((v4 + v5) : Int32).toNatClampNeg) (-1) = !isH) (a5 : (zsv 31 ((v4 + v5) : Int32).toNatClampNeg).toInt = l) (a6 : (if isH = true then (v2 - 1).toInt else (zsv 32 ((v4 + v5) : Int32).toNatClampNeg).toInt) = u) (a7 : v5.toInt = (i : Int)) (a8 : i < 4) (h : tC m0 b n p bg 0 m)
    (K1 : ∀ g m', vnu b n p l u = .inl g → g ≠ 0 → (∃ p' bg', tC m0 b n p' bg' g m') → m'.1 12 = m.1 12 → Q () m')
    (K2 : ∀ (v : Int) (e : Nat) (r : Int32) (m' : xS), vnu b n p l u = .inr (v, e) → r.toInt = v → tC m0 b n e (tsk b n p) 0 m' → m'.1 12 = m.1 12 → (∀ j, m'.1 5 j = if j = i then r else m.1 5 j) → ((isH = true ∧ i = 1 ∧ m'.1 5 0 = m'.1 5 1) → ∀ m'', tC m0 b n e (tsk b n p) (1 + 8 * (tsk b n p : Int) + 1) m'' → m''.1 12 = m.1 12 → Q () m'') ∧ (¬ (isH = true ∧ i = 1 ∧ m'.1 5 0 = m'.1 5 1) → xP (D119_4_2_10 F (f + 1) v2 v3 v4 (v5 + Int32.ofInt 1) m') Q)) : xP (D119_4_2_10 F (f + 2) v2 v3 v4 v5 m) Q := by
  have ei : v5.toNatClampNeg = i := by show v5.toInt.toNat = i; omega
  have body : ∀ (v6 w0 : Int32), ((v6 = 0 ∧ isH = false) ∨ (v6 = 1 ∧ isH = true)) → w0.toInt = u → xP (D119_4_2_72 F (D119_4_2_10 F (f + 1)) v2 v3 v4 v5 v6 w0 m) Q := by
    intro v6 w0 hv hw
    unfold D119_4_2_72
    refine xP_g a3 ?_
    refine xP_b (cNum hF a5 hw h) (fun r m1 q => ?_)
    obtain ⟨f1, q⟩ := q
    dsimp only
    refine xP_g (xib_t (by omega) (by omega)) ?_
    rw [ei]
    have r12 : ∀ {v : Int32}, (xu m1 5 i v).1 12 = m.1 12 := fun {v} => (funext fun j => xu_o (fun y => absurd y.1 (by decide))).trans (kM12 f1)
    have r5 : ∀ j, (xu m1 5 i r).1 5 j = if j = i then r else m.1 5 j := fun j => by
      by_cases z : j = i
      · rw [z, xu_s, if_pos rfl]
      · rw [xu_o (fun y => z y.2), if_neg z, kM5 f1]
    rcases q with ⟨g, e1, g0, p', t1⟩ | ⟨v, e, e1, er, t1⟩
    · have t2 := tC_5 t1 i r
      have stop : xP (D119_4_2_131 F (D119_4_2_10 F (f + 1)) v2 v3 v4 v5 v6 w0 (xu m1 5 i r)) Q := by
        unfold D119_4_2_131
        exact cN_stop a1 t2 g0 (K1 g _ e1 g0 ⟨_, _, t2⟩ r12)
      refine xP_i (fun _ => stop) (fun _ => xP_i (fun _ => stop) (fun _ => xP_i (fun _ => stop) (fun _ => ?_)))
      have n4 := t2.1.2.1
      obtain ⟨out, wait, cl, k, dp, br, ex, wh, hk⟩ := tC_k t2
      have bb := t2.2.2.2.1
      have e3 : (xu m1 5 i r).1 2 3 = m1.1 2 3 := xu_o (fun y => absurd y.1 (by decide))
      have gl : tsk b n p ≤ n := tS_le _ h.2.2.1.2
      have b3 : 0 ≤ (m1.1 2 3).toInt ∧ (m1.1 2 3).toInt ≤ 400 := t1.2.1.1 2 3 (0, 400) rfl
      refine xP_b (P52 hk (by omega) (by omega) (by decide) (by decide)) (fun _ m2 q2 => ?_)
      obtain ⟨z1, z2⟩ := tC_of t2 q2
      rw [show trf g (1 + 8 * (m1.1 2 3).toInt + (1 : Int32).toInt) = g from if_neg g0] at z1
      unfold D119_4_2_131
      exact cN_stop a1 z1 g0 (K1 g _ e1 g0 ⟨_, _, z1⟩ ((kM12 z2).trans r12))
    · have t2 := tC_5 t1 i r
      obtain ⟨k1, k2⟩ := K2 v e r _ e1 er t2 r12 r5
      have go : ¬ (isH = true ∧ i = 1 ∧ (xu m1 5 i r).1 5 0 = (xu m1 5 i r).1 5 1) → xP (D119_4_2_131 F (D119_4_2_10 F (f + 1)) v2 v3 v4 v5 v6 w0 (xu m1 5 i r)) Q := fun z => by
        unfold D119_4_2_131
        exact k2 z
      refine xP_i (fun c => go (fun z => ?_)) (fun c => xP_i (fun d => go (fun z => ?_)) (fun d => xP_i (fun e5 => go (fun z => ?_)) (fun e5 => ?_)))
      · rcases hv with ⟨-, hv⟩ | ⟨hv, -⟩
        · rw [z.1] at hv
          cases hv
        · rw [hv] at c
          cases c
      · have d : v5 ≠ 1 := znet d
        exact d (Int32.toInt_inj.mp (by rw [a7, z.2.1]; rfl))
      · have e5 : (xu m1 5 i r).1 5 0 ≠ (xu m1 5 i r).1 5 1 := znet e5
        exact e5 z.2.2
      · have d : v5 = 1 := zne d
        have i1 : i = 1 := by
          rw [d] at a7
          have : (1 : Int) = (i : Int) := a7
          omega
        have h1 : isH = true := by
          rcases hv with ⟨hv, -⟩ | ⟨-, hv⟩
          · rw [hv] at c
            exact absurd c (by decide)
          · exact hv
        have e3 : (xu m1 5 i r).1 2 3 = m1.1 2 3 := xu_o (fun y => absurd y.1 (by decide))
        have gl : tsk b n p ≤ n := tS_le _ h.2.2.1.2
        have n4 := t2.1.2.1
        refine xP_b (cRef t2 (a := m1.1 2 3) (c := 1) (x := 1) t1.2.2.2.1 (by omega) rfl (by decide) (by decide)) (fun _ m2 q2 => ?_)
        unfold D119_4_2_131
        refine cN_stop a1 q2.2 (by omega) (k1 ⟨h1, i1, zne e5⟩ _ q2.2 ((kM12 q2.1).trans r12))
  unfold D119_4_2_10
  refine xP_g a1 (xP_i (fun c => absurd c (by rw [a2]; decide)) (fun _ => ?_))
  refine xP_b (cSnd h) (fun r m1 q => ?_)
  obtain ⟨rfl, q⟩ := q
  rcases q with ⟨rfl, -⟩ | ⟨-, q⟩
  rotate_left
  · exact absurd rfl q
  dsimp only
  refine xP_i (fun c => absurd c (by decide)) (fun _ => xP_g a3 ?_)
  unfold D119_4_2_50
  cases isH with
  | false =>
    refine xP_i (fun _ => ?_) (fun c => absurd c (by rw [a4]; decide))
    exact xP_i (fun _ => xP_g a3 (body 0 _ (Or.inl ⟨rfl, rfl⟩) a6)) (fun c => absurd c (by decide))
  | true =>
    refine xP_i (fun c => absurd c (by rw [a4]; decide)) (fun _ => ?_)
    exact xP_i (fun c => absurd c (by decide)) (fun _ => body 1 _ (Or.inr ⟨rfl, rfl⟩) a6)
theorem cN_0 {v2 : Int32} (hF : 500 ≤ F) (h : tC m0 b n p bg 0 m) : xP (D119_4_2 F v2 0 m) (fun _ m' => (∃ g, vbod b n p s 0 = .inl g ∧ g ≠ 0 ∧ (∃ p' bg', tC m0 b n p' bg' g m') ∧ m'.1 12 = m.1 12) ∨ (∃ (xa xb : Int) (e : Nat), vbod b n p s 0 = .inr (e, vup (vup s 1 xb) 0 xa) ∧ ((2 ≤ xa ∧ xa ≤ 6) ∧ (1 ≤ xb ∧ xb ≤ 20)) ∧ ((m'.1 5 0).toInt = xa ∧ (m'.1 5 1).toInt = xb) ∧ (∃ bg', tC m0 b n e bg' 0 m') ∧ m'.1 12 = m.1 12)) := by
  have hb : vbod b n p s 0 = (vn b n p 2 6 fun a e => vn b n e 1 20 fun c e2 => .inr (e2, vup (vup s 1 c) 0 a)) := by
    unfold vbod
    rw [if_pos rfl]
  unfold D119_4_2
  rw [show zsv 30 ((0 : Int32)).toNatClampNeg = 0 from by decide +kernel]
  refine xP_g (by decide) ?_
  obtain ⟨f, hf⟩ : ∃ f, F = f + 6 := ⟨F - 6, by omega⟩
  have key : ∀ f', F = f' → xP (D119_4_2_10 F f' v2 0 0 0 m) (fun _ m' => (∃ g, vbod b n p s 0 = .inl g ∧ g ≠ 0 ∧ (∃ p' bg', tC m0 b n p' bg' g m') ∧ m'.1 12 = m.1 12) ∨ (∃ (xa xb : Int) (e : Nat), vbod b n p s 0 = .inr (e, vup (vup s 1 xb) 0 xa) ∧ ((2 ≤ xa ∧ xa ≤ 6) ∧ (1 ≤ xb ∧ xb ≤ 20)) ∧ ((m'.1 5 0).toInt = xa ∧ (m'.1 5 1).toInt = xb) ∧ (∃ bg', tC m0 b n e bg' 0 m') ∧ m'.1 12 = m.1 12)) := by
    intro f' e
    obtain rfl : f' = f + 6 := e.symm.trans hf
    refine cN10 (i := 0) (isH := false) (l := 2) (u := 6) hF (by decide) (by decide +kernel) (by decide) (by decide +kernel) (by decide +kernel) ((if_neg (by decide)).trans (by decide +kernel)) (by decide) (by decide) h (fun g m' z1 g0 t r => ?_) (fun xa p0 r0 m0 e0 er0 t0 f0 w0 => ?_)
    · exact Or.inl ⟨g, by rw [hb, vn_l z1], g0, t, r⟩
    refine ⟨fun z => absurd z (by simp), fun _ => ?_⟩
    refine cN10 (i := 1) (isH := false) (l := 1) (u := 20) hF (by decide) (by decide +kernel) (by decide) (by decide +kernel) (by decide +kernel) ((if_neg (by decide)).trans (by decide +kernel)) (by decide) (by decide) t0 (fun g m' z1 g0 t r => ?_) (fun xb p1 r1 m1 e1 er1 t1 f1 w1 => ?_)
    · exact Or.inl ⟨g, by rw [hb, vn_r e0, vn_l z1], g0, t, r.trans f0⟩
    have f1 := f1.trans f0
    refine ⟨fun z => absurd z (by simp), fun _ => ?_⟩
    refine cN_exit (by decide) (by decide +kernel) (Or.inr ⟨xa, xb, _, by rw [hb, vn_r e0, vn_r e1], ?_, ?_, ⟨_, t1⟩, f1⟩)
    · have vb0 := vnu_b e0
      have vb1 := vnu_b e1
      exact ⟨⟨vb0.1, vb0.2.1⟩, ⟨vb1.1, vb1.2.1⟩⟩
    · exact ⟨by rw [w1, if_neg (by decide), w0, if_pos rfl]; exact er0, by rw [w1, if_pos rfl]; exact er1⟩
  exact key F rfl
theorem cN_1 {v2 : Int32} (hF : 500 ≤ F) (h : tC m0 b n p bg 0 m) (hh : v2.toInt = s 0) (h0 : 0 ≤ s 0) (h6 : s 0 ≤ 6) : xP (D119_4_2 F v2 1 m) (fun _ m' => (∃ g, vbod b n p s 1 = .inl g ∧ g ≠ 0 ∧ (∃ p' bg', tC m0 b n p' bg' g m') ∧ m'.1 12 = m.1 12) ∨ (∃ (xa xb xc : Int) (e : Nat), vbod b n p s 1 = .inr (e, vTool s (s 2).toNat xa xb xc) ∧ ((0 ≤ xa ∧ xa ≤ s 0 - 1) ∧ (0 ≤ xb ∧ xb ≤ 4) ∧ (0 ≤ xc ∧ xc ≤ 9)) ∧ ((m'.1 5 0).toInt = xa ∧ (m'.1 5 1).toInt = xb ∧ (m'.1 5 2).toInt = xc) ∧ (∃ bg', tC m0 b n e bg' 0 m') ∧ m'.1 12 = m.1 12)) := by
  have hb : vbod b n p s 1 = (vn b n p 0 (s 0 - 1) fun a e => vn b n e 0 4 fun c e2 => vn b n e2 0 9 fun d e3 => .inr (e3, vTool s (s 2).toNat a c d)) := by
    unfold vbod
    rw [if_neg (by decide), if_pos rfl]
  unfold D119_4_2
  rw [show zsv 30 ((1 : Int32)).toNatClampNeg = 2 from by decide +kernel]
  refine xP_g (by decide) ?_
  obtain ⟨f, hf⟩ : ∃ f, F = f + 6 := ⟨F - 6, by omega⟩
  have key : ∀ f', F = f' → xP (D119_4_2_10 F f' v2 1 2 0 m) (fun _ m' => (∃ g, vbod b n p s 1 = .inl g ∧ g ≠ 0 ∧ (∃ p' bg', tC m0 b n p' bg' g m') ∧ m'.1 12 = m.1 12) ∨ (∃ (xa xb xc : Int) (e : Nat), vbod b n p s 1 = .inr (e, vTool s (s 2).toNat xa xb xc) ∧ ((0 ≤ xa ∧ xa ≤ s 0 - 1) ∧ (0 ≤ xb ∧ xb ≤ 4) ∧ (0 ≤ xc ∧ xc ≤ 9)) ∧ ((m'.1 5 0).toInt = xa ∧ (m'.1 5 1).toInt = xb ∧ (m'.1 5 2).toInt = xc) ∧ (∃ bg', tC m0 b n e bg' 0 m') ∧ m'.1 12 = m.1 12)) := by
    intro f' e
    obtain rfl : f' = f + 6 := e.symm.trans hf
    refine cN10 (i := 0) (isH := true) (l := 0) (u := s 0 - 1) hF (by decide) (by decide +kernel) (by decide) (by decide +kernel) (by decide +kernel) ((if_pos rfl).trans (rh1 hh h0 h6)) (by decide) (by decide) h (fun g m' z1 g0 t r => ?_) (fun xa p0 r0 m0 e0 er0 t0 f0 w0 => ?_)
    · exact Or.inl ⟨g, by rw [hb, vn_l z1], g0, t, r⟩
    refine ⟨fun z => absurd z (by simp), fun _ => ?_⟩
    refine cN10 (i := 1) (isH := false) (l := 0) (u := 4) hF (by decide) (by decide +kernel) (by decide) (by decide +kernel) (by decide +kernel) ((if_neg (by decide)).trans (by decide +kernel)) (by decide) (by decide) t0 (fun g m' z1 g0 t r => ?_) (fun xb p1 r1 m1 e1 er1 t1 f1 w1 => ?_)
    · exact Or.inl ⟨g, by rw [hb, vn_r e0, vn_l z1], g0, t, r.trans f0⟩
    have f1 := f1.trans f0
    refine ⟨fun z => absurd z (by simp), fun _ => ?_⟩
    refine cN10 (i := 2) (isH := false) (l := 0) (u := 9) hF (by decide) (by decide +kernel) (by decide) (by decide +kernel) (by decide +kernel) ((if_neg (by decide)).trans (by decide +kernel)) (by decide) (by decide) t1 (fun g m' z1 g0 t r => ?_) (fun xc p2 r2 m2 e2 er2 t2 f2 w2 => ?_)
    · exact Or.inl ⟨g, by rw [hb, vn_r e0, vn_r e1, vn_l z1], g0, t, r.trans f1⟩
    have f2 := f2.trans f1
    refine ⟨fun z => absurd z (by simp), fun _ => ?_⟩
    refine cN_exit (by decide) (by decide +kernel) (Or.inr ⟨xa, xb, xc, _, by rw [hb, vn_r e0, vn_r e1, vn_r e2], ?_, ?_, ⟨_, t2⟩, f2⟩)
    · have vb0 := vnu_b e0
      have vb1 := vnu_b e1
      have vb2 := vnu_b e2
      exact ⟨⟨vb0.1, vb0.2.1⟩, ⟨vb1.1, vb1.2.1⟩, ⟨vb2.1, vb2.2.1⟩⟩
    · exact ⟨by rw [w2, if_neg (by decide), w1, if_neg (by decide), w0, if_pos rfl]; exact er0, by rw [w2, if_neg (by decide), w1, if_pos rfl]; exact er1, by rw [w2, if_pos rfl]; exact er2⟩
  exact key F rfl
theorem cN_2 {v2 : Int32} (hF : 500 ≤ F) (h : tC m0 b n p bg 0 m) (hh : v2.toInt = s 0) (h0 : 0 ≤ s 0) (h6 : s 0 ≤ 6) : xP (D119_4_2 F v2 2 m) (fun _ m' => (∃ g, vbod b n p s 2 = .inl g ∧ g ≠ 0 ∧ (∃ p' bg', tC m0 b n p' bg' g m') ∧ m'.1 12 = m.1 12) ∨ (∃ (xa xb : Int) (e : Nat), vbod b n p s 2 = .inr (e, vup s (46 + 6 * xa.toNat + xb.toNat) 1) ∧ ((0 ≤ xa ∧ xa ≤ s 0 - 1) ∧ (0 ≤ xb ∧ xb ≤ s 0 - 1) ∧ xa ≠ xb) ∧ ((m'.1 5 0).toInt = xa ∧ (m'.1 5 1).toInt = xb) ∧ (∃ bg', tC m0 b n e bg' 0 m') ∧ m'.1 12 = m.1 12)) := by
  have hb : vbod b n p s 2 = (vn b n p 0 (s 0 - 1) fun a e => vn b n e 0 (s 0 - 1) fun c e2 => if a = c then .inl (1 + 8 * (tsk b n e : Int) + 1) else .inr (e2, vup s (46 + 6 * a.toNat + c.toNat) 1)) := by
    unfold vbod
    rw [if_neg (by decide), if_neg (by decide), if_pos rfl]
    rfl
  unfold D119_4_2
  rw [show zsv 30 ((2 : Int32)).toNatClampNeg = 5 from by decide +kernel]
  refine xP_g (by decide) ?_
  obtain ⟨f, hf⟩ : ∃ f, F = f + 6 := ⟨F - 6, by omega⟩
  have key : ∀ f', F = f' → xP (D119_4_2_10 F f' v2 2 5 0 m) (fun _ m' => (∃ g, vbod b n p s 2 = .inl g ∧ g ≠ 0 ∧ (∃ p' bg', tC m0 b n p' bg' g m') ∧ m'.1 12 = m.1 12) ∨ (∃ (xa xb : Int) (e : Nat), vbod b n p s 2 = .inr (e, vup s (46 + 6 * xa.toNat + xb.toNat) 1) ∧ ((0 ≤ xa ∧ xa ≤ s 0 - 1) ∧ (0 ≤ xb ∧ xb ≤ s 0 - 1) ∧ xa ≠ xb) ∧ ((m'.1 5 0).toInt = xa ∧ (m'.1 5 1).toInt = xb) ∧ (∃ bg', tC m0 b n e bg' 0 m') ∧ m'.1 12 = m.1 12)) := by
    intro f' e
    obtain rfl : f' = f + 6 := e.symm.trans hf
    refine cN10 (i := 0) (isH := true) (l := 0) (u := s 0 - 1) hF (by decide) (by decide +kernel) (by decide) (by decide +kernel) (by decide +kernel) ((if_pos rfl).trans (rh1 hh h0 h6)) (by decide) (by decide) h (fun g m' z1 g0 t r => ?_) (fun xa p0 r0 m0 e0 er0 t0 f0 w0 => ?_)
    · exact Or.inl ⟨g, by rw [hb, vn_l z1], g0, t, r⟩
    refine ⟨fun z => absurd z (by simp), fun _ => ?_⟩
    refine cN10 (i := 1) (isH := true) (l := 0) (u := s 0 - 1) hF (by decide) (by decide +kernel) (by decide) (by decide +kernel) (by decide +kernel) ((if_pos rfl).trans (rh1 hh h0 h6)) (by decide) (by decide) t0 (fun g m' z1 g0 t r => ?_) (fun xb p1 r1 m1 e1 er1 t1 f1 w1 => ?_)
    · exact Or.inl ⟨g, by rw [hb, vn_r e0, vn_l z1], g0, t, r.trans f0⟩
    have f1 := f1.trans f0
    have w0e : (m1.1 5 0).toInt = xa := by rw [w1, if_neg (by decide), w0, if_pos rfl]; exact er0
    have w1e : (m1.1 5 1).toInt = xb := by rw [w1, if_pos rfl]; exact er1
    refine ⟨fun z m'' t2 r2 => ?_, fun z => ?_⟩
    · have eq : xa = xb := by rw [← w0e, ← w1e, z.2.2]
      exact Or.inl ⟨_, by rw [hb, vn_r e0, vn_r e1, if_pos eq], by omega, ⟨_, _, t2⟩, r2.trans f0⟩
    have ne : xa ≠ xb := fun z2 => z ⟨rfl, rfl, Int32.toInt_inj.mp (by rw [w0e, w1e, z2])⟩
    refine cN_exit (by decide) (by decide +kernel) (Or.inr ⟨xa, xb, _, by rw [hb, vn_r e0, vn_r e1, if_neg ne], ?_, ?_, ⟨_, t1⟩, f1⟩)
    · have vb0 := vnu_b e0
      have vb1 := vnu_b e1
      exact ⟨⟨vb0.1, vb0.2.1⟩, ⟨vb1.1, vb1.2.1⟩, ne⟩
    · exact ⟨by rw [w1, if_neg (by decide), w0, if_pos rfl]; exact er0, by rw [w1, if_pos rfl]; exact er1⟩
  exact key F rfl
theorem cN_3 {v2 : Int32} (hF : 500 ≤ F) (h : tC m0 b n p bg 0 m) (hh : v2.toInt = s 0) (h0 : 0 ≤ s 0) (h6 : s 0 ≤ 6) : xP (D119_4_2 F v2 3 m) (fun _ m' => (∃ g, vbod b n p s 3 = .inl g ∧ g ≠ 0 ∧ (∃ p' bg', tC m0 b n p' bg' g m') ∧ m'.1 12 = m.1 12) ∨ (∃ (xa xb xc xd : Int) (e : Nat), vbod b n p s 3 = .inr (e, vWork s (s 3).toNat xa xb xc xd) ∧ ((0 ≤ xa ∧ xa ≤ s 0 - 1) ∧ (0 ≤ xb ∧ xb ≤ 4) ∧ (1 ≤ xc ∧ xc ≤ 20) ∧ (1 ≤ xd ∧ xd ≤ 50)) ∧ ((m'.1 5 0).toInt = xa ∧ (m'.1 5 1).toInt = xb ∧ (m'.1 5 2).toInt = xc ∧ (m'.1 5 3).toInt = xd) ∧ (∃ bg', tC m0 b n e bg' 0 m') ∧ m'.1 12 = m.1 12)) := by
  have hb : vbod b n p s 3 = (vn b n p 0 (s 0 - 1) fun a e => vn b n e 0 4 fun c e2 => vn b n e2 1 20 fun d e3 => vn b n e3 1 50 fun f e4 => .inr (e4, vWork s (s 3).toNat a c d f)) := by
    unfold vbod
    rw [if_neg (by decide), if_neg (by decide), if_neg (by decide), if_pos rfl]
  unfold D119_4_2
  rw [show zsv 30 ((3 : Int32)).toNatClampNeg = 7 from by decide +kernel]
  refine xP_g (by decide) ?_
  obtain ⟨f, hf⟩ : ∃ f, F = f + 6 := ⟨F - 6, by omega⟩
  have key : ∀ f', F = f' → xP (D119_4_2_10 F f' v2 3 7 0 m) (fun _ m' => (∃ g, vbod b n p s 3 = .inl g ∧ g ≠ 0 ∧ (∃ p' bg', tC m0 b n p' bg' g m') ∧ m'.1 12 = m.1 12) ∨ (∃ (xa xb xc xd : Int) (e : Nat), vbod b n p s 3 = .inr (e, vWork s (s 3).toNat xa xb xc xd) ∧ ((0 ≤ xa ∧ xa ≤ s 0 - 1) ∧ (0 ≤ xb ∧ xb ≤ 4) ∧ (1 ≤ xc ∧ xc ≤ 20) ∧ (1 ≤ xd ∧ xd ≤ 50)) ∧ ((m'.1 5 0).toInt = xa ∧ (m'.1 5 1).toInt = xb ∧ (m'.1 5 2).toInt = xc ∧ (m'.1 5 3).toInt = xd) ∧ (∃ bg', tC m0 b n e bg' 0 m') ∧ m'.1 12 = m.1 12)) := by
    intro f' e
    obtain rfl : f' = f + 6 := e.symm.trans hf
    refine cN10 (i := 0) (isH := true) (l := 0) (u := s 0 - 1) hF (by decide) (by decide +kernel) (by decide) (by decide +kernel) (by decide +kernel) ((if_pos rfl).trans (rh1 hh h0 h6)) (by decide) (by decide) h (fun g m' z1 g0 t r => ?_) (fun xa p0 r0 m0 e0 er0 t0 f0 w0 => ?_)
    · exact Or.inl ⟨g, by rw [hb, vn_l z1], g0, t, r⟩
    refine ⟨fun z => absurd z (by simp), fun _ => ?_⟩
    refine cN10 (i := 1) (isH := false) (l := 0) (u := 4) hF (by decide) (by decide +kernel) (by decide) (by decide +kernel) (by decide +kernel) ((if_neg (by decide)).trans (by decide +kernel)) (by decide) (by decide) t0 (fun g m' z1 g0 t r => ?_) (fun xb p1 r1 m1 e1 er1 t1 f1 w1 => ?_)
    · exact Or.inl ⟨g, by rw [hb, vn_r e0, vn_l z1], g0, t, r.trans f0⟩
    have f1 := f1.trans f0
    refine ⟨fun z => absurd z (by simp), fun _ => ?_⟩
    refine cN10 (i := 2) (isH := false) (l := 1) (u := 20) hF (by decide) (by decide +kernel) (by decide) (by decide +kernel) (by decide +kernel) ((if_neg (by decide)).trans (by decide +kernel)) (by decide) (by decide) t1 (fun g m' z1 g0 t r => ?_) (fun xc p2 r2 m2 e2 er2 t2 f2 w2 => ?_)
    · exact Or.inl ⟨g, by rw [hb, vn_r e0, vn_r e1, vn_l z1], g0, t, r.trans f1⟩
    have f2 := f2.trans f1
    refine ⟨fun z => absurd z (by simp), fun _ => ?_⟩
    refine cN10 (i := 3) (isH := false) (l := 1) (u := 50) hF (by decide) (by decide +kernel) (by decide) (by decide +kernel) (by decide +kernel) ((if_neg (by decide)).trans (by decide +kernel)) (by decide) (by decide) t2 (fun g m' z1 g0 t r => ?_) (fun xd p3 r3 m3 e3 er3 t3 f3 w3 => ?_)
    · exact Or.inl ⟨g, by rw [hb, vn_r e0, vn_r e1, vn_r e2, vn_l z1], g0, t, r.trans f2⟩
    have f3 := f3.trans f2
    refine ⟨fun z => absurd z (by simp), fun _ => ?_⟩
    refine cN_exit (by decide) (by decide +kernel) (Or.inr ⟨xa, xb, xc, xd, _, by rw [hb, vn_r e0, vn_r e1, vn_r e2, vn_r e3], ?_, ?_, ⟨_, t3⟩, f3⟩)
    · have vb0 := vnu_b e0
      have vb1 := vnu_b e1
      have vb2 := vnu_b e2
      have vb3 := vnu_b e3
      exact ⟨⟨vb0.1, vb0.2.1⟩, ⟨vb1.1, vb1.2.1⟩, ⟨vb2.1, vb2.2.1⟩, ⟨vb3.1, vb3.2.1⟩⟩
    · exact ⟨by rw [w3, if_neg (by decide), w2, if_neg (by decide), w1, if_neg (by decide), w0, if_pos rfl]; exact er0, by rw [w3, if_neg (by decide), w2, if_neg (by decide), w1, if_pos rfl]; exact er1, by rw [w3, if_neg (by decide), w2, if_pos rfl]; exact er2, by rw [w3, if_pos rfl]; exact er3⟩
  exact key F rfl
theorem cN_4 {v2 : Int32} (hF : 500 ≤ F) (h : tC m0 b n p bg 0 m) (hh : v2.toInt = s 0) (h0 : 0 ≤ s 0) (h6 : s 0 ≤ 6) : xP (D119_4_2 F v2 4 m) (fun _ m' => (∃ g, vbod b n p s 4 = .inl g ∧ g ≠ 0 ∧ (∃ p' bg', tC m0 b n p' bg' g m') ∧ m'.1 12 = m.1 12) ∨ (∃ (xa xb xc : Int) (e : Nat), vbod b n p s 4 = .inr (e, vup s (82 + 6 * xa.toNat + xb.toNat) xc) ∧ ((0 ≤ xa ∧ xa ≤ s 0 - 1) ∧ (0 ≤ xb ∧ xb ≤ s 0 - 1) ∧ (0 ≤ xc ∧ xc ≤ 9) ∧ xa ≠ xb) ∧ ((m'.1 5 0).toInt = xa ∧ (m'.1 5 1).toInt = xb ∧ (m'.1 5 2).toInt = xc) ∧ (∃ bg', tC m0 b n e bg' 0 m') ∧ m'.1 12 = m.1 12)) := by
  have hb : vbod b n p s 4 = (vn b n p 0 (s 0 - 1) fun a e => vn b n e 0 (s 0 - 1) fun c e2 => if a = c then .inl (1 + 8 * (tsk b n e : Int) + 1) else vn b n e2 0 9 fun d e3 => .inr (e3, vup s (82 + 6 * a.toNat + c.toNat) d)) := by
    unfold vbod
    rw [if_neg (by decide), if_neg (by decide), if_neg (by decide), if_neg (by decide)]
    rfl
  unfold D119_4_2
  rw [show zsv 30 ((4 : Int32)).toNatClampNeg = 11 from by decide +kernel]
  refine xP_g (by decide) ?_
  obtain ⟨f, hf⟩ : ∃ f, F = f + 6 := ⟨F - 6, by omega⟩
  have key : ∀ f', F = f' → xP (D119_4_2_10 F f' v2 4 11 0 m) (fun _ m' => (∃ g, vbod b n p s 4 = .inl g ∧ g ≠ 0 ∧ (∃ p' bg', tC m0 b n p' bg' g m') ∧ m'.1 12 = m.1 12) ∨ (∃ (xa xb xc : Int) (e : Nat), vbod b n p s 4 = .inr (e, vup s (82 + 6 * xa.toNat + xb.toNat) xc) ∧ ((0 ≤ xa ∧ xa ≤ s 0 - 1) ∧ (0 ≤ xb ∧ xb ≤ s 0 - 1) ∧ (0 ≤ xc ∧ xc ≤ 9) ∧ xa ≠ xb) ∧ ((m'.1 5 0).toInt = xa ∧ (m'.1 5 1).toInt = xb ∧ (m'.1 5 2).toInt = xc) ∧ (∃ bg', tC m0 b n e bg' 0 m') ∧ m'.1 12 = m.1 12)) := by
    intro f' e
    obtain rfl : f' = f + 6 := e.symm.trans hf
    refine cN10 (i := 0) (isH := true) (l := 0) (u := s 0 - 1) hF (by decide) (by decide +kernel) (by decide) (by decide +kernel) (by decide +kernel) ((if_pos rfl).trans (rh1 hh h0 h6)) (by decide) (by decide) h (fun g m' z1 g0 t r => ?_) (fun xa p0 r0 m0 e0 er0 t0 f0 w0 => ?_)
    · exact Or.inl ⟨g, by rw [hb, vn_l z1], g0, t, r⟩
    refine ⟨fun z => absurd z (by simp), fun _ => ?_⟩
    refine cN10 (i := 1) (isH := true) (l := 0) (u := s 0 - 1) hF (by decide) (by decide +kernel) (by decide) (by decide +kernel) (by decide +kernel) ((if_pos rfl).trans (rh1 hh h0 h6)) (by decide) (by decide) t0 (fun g m' z1 g0 t r => ?_) (fun xb p1 r1 m1 e1 er1 t1 f1 w1 => ?_)
    · exact Or.inl ⟨g, by rw [hb, vn_r e0, vn_l z1], g0, t, r.trans f0⟩
    have f1 := f1.trans f0
    have w0e : (m1.1 5 0).toInt = xa := by rw [w1, if_neg (by decide), w0, if_pos rfl]; exact er0
    have w1e : (m1.1 5 1).toInt = xb := by rw [w1, if_pos rfl]; exact er1
    refine ⟨fun z m'' t2 r2 => ?_, fun z => ?_⟩
    · have eq : xa = xb := by rw [← w0e, ← w1e, z.2.2]
      exact Or.inl ⟨_, by rw [hb, vn_r e0, vn_r e1, if_pos eq], by omega, ⟨_, _, t2⟩, r2.trans f0⟩
    have ne : xa ≠ xb := fun z2 => z ⟨rfl, rfl, Int32.toInt_inj.mp (by rw [w0e, w1e, z2])⟩
    refine cN10 (i := 2) (isH := false) (l := 0) (u := 9) hF (by decide) (by decide +kernel) (by decide) (by decide +kernel) (by decide +kernel) ((if_neg (by decide)).trans (by decide +kernel)) (by decide) (by decide) t1 (fun g m' z1 g0 t r => ?_) (fun xc p2 r2 m2 e2 er2 t2 f2 w2 => ?_)
    · exact Or.inl ⟨g, by rw [hb, vn_r e0, vn_r e1, if_neg ne, vn_l z1], g0, t, r.trans f1⟩
    have f2 := f2.trans f1
    refine ⟨fun z => absurd z (by simp), fun _ => ?_⟩
    refine cN_exit (by decide) (by decide +kernel) (Or.inr ⟨xa, xb, xc, _, by rw [hb, vn_r e0, vn_r e1, if_neg ne, vn_r e2], ?_, ?_, ⟨_, t2⟩, f2⟩)
    · have vb0 := vnu_b e0
      have vb1 := vnu_b e1
      have vb2 := vnu_b e2
      exact ⟨⟨vb0.1, vb0.2.1⟩, ⟨vb1.1, vb1.2.1⟩, ⟨vb2.1, vb2.2.1⟩, ne⟩
    · exact ⟨by rw [w2, if_neg (by decide), w1, if_neg (by decide), w0, if_pos rfl]; exact er0, by rw [w2, if_neg (by decide), w1, if_pos rfl]; exact er1, by rw [w2, if_pos rfl]; exact er2⟩
  exact key F rfl
end VCL
end
section
/-! The class reads a village: what is told, clauses, the whole text. -/
def cQ (m0 : xS) (b : Nat → Int) (n : Nat) (o : Int ⊕ vSt) (m : xS) : Prop := match o with
  | .inl g => g ≠ 0 ∧ ∃ p bg, tC m0 b n p bg g m
  | .inr q => (∃ bg, tC m0 b n q.1 bg 0 m) ∧ vR (vdn q.2) (m.1 12) ∧ vz q.2
section VCT
variable {m0 : xS} {b : Nat → Int} {n p bg k : Nat} {ft : Int} {s : Nat → Int} {m : xS} {F : Nat}
theorem vmay_iff {u : Nat} : vmay s k u = true ↔ (k = 0 ∧ u = 0) ∨ (k ≠ 0 ∧ u ≠ 0 ∧ k < 40 ∧ (u = 1 → s 2 < 6) ∧ (u = 3 → s 3 < 6)) := by
  unfold vmay
  by_cases k0 : k = 0
  · rw [if_pos k0]
    constructor
    · intro h
      exact Or.inl ⟨k0, by simpa using h⟩
    · intro h
      rcases h with h | h
      · rw [h.2]; rfl
      · exact absurd k0 h.1
  · rw [if_neg k0]
    simp only [Bool.and_eq_true, Bool.or_eq_true, decide_eq_true_eq, bne_iff_ne]
    constructor
    · intro h
      exact Or.inr ⟨k0, h.1, h.2.1, fun z => h.2.2.1.resolve_left (fun y => y z), fun z => h.2.2.2.resolve_left (fun y => y z)⟩
    · intro h
      rcases h with h | h
      · exact absurd h.1 k0
      · refine ⟨h.2.1, h.2.2.1, ?_, ?_⟩
        · by_cases z : u = 1
          · exact Or.inr (h.2.2.2.1 z)
          · exact Or.inl z
        · by_cases z : u = 3
          · exact Or.inr (h.2.2.2.2 z)
          · exact Or.inl z
theorem vmay_f {u : Nat} (h : ¬ ((k = 0 ∧ u = 0) ∨ (k ≠ 0 ∧ u ≠ 0 ∧ k < 40 ∧ (u = 1 → s 2 < 6) ∧ (u = 3 → s 3 < 6)))) : vmay s k u = false := by
  cases e : vmay s k u with
  | false => rfl
  | true => exact absurd (vmay_iff.mp e) h
/-- mayStand -/
theorem c118 {v1 v2 : Int32} {u : Nat} (hw : v1.toInt = (u : Int)) (hk : v2.toInt = (k : Int)) (R : 0 < k → (m.1 12 2).toInt = s 2 ∧ (m.1 12 3).toInt = s 3) : xP (D118_11 F v1 v2 m) (fun r m' => m' = m ∧ ((r = 1 ∧ vmay s k u = true) ∨ (r = 0 ∧ vmay s k u = false))) := by
  have l8 : xP (D118_11_8 F v1 v2 m) (fun r m' => m' = m ∧ ((r = 1 ∧ (k = 0 ∧ u = 0)) ∨ (r = 0 ∧ ¬ (k = 0 ∧ u = 0)))) := by
    unfold D118_11_8 D118_11_20
    refine xP_i (fun c => xP_r ⟨rfl, Or.inr ⟨rfl, fun z => ?_⟩⟩) (fun c => xP_i (fun d => xP_r ⟨rfl, Or.inr ⟨rfl, fun z => ?_⟩⟩) (fun d => xP_r ⟨rfl, Or.inl ⟨rfl, ?_⟩⟩))
    · have c : v2.toInt ≠ 0 := zt c
      omega
    · have d : v1.toInt ≠ 0 := zt d
      omega
    · have c : v2.toInt = 0 := Decidable.not_not.mp (zf c)
      have d : v1.toInt = 0 := Decidable.not_not.mp (zf d)
      omega
  have l38 : 0 < k → xP (D118_11_38 F v1 v2 m) (fun r m' => m' = m ∧ ((r = 1 ∧ (k < 40 ∧ (u = 3 → s 3 < 6))) ∨ (r = 0 ∧ ¬ (k < 40 ∧ (u = 3 → s 3 < 6))))) := fun k0 => by
    obtain ⟨-, r3⟩ := R k0
    unfold D118_11_38 D118_11_62 D118_11_58 D80_11
    refine xP_i (fun c => xP_r ⟨rfl, Or.inr ⟨rfl, fun z => ?_⟩⟩) (fun c => ?_)
    · have c : (40 : Int) ≤ v2.toInt := zt c
      omega
    have c : ¬ (40 : Int) ≤ v2.toInt := zf c
    refine xP_i (fun d => xP_r ⟨rfl, Or.inl ⟨rfl, by omega, fun z => ?_⟩⟩) (fun d => ?_)
    · have d : v1.toInt ≠ 3 := zt d
      omega
    refine xP_b (R := fun v m' => v = m.1 12 3 ∧ m' = m) (xP_r ⟨rfl, rfl⟩) (fun v m' q => ?_)
    obtain ⟨rfl, rfl⟩ := q
    have d : v1.toInt = 3 := Decidable.not_not.mp (zf d)
    dsimp only
    refine xP_i (fun e => xP_r ⟨rfl, Or.inr ⟨rfl, fun z => ?_⟩⟩) (fun e => xP_r ⟨rfl, Or.inl ⟨rfl, by omega, fun z => ?_⟩⟩)
    · have e : (6 : Int) ≤ (m'.1 12 3).toInt := zt e
      have := z.2 (by omega)
      omega
    · have e : ¬ (6 : Int) ≤ (m'.1 12 3).toInt := zf e
      omega
  unfold D118_11
  refine xP_i (fun c => xP_m l8 (fun r m' q => ?_)) (fun c => ?_)
  · have c : v2.toInt = 0 := (congrArg Int32.toInt (zeq c)).trans rfl
    obtain ⟨q0, q⟩ := q
    refine ⟨q0, ?_⟩
    rcases q with ⟨q1, q2⟩ | ⟨q1, q2⟩
    · exact Or.inl ⟨q1, vmay_iff.mpr (Or.inl q2)⟩
    · exact Or.inr ⟨q1, vmay_f (fun z => by rcases z with z | z <;> omega)⟩
  have c : v2.toInt ≠ 0 := fun z => zneq c (Int32.toInt_inj.mp z)
  have k0 : 0 < k := by omega
  refine xP_i (fun d => ?_) (fun d => xP_m l8 (fun r m' q => ?_))
  · have d : v1.toInt ≠ 0 := zt d
    refine xP_i (fun e => xP_m (l38 k0) (fun r m' q => ?_)) (fun e => ?_)
    · have e : v1.toInt ≠ 1 := zt e
      obtain ⟨q0, q⟩ := q
      refine ⟨q0, ?_⟩
      rcases q with ⟨q1, q2⟩ | ⟨q1, q2⟩
      · exact Or.inl ⟨q1, vmay_iff.mpr (Or.inr ⟨by omega, by omega, q2.1, fun z => by omega, q2.2⟩)⟩
      · refine Or.inr ⟨q1, vmay_f (fun z => ?_)⟩
        rcases z with z | z
        · omega
        · exact q2 ⟨z.2.2.1, z.2.2.2.2⟩
    · have e : v1.toInt = 1 := Decidable.not_not.mp (zf e)
      obtain ⟨r2, -⟩ := R k0
      unfold D79_11
      refine xP_b (R := fun v m' => v = m.1 12 2 ∧ m' = m) (xP_r ⟨rfl, rfl⟩) (fun v m' q => ?_)
      obtain ⟨rfl, rfl⟩ := q
      dsimp only
      refine xP_i (fun g => xP_m (l38 k0) (fun r m'' q => ?_)) (fun g => xP_r ⟨rfl, Or.inr ⟨rfl, vmay_f (fun z => ?_)⟩⟩)
      · have g : (m'.1 12 2).toInt < 6 := zt g
        obtain ⟨q0, q⟩ := q
        refine ⟨q0, ?_⟩
        rcases q with ⟨q1, q2⟩ | ⟨q1, q2⟩
        · exact Or.inl ⟨q1, vmay_iff.mpr (Or.inr ⟨by omega, by omega, q2.1, fun z => by omega, q2.2⟩)⟩
        · refine Or.inr ⟨q1, vmay_f (fun z => ?_)⟩
          rcases z with z | z
          · omega
          · exact q2 ⟨z.2.2.1, z.2.2.2.2⟩
      · have g : ¬ (m'.1 12 2).toInt < 6 := zf g
        rcases z with z | z
        · omega
        · have := z.2.2.2.1 (by omega)
          omega
  · have d : v1.toInt = 0 := Decidable.not_not.mp (zf d)
    obtain ⟨q0, q⟩ := q
    refine ⟨q0, ?_⟩
    rcases q with ⟨q1, q2⟩ | ⟨q1, q2⟩
    · exact Or.inl ⟨q1, vmay_iff.mpr (Or.inl q2)⟩
    · exact Or.inr ⟨q1, vmay_f (fun z => by rcases z with z | z <;> omega)⟩
/-- tellHouses -/
theorem c291_5 : ∀ (f : Nat) {i : Nat} {v2 : Int32} {m : xS}, v2.toInt = (i : Int) → i ≤ 114 → 114 - i < f → tC m0 b n p bg 0 m → (∀ j, j < i → m.1 12 j = 0) → xP (D291_12_5 F f 0 v2 (Int32.ofNat 114) m) (fun _ m' => tC m0 b n p bg 0 m' ∧ (∀ j, j < 114 → m'.1 12 j = 0) ∧ m'.1 5 = m.1 5) := by
  intro f
  induction f with
  | zero => intro i v2 m _ _ l; omega
  | succ f ih =>
    intro i v2 m hv h6 hf h h0
    have e114 : (Int32.ofNat 114).toInt = 114 := rfl
    unfold D291_12_5
    refine xP_i (fun c => xP_r ⟨h, fun j hj => h0 j ?_, rfl⟩) (fun c => ?_)
    · have c : (Int32.ofNat 114).toInt ≤ v2.toInt := zt c
      omega
    · have c : ¬ (Int32.ofNat 114).toInt ≤ v2.toInt := zf c
      rw [show v2.toNatClampNeg = i by show v2.toInt.toNat = i; omega]
      refine xP_g (xib_t (by omega) (by omega)) ?_
      refine xP_m (ih (i := i + 1) (m := xu m 12 i 0) (xinc hv (by omega)) (by omega) (by omega) (tC_12 h (l := 0) (u := 5) (Or.inl ⟨by decide, by decide⟩) ⟨by decide, by decide⟩) (fun j hj => ?_)) (fun _ m' q => ⟨q.1, q.2.1, q.2.2.trans (funext fun j => xu_o (fun z => absurd z.1 (by decide)))⟩)
      by_cases e : j = i
      · rw [e, xu_s]
      · rw [xu_o (fun z => e z.2)]
        exact h0 j (by omega)
theorem vup_sw {x y : Int} {i j : Nat} (h : i ≠ j) : vup (vup s i x) j y = vup (vup s j y) i x := by
  funext a
  unfold vup
  by_cases z : a = j
  · rw [if_pos z, if_neg (by omega), if_pos z]
  · rw [if_neg z]
    by_cases z2 : a = i
    · rw [if_pos z2, if_pos z2]
    · rw [if_neg z2, if_neg z2, if_neg z]
theorem c71 (hF : 500 ≤ F) (h : tC m0 b n p bg 0 m) (hs : ∀ j, s j = 0) {a c : Int} {v1 v2 : Int32} (e1 : v1.toInt = a) (e2 : v2.toInt = c) (ha : 0 ≤ a ∧ a ≤ 6) : xP (D71_11 F v1 v2 m) (fun _ m' => (∃ bg, tC m0 b n p bg 0 m') ∧ vR (vdn (vup (vup s 1 c) 0 a)) (m'.1 12) ∧ vz (vup (vup s 1 c) 0 a)) := by
  unfold D71_11 D291_12
  refine xP_b (c291_5 F (i := 0) rfl (by omega) (by omega) h (fun j hj => absurd hj (Nat.not_lt_zero _))) (fun _ m1 q => ?_)
  obtain ⟨t1, z0, -⟩ := q
  have b2 := y32 v2
  refine xP_r ⟨⟨bg, tC_12 (tC_12 t1 (c := 0) (l := 0) (u := 6) (Or.inr (Or.inl ⟨Or.inl rfl, by decide, by decide⟩)) (by omega)) (c := 1) (l := -2147483648) (u := 2147483647) (Or.inr (Or.inr (Or.inr ⟨by decide, by decide, by decide⟩))) (by omega)⟩, ?_, ?_⟩
  · have R0 : vR (vdn s) (m1.1 12) := by
      have vs : ∀ j, ¬ (118 ≤ j ∧ j < 124) → vdn s j = 0 := fun j hj => (vdn_o hj).trans (hs j)
      refine ⟨fun j hj => ?_, fun t w ht hw => ?_, fun w k hw hk => ?_, fun w hw l => ?_, fun a d ha hd => ?_, fun a d ha hd => ?_⟩
      · rw [z0 _ (by omega), vs _ (by omega)]; rfl
      · rw [z0 _ (by omega), vs _ (by omega)]; rfl
      · rw [z0 _ (by omega), vs _ (by omega)]; rfl
      · rw [vs 3 (by decide)] at l
        omega
      · rw [z0 _ (by omega), vs _ (by omega)]
        have key : (List.range 6).all (fun d => tbt (0 : Int32) d == false) = true := by decide +kernel
        have := List.all_eq_true.mp key d (List.mem_range.mpr hd)
        rw [show tbt (0 : Int32) d = false by simpa using this]
        rfl
      · rw [z0 _ (by omega), vs _ (by omega)]; rfl
    have R1 := vR_sc (vR_sc R0 (j := 0) (by decide) (by decide) e1) (j := 1) (by decide) (by decide) e2
    rw [vup_sw (by decide), ← vdn_up (by decide), ← vdn_up (by decide)] at R1
    rw [xu_cup, xu_cup]
    exact R1
  · intro j h1 h2
    rw [vup_o (by omega), vup_o (by omega)]
    exact hs j
theorem i12 {t w : Nat} {A x y : Int32} {B : Nat} (hA : A.toInt = (B : Int)) (hB : B ≤ 1000) (ht : x.toInt = (t : Int)) (l : t ≤ 6) (hw : y.toInt = (w : Int)) (l2 : w ≤ 6) : ((A + 6 * y) + x).toInt = ((B + 6 * w + t : Nat) : Int) := ixH hA hB hw ht l2 l
theorem nci {x : Int32} {c : Nat} (hx : x.toInt = (c : Int)) : x.toNatClampNeg = c := by show x.toInt.toNat = c; omega
/-- setOfTool, setOfWork -/
theorem c88 {t w : Nat} {v1 v2 v3 : Int32} (h1 : v1.toInt = (t : Int)) (l1 : t < 6) (h2 : v2.toInt = (w : Int)) (l2 : w < 6) : xP (D88_11 F v1 v2 v3 m) (fun _ m' => m' = xu m 12 (6 + 6 * w + t) v3) := by
  have e := i12 (A := 6) (B := 6) rfl (by decide) h1 (by omega) h2 (by omega)
  unfold D88_11
  rw [nci e]
  exact xP_g (xib_t (by omega) (by omega)) (xP_r rfl)
theorem c90 {t w : Nat} {v1 v2 v3 : Int32} (h1 : v1.toInt = (t : Int)) (l1 : t < 6) (h2 : v2.toInt = (w : Int)) (l2 : w < 6) : xP (D90_11 F v1 v2 v3 m) (fun _ m' => m' = xu m 12 (42 + 6 * w + t) v3) := by
  have e := i12 (A := 42) (B := 42) rfl (by decide) h1 (by omega) h2 (by omega)
  unfold D90_11
  rw [nci e]
  exact xP_g (xib_t (by omega) (by omega)) (xP_r rfl)
/-- tellTool -/
theorem c72 (h : tC m0 b n p bg 0 m) (R : vR (vdn s) (m.1 12)) (z : vz s) {t : Nat} (ht : s 2 = (t : Int)) (t6 : t < 6) {a c d : Int} {v1 v2 v3 : Int32} (e1 : v1.toInt = a) (e2 : v2.toInt = c) (e3 : v3.toInt = d) (ha : 0 ≤ a ∧ a ≤ 5) : xP (D72_11 F v1 v2 v3 m) (fun _ m' => (∃ bg, tC m0 b n p bg 0 m') ∧ vR (vdn (vTool s t a c d)) (m'.1 12) ∧ vz (vTool s t a c d)) := by
  have h2 : (m.1 12 2).toInt = (t : Int) := (R.1 2 (by decide)).trans ((vdn_o (by decide)).trans ht)
  have b2 := y32 v2
  have b3 := y32 v3
  unfold D72_11 D79_11
  refine xP_b (R := fun v m' => v = m.1 12 2 ∧ m' = m) (xP_r ⟨rfl, rfl⟩) (fun v m' q => ?_)
  obtain ⟨rfl, rfl⟩ := q
  dsimp only
  refine xP_i (fun g => ?_) (fun _ => ?_)
  · have g : (6 : Int) ≤ (m'.1 12 2).toInt := zt g
    omega
  refine xP_b (c88 (w := 0) h2 t6 rfl (by decide)) (fun _ m1 q1 => ?_)
  refine xP_b (c88 (w := 1) h2 t6 rfl (by decide)) (fun _ m2 q2 => ?_)
  refine xP_b (c88 (w := 2) h2 t6 rfl (by decide)) (fun _ m3 q3 => ?_)
  refine xP_b (c88 (w := 3) h2 t6 rfl (by decide)) (fun _ m4 q4 => ?_)
  dsimp only at q1 q2 q3 q4 ⊢
  subst q1
  subst q2
  subst q3
  subst q4
  have et : (m'.1 12 2 + 1).toInt = (t : Int) + 1 := (xa1 (by show _ ≤ _ + (1 : Int); omega) (by show _ + (1 : Int) ≤ _; omega)).trans (by rw [h2]; rfl)
  have fre : ∀ {c : Nat}, (12 ≤ c ∧ c < 24) → b12 c (-2147483648) 2147483647 := fun {c} hc => Or.inr (Or.inr (Or.inr ⟨by omega, by decide, by decide⟩))
  have t1 := tC_12 h (c := 6 + 6 * 0 + t) (v := v1) (l := 0) (u := 5) (Or.inl ⟨by decide, by decide⟩) (by omega)
  have t2 := tC_12 t1 (c := 6 + 6 * 1 + t) (v := v2) (fre (by omega)) (by omega)
  have t3 := tC_12 t2 (c := 6 + 6 * 2 + t) (v := v3) (fre (by omega)) (by omega)
  have t4 := tC_12 t3 (c := 6 + 6 * 3 + t) (v := v1) (l := 0) (u := 5) (Or.inl ⟨by decide, by decide⟩) (by omega)
  have t5 := tC_12 t4 (c := 2) (v := m'.1 12 2 + 1) (l := 0) (u := 6) (Or.inr (Or.inl ⟨Or.inr (Or.inl rfl), by decide, by decide⟩)) (by omega)
  refine xP_r ⟨⟨bg, t5⟩, ?_, ?_⟩
  · have R1 := vR_tool R (t0 := t) (w0 := 0) t6 (by decide) e1
    have R2 := vR_tool R1 (t0 := t) (w0 := 1) t6 (by decide) e2
    have R3 := vR_tool R2 (t0 := t) (w0 := 2) t6 (by decide) e3
    have R4 := vR_tool R3 (t0 := t) (w0 := 3) t6 (by decide) e1
    have z4 : (vup (vup (vup (vup (vdn s) (10 + 6 * t + 0) a) (10 + 6 * t + 1) c) (10 + 6 * t + 2) d) (10 + 6 * t + 3) a) (10 + 6 * t + 4) = 0 := by
      rw [vup_o (by omega), vup_o (by omega), vup_o (by omega), vup_o (by omega), vdn_o (by omega)]
      exact z _ (by omega) (by omega)
    have z5 : (vup (vup (vup (vup (vdn s) (10 + 6 * t + 0) a) (10 + 6 * t + 1) c) (10 + 6 * t + 2) d) (10 + 6 * t + 3) a) (10 + 6 * t + 5) = 0 := by
      rw [vup_o (by omega), vup_o (by omega), vup_o (by omega), vup_o (by omega), vdn_o (by omega)]
      exact z _ (by omega) (by omega)
    have R5 := vR_sc R4 (j := 2) (by decide) (by decide) et
    unfold vTool
    rw [vdn_up (by omega), vdn_up (by omega), vdn_up (by omega), vdn_up (by omega), vdn_up (by omega), vdn_up (by omega), vdn_up (by omega)]
    rw [show 10 + 6 * t = 10 + 6 * t + 0 from rfl, vup_id _ _ z4, vup_id _ _ z5]
    rw [xu_cup, xu_cup, xu_cup, xu_cup, xu_cup]
    exact R5
  · intro j h1 h3
    unfold vTool at h1 ⊢
    rw [vup_s] at h1
    rw [vup_o (by omega), vup_o (by omega), vup_o (by omega), vup_o (by omega), vup_o (by omega), vup_o (by omega), vup_o (by omega)]
    exact z j (by omega) h3
/-- tellWork -/
theorem c73 (h : tC m0 b n p bg 0 m) (R : vR (vdn s) (m.1 12)) (z : vz s) {t : Nat} (ht : s 3 = (t : Int)) (t6 : t < 6) {a c d e : Int} {v1 v2 v3 v4 : Int32} (e1 : v1.toInt = a) (e2 : v2.toInt = c) (e3 : v3.toInt = d) (e4 : v4.toInt = e) (ha : 0 ≤ a ∧ a ≤ 5) : xP (D73_11 F v1 v2 v3 v4 m) (fun _ m' => (∃ bg, tC m0 b n p bg 0 m') ∧ vR (vdn (vWork s t a c d e)) (m'.1 12) ∧ vz (vWork s t a c d e)) := by
  have h2 : (m.1 12 3).toInt = (t : Int) := (R.1 3 (by decide)).trans ((vdn_o (by decide)).trans ht)
  have b2 := y32 v2
  have b3 := y32 v3
  have b4 := y32 v4
  unfold D73_11 D80_11
  refine xP_b (R := fun v m' => v = m.1 12 3 ∧ m' = m) (xP_r ⟨rfl, rfl⟩) (fun v m' q => ?_)
  obtain ⟨rfl, rfl⟩ := q
  dsimp only
  refine xP_i (fun g => ?_) (fun _ => ?_)
  · have g : (6 : Int) ≤ (m'.1 12 3).toInt := zt g
    omega
  refine xP_b (c90 (w := 0) h2 t6 rfl (by decide)) (fun _ m1 q1 => ?_)
  refine xP_b (c90 (w := 1) h2 t6 rfl (by decide)) (fun _ m2 q2 => ?_)
  refine xP_b (c90 (w := 2) h2 t6 rfl (by decide)) (fun _ m3 q3 => ?_)
  refine xP_b (c90 (w := 3) h2 t6 rfl (by decide)) (fun _ m4 q4 => ?_)
  refine xP_b (c90 (w := 4) h2 t6 rfl (by decide)) (fun _ m5 q5 => ?_)
  dsimp only at q1 q2 q3 q4 q5 ⊢
  subst q1
  subst q2
  subst q3
  subst q4
  subst q5
  have et : (m'.1 12 3 + 1).toInt = (t : Int) + 1 := (xa1 (by show _ ≤ _ + (1 : Int); omega) (by show _ + (1 : Int) ≤ _; omega)).trans (by rw [h2]; rfl)
  have fre : ∀ {c : Nat}, (48 ≤ c ∧ c < 72) → b12 c (-2147483648) 2147483647 := fun {c} hc => Or.inr (Or.inr (Or.inr ⟨by omega, by decide, by decide⟩))
  have t1 := tC_12 h (c := 42 + 6 * 0 + t) (v := v1) (l := 0) (u := 5) (Or.inl ⟨by decide, by decide⟩) (by omega)
  have t2 := tC_12 t1 (c := 42 + 6 * 1 + t) (v := v2) (fre (by omega)) (by omega)
  have t3 := tC_12 t2 (c := 42 + 6 * 2 + t) (v := v3) (fre (by omega)) (by omega)
  have t4 := tC_12 t3 (c := 42 + 6 * 3 + t) (v := v4) (fre (by omega)) (by omega)
  have t5 := tC_12 t4 (c := 42 + 6 * 4 + t) (v := -1) (fre (by omega)) (by decide)
  have t7 := tC_12 t5 (c := 3) (v := m'.1 12 3 + 1) (l := 0) (u := 6) (Or.inr (Or.inl ⟨Or.inr (Or.inr rfl), by decide, by decide⟩)) (by omega)
  refine xP_r ⟨⟨bg, t7⟩, ?_, ?_⟩
  · have R1 := vR_work R (w0 := t) (k0 := 0) t6 (by decide) e1
    have R2 := vR_work R1 (w0 := t) (k0 := 1) t6 (by decide) e2
    have R3 := vR_work R2 (w0 := t) (k0 := 2) t6 (by decide) e3
    have R4 := vR_work R3 (w0 := t) (k0 := 3) t6 (by decide) e4
    have z4 : (vup (vup (vup (vup (vdn s) (124 + 4 * t + 0) a) (124 + 4 * t + 1) c) (124 + 4 * t + 2) d) (124 + 4 * t + 3) e) (118 + t) = -1 := by
      rw [vup_o (by omega), vup_o (by omega), vup_o (by omega), vup_o (by omega)]
      exact if_pos (by omega)
    have R5 := vR_done R4 (w0 := t) (v := -1) (x := -1) t6 rfl
    rw [vup_id _ _ z4] at R5
    have z3 : (vup (vup (vup (vup (vdn s) (124 + 4 * t + 0) a) (124 + 4 * t + 1) c) (124 + 4 * t + 2) d) (124 + 4 * t + 3) e) 3 = (t : Int) := by
      rw [vup_o (by omega), vup_o (by omega), vup_o (by omega), vup_o (by omega), vdn_o (by omega)]
      exact ht
    have R6 := vR_nw R5 (w0 := t) z3 (by rw [cup_s, z4]; rfl) et
    unfold vWork
    rw [vdn_up (by omega), vdn_up (by omega), vdn_up (by omega), vdn_up (by omega), vdn_up (by omega)]
    rw [show 124 + 4 * t = 124 + 4 * t + 0 from rfl]
    rw [xu_cup, xu_cup, xu_cup, xu_cup, xu_cup, xu_cup, show 42 + 6 * 4 + t = 66 + t by omega]
    exact R6
  · intro j h1 h3
    unfold vWork at h1 ⊢
    rw [vup_o (by omega), vup_o (by omega), vup_o (by omega), vup_o (by omega), vup_o (by omega)] at h1 ⊢
    exact z j h1 h3
theorem or63 {x : Int32} {a : Nat} (h0 : 0 ≤ x.toInt) (h1 : x.toInt ≤ 63) (ha : a < 6) : 0 ≤ (x ||| ((1 : Int32) <<< (Int32.ofNat a &&& 31))).toInt ∧ (x ||| ((1 : Int32) <<< (Int32.ofNat a &&& 31))).toInt ≤ 63 := by
  have key : (List.range 64).all (fun x => (List.range 6).all (fun a => decide (0 ≤ (Int32.ofNat x ||| ((1 : Int32) <<< (Int32.ofNat a &&& 31))).toInt) && decide ((Int32.ofNat x ||| ((1 : Int32) <<< (Int32.ofNat a &&& 31))).toInt ≤ 63))) = true := by decide +kernel
  have e : x = Int32.ofNat x.toInt.toNat := i32n (by omega)
  have k1 := List.all_eq_true.mp (List.all_eq_true.mp key x.toInt.toNat (List.mem_range.mpr (by omega))) a (List.mem_range.mpr ha)
  rw [← e] at k1
  simpa using k1
/-- tellTrust -/
theorem c74 (h : tC m0 b n p bg 0 m) (R : vR (vdn s) (m.1 12)) (z : vz s) {a c : Int} {v1 v2 : Int32} (e1 : v1.toInt = a) (e2 : v2.toInt = c) (ha : 0 ≤ a ∧ a ≤ 5) (hc : 0 ≤ c ∧ c ≤ 5) : xP (D74_11 F v1 v2 m) (fun _ m' => (∃ bg, tC m0 b n p bg 0 m') ∧ vR (vdn (vup s (46 + 6 * a.toNat + c.toNat) 1)) (m'.1 12) ∧ vz (vup s (46 + 6 * a.toNat + c.toNat) 1)) := by
  have i : ((72 : Int32) + v1).toInt = ((72 + a.toNat : Nat) : Int) := ixp (c := 72) (e := a.toNat) rfl (by omega) (by omega)
  have ev : v2 = Int32.ofNat c.toNat := i32n (by omega)
  have e0 : xbn 12 (72 + a.toNat) = some (0, 63) := by
    have e : xbn 12 (72 + a.toNat) = some (yel 1 (72 + a.toNat)) := xbn_a (k := 0) (n := 114) (ec := 1) (by decide) rfl (by decide) (by omega)
    have e2 : yel 1 (72 + a.toNat) = if 72 + a.toNat = 0 ∨ 72 + a.toNat = 2 ∨ 72 + a.toNat = 3 then (0, 6) else if (6 ≤ 72 + a.toNat ∧ 72 + a.toNat < 12) ∨ (24 ≤ 72 + a.toNat ∧ 72 + a.toNat < 30) ∨ (42 ≤ 72 + a.toNat ∧ 72 + a.toNat < 48) then (0, 5) else if 72 ≤ 72 + a.toNat ∧ 72 + a.toNat < 78 then (0, 63) else (-2147483648, 2147483647) := rfl
    rw [e, e2, if_neg (by omega), if_neg (by omega), if_pos (by omega)]
  have bx := h.2.1.1 12 (72 + a.toNat) _ e0
  have bx0 : (0 : Int) ≤ (m.1 12 (72 + a.toNat)).toInt := bx.1
  have bx1 : (m.1 12 (72 + a.toNat)).toInt ≤ 63 := bx.2
  have l6 : c.toNat < 6 := by omega
  unfold D74_11
  rw [nci i]
  subst ev
  have o := or63 bx0 bx1 l6
  refine xP_g (xib_t (by omega) (by omega)) (xP_g (xib_t (by omega) (by omega)) (xP_r ⟨⟨bg, tC_12 h (c := 72 + a.toNat) (l := 0) (u := 63) (Or.inr (Or.inr (Or.inl ⟨by omega, by decide, by decide⟩))) o⟩, ?_, ?_⟩))
  · have R1 := vR_tru R (a0 := a.toNat) (d0 := c.toNat) (y := true) (v := (m.1 12 (72 + a.toNat)) ||| ((1 : Int32) <<< (Int32.ofNat c.toNat &&& 31))) (by omega) l6 (by rw [tb_or, tb_one l6 l6, decide_eq_true rfl, Bool.or_true]) (fun d hd ne => by rw [tb_or, tb_one l6 hd, decide_eq_false ne, Bool.or_false])
    rw [vdn_up (by omega), xu_cup]
    exact R1
  · intro j h1 h3
    rw [vup_o (by omega)] at h1
    rw [vup_o (by omega)]
    exact z j h1 h3
/-- tellThanks -/
theorem c75 (h : tC m0 b n p bg 0 m) (R : vR (vdn s) (m.1 12)) (z : vz s) {a c d : Int} {v1 v2 v3 : Int32} (e1 : v1.toInt = a) (e2 : v2.toInt = c) (e3 : v3.toInt = d) (ha : 0 ≤ a ∧ a ≤ 5) (hc : 0 ≤ c ∧ c ≤ 5) : xP (D75_11 F v1 v2 v3 m) (fun _ m' => (∃ bg, tC m0 b n p bg 0 m') ∧ vR (vdn (vup s (82 + 6 * a.toNat + c.toNat) d)) (m'.1 12) ∧ vz (vup s (82 + 6 * a.toNat + c.toNat) d)) := by
  have i := ixH (A := 78) (B := 78) (x := v1) (y := v2) (a := a.toNat) (c := c.toNat) rfl (by decide) (by omega) (by omega) (by omega) (by omega)
  have b3 := y32 v3
  unfold D75_11
  rw [nci i]
  refine xP_g (xib_t (by omega) (by omega)) (xP_r ⟨⟨bg, tC_12 h (c := 78 + 6 * a.toNat + c.toNat) (l := -2147483648) (u := 2147483647) (Or.inr (Or.inr (Or.inr ⟨by omega, by decide, by decide⟩))) (by omega)⟩, ?_, ?_⟩)
  · have R1 := vR_thx R (a0 := a.toNat) (d0 := c.toNat) (v := v3) (by omega) (by omega) e3
    rw [vdn_up (by omega), xu_cup]
    exact R1
  · intro j h1 h3
    rw [vup_o (by omega)] at h1
    rw [vup_o (by omega)]
    exact z j h1 h3
theorem tC_ft (h : tC m0 b n p bg ft m) (e : ft = 0) : tC m0 b n p bg 0 m := e ▸ h
/-- readClause -/
theorem c117 (hF : 500 ≤ F) (h : tC m0 b n p bg 0 m) (ok : vOk s k) (hz : k = 0 → ∀ j, s j = 0) (R : 0 < k → vR (vdn s) (m.1 12) ∧ vz s) {v3 : Int32} (hk : v3.toInt = (k : Int)) : xP (D117_4_2_11 F v3 m) (fun _ m' => cQ m0 b n (vcl b n k p s) m') := by
  obtain ⟨o1, o2, o3, o4⟩ := ok
  unfold D117_4_2_11
  refine xP_b (cWord hF h) (fun r m1 q => ?_)
  obtain ⟨f1, q⟩ := q
  have r12 := kM12 f1
  dsimp only
  rcases q with ⟨u, hu, er, t1⟩ | ⟨hu, er, t1⟩
  rotate_left
  · refine xP_i (fun c => ?_) (fun _ => xP_r ?_)
    · have c : r.toInt ≠ -1 := zt c
      exact absurd er c
    · have vc : vcl b n k p s = .inl (1 + 8 * (tsk b n p : Int)) := by
        unfold vcl
        rw [hu]
      rw [vc]
      exact ⟨by omega, _, _, t1⟩
  have u5 : u < 5 := by rcases tcls_c hu with c | c | c | c | c <;> omega
  have R1 : 0 < k → vR (vdn s) (m1.1 12) := fun k0 => by rw [r12]; exact (R k0).1
  refine xP_i (fun _ => ?_) (fun c => ?_)
  rotate_left
  · have c : r.toInt = -1 := Decidable.not_not.mp (zf c)
    omega
  refine xP_b (c118 (s := s) (k := k) er hk (fun k0 => ⟨((R1 k0).1 2 (by decide)).trans (vdn_o (by decide)), ((R1 k0).1 3 (by decide)).trans (vdn_o (by decide))⟩)) (fun r2 m2 q2 => ?_)
  obtain ⟨rfl, q2⟩ := q2
  have vc : vcl b n k p s = if vmay s k u = true then vbod b n (tS tlt b n (tsk b n p)) s u else .inl (1 + 8 * (tsk b n p : Int) + 4) := by
    unfold vcl
    rw [hu]
  have n4 := t1.1.2.1
  have g1 : tsk b n p ≤ n := tS_le _ h.2.2.1.2
  dsimp only
  rcases q2 with ⟨rfl, hm⟩ | ⟨rfl, hm⟩
  rotate_left
  · refine xP_i (fun c => absurd c (by decide)) (fun _ => ?_)
    refine xP_b (cRef t1 (c := 4) (x := 4) t1.2.2.2.1 (by omega) rfl (by decide) (by decide)) (fun _ m3 q3 => xP_r ?_)
    rw [vc, hm]
    exact ⟨by omega, _, _, q3.2⟩
  refine xP_i (fun _ => ?_) (fun c => absurd c (by decide))
  rw [vc, if_pos hm]
  have mm := vmay_iff.mp hm
  unfold D77_11
  refine xP_b (R := fun v m' => v = m2.1 12 0 ∧ m' = m2) (xP_r ⟨rfl, rfl⟩) (fun v m' q => ?_)
  obtain ⟨rfl, rfl⟩ := q
  dsimp only
  -- behind the numbers
  have fin : ∀ {w : Int32} {m3 : xS} {o : Int ⊕ vSt}, ((∃ g, o = .inl g ∧ g ≠ 0 ∧ (∃ p' bg', tC m0 b n p' bg' g m3)) ∨ ((∃ bg' p', tC m0 b n p' bg' 0 m3) ∧ xP (D120_4_11 F w m3) (fun _ m4 => cQ m0 b n o m4))) → xP ((D51_2 F m3).bind fun q47 => if zcmp .eq q47.1 0 = true then some ((), q47.2) else (D120_4_11 F w q47.2).bind fun q57 => some ((), q57.2)) (fun _ m4 => cQ m0 b n o m4) := by
    intro w m3 o ho
    rcases ho with ⟨g, rfl, g0, p', bg', t3⟩ | ⟨⟨bg', p', t3⟩, ho⟩
    · refine xP_b (cSnd t3) (fun r m4 q4 => ?_)
      obtain ⟨rfl, q4⟩ := q4
      rcases q4 with ⟨-, q4⟩ | ⟨rfl, -⟩
      · exact absurd q4 g0
      · dsimp only
        exact xP_i (fun _ => xP_r ⟨g0, _, _, t3⟩) (fun c => absurd c (by decide))
    · refine xP_b (cSnd t3) (fun r m4 q4 => ?_)
      obtain ⟨rfl, q4⟩ := q4
      rcases q4 with ⟨rfl, -⟩ | ⟨-, q4⟩
      · dsimp only
        refine xP_i (fun c => absurd c (by decide)) (fun _ => xP_b ho (fun _ m5 q5 => xP_r q5))
      · exact absurd rfl q4
  have cs := tcls_c hu
  have hh : 0 < k → (m'.1 12 0).toInt = s 0 := fun k0 => ((R1 k0).1 0 (by decide)).trans (vdn_o (by decide))
  rcases cs with ⟨rfl, -⟩ | ⟨rfl, -⟩ | ⟨rfl, -⟩ | ⟨rfl, -⟩ | ⟨rfl, -⟩
  · -- village
    obtain rfl : r = 0 := Int32.toInt_inj.mp er
    have k0 : k = 0 := by rcases mm with mm | mm <;> omega
    refine xP_b (cN_0 (s := s) hF t1) (fun _ m3 q3 => fin ?_)
    rcases q3 with ⟨g, g1, g0, g2, -⟩ | ⟨xa, xb, e, g1, g2, g3, ⟨bg', t3⟩, -⟩
    · exact Or.inl ⟨g, g1, g0, g2⟩
    · refine Or.inr ⟨⟨_, _, t3⟩, ?_⟩
      rw [g1]
      unfold D120_4_11
      refine xP_i (fun _ => ?_) (fun c => absurd c (by decide))
      exact xP_b (c71 hF t3 (hz k0) g3.1 g3.2 (by omega)) (fun _ m4 q4 => xP_r q4)
  · -- tool
    obtain rfl : r = 1 := Int32.toInt_inj.mp er
    have k0 : 0 < k := by rcases mm with mm | mm <;> omega
    have s06 := o2 k0
    have zz := (R k0).2
    obtain ⟨t, ht⟩ : ∃ t : Nat, s 2 = (t : Int) := ⟨(s 2).toNat, by omega⟩
    have t6 : t < 6 := by rcases mm with mm | mm <;> omega
    refine xP_b (cN_1 hF t1 (hh k0) (by omega) (by omega)) (fun _ m3 q3 => fin ?_)
    rcases q3 with ⟨g, g1, g0, g2, -⟩ | ⟨xa, xb, xc, e, g1, g2, g3, ⟨bg', t3⟩, g4⟩
    · exact Or.inl ⟨g, g1, g0, g2⟩
    · refine Or.inr ⟨⟨_, _, t3⟩, ?_⟩
      rw [g1, show (s 2).toNat = t by omega]
      unfold D120_4_11
      refine xP_i (fun c => absurd c (by decide)) (fun _ => xP_i (fun _ => ?_) (fun c => absurd c (by decide)))
      exact xP_b (c72 t3 (by rw [g4]; exact R1 k0) zz ht t6 g3.1 g3.2.1 g3.2.2 (by omega)) (fun _ m4 q4 => xP_r q4)
  · -- trust
    obtain rfl : r = 2 := Int32.toInt_inj.mp er
    have k0 : 0 < k := by rcases mm with mm | mm <;> omega
    have s06 := o2 k0
    have zz := (R k0).2
    refine xP_b (cN_2 hF t1 (hh k0) (by omega) (by omega)) (fun _ m3 q3 => fin ?_)
    rcases q3 with ⟨g, g1, g0, g2, -⟩ | ⟨xa, xb, e, g1, g2, g3, ⟨bg', t3⟩, g4⟩
    · exact Or.inl ⟨g, g1, g0, g2⟩
    · refine Or.inr ⟨⟨_, _, t3⟩, ?_⟩
      rw [g1]
      unfold D120_4_11
      refine xP_i (fun c => absurd c (by decide)) (fun _ => xP_i (fun c => absurd c (by decide)) (fun _ => xP_i (fun _ => ?_) (fun c => absurd c (by decide))))
      exact xP_b (c74 t3 (by rw [g4]; exact R1 k0) zz g3.1 g3.2 (by omega) (by omega)) (fun _ m4 q4 => xP_r q4)
  · -- work
    obtain rfl : r = 3 := Int32.toInt_inj.mp er
    have k0 : 0 < k := by rcases mm with mm | mm <;> omega
    have s06 := o2 k0
    have zz := (R k0).2
    obtain ⟨t, ht⟩ : ∃ t : Nat, s 3 = (t : Int) := ⟨(s 3).toNat, by omega⟩
    have t6 : t < 6 := by rcases mm with mm | mm <;> omega
    refine xP_b (cN_3 hF t1 (hh k0) (by omega) (by omega)) (fun _ m3 q3 => fin ?_)
    rcases q3 with ⟨g, g1, g0, g2, -⟩ | ⟨xa, xb, xc, xd, e, g1, g2, g3, ⟨bg', t3⟩, g4⟩
    · exact Or.inl ⟨g, g1, g0, g2⟩
    · refine Or.inr ⟨⟨_, _, t3⟩, ?_⟩
      rw [g1, show (s 3).toNat = t by omega]
      unfold D120_4_11
      refine xP_i (fun c => absurd c (by decide)) (fun _ => xP_i (fun c => absurd c (by decide)) (fun _ => xP_i (fun c => absurd c (by decide)) (fun _ => xP_i (fun _ => ?_) (fun c => absurd c (by decide)))))
      exact xP_b (c73 t3 (by rw [g4]; exact R1 k0) zz ht t6 g3.1 g3.2.1 g3.2.2.1 g3.2.2.2 (by omega)) (fun _ m4 q4 => xP_r q4)
  · -- thanks
    obtain rfl : r = 4 := Int32.toInt_inj.mp er
    have k0 : 0 < k := by rcases mm with mm | mm <;> omega
    have s06 := o2 k0
    have zz := (R k0).2
    refine xP_b (cN_4 hF t1 (hh k0) (by omega) (by omega)) (fun _ m3 q3 => fin ?_)
    rcases q3 with ⟨g, g1, g0, g2, -⟩ | ⟨xa, xb, xc, e, g1, g2, g3, ⟨bg', t3⟩, g4⟩
    · exact Or.inl ⟨g, g1, g0, g2⟩
    · refine Or.inr ⟨⟨_, _, t3⟩, ?_⟩
      rw [g1]
      unfold D120_4_11
      refine xP_i (fun c => absurd c (by decide)) (fun _ => xP_i (fun c => absurd c (by decide)) (fun _ => xP_i (fun c => absurd c (by decide)) (fun _ => xP_i (fun c => absurd c (by decide)) (fun _ => ?_))))
      exact xP_b (c75 t3 (by rw [g4]; exact R1 k0) zz g3.1 g3.2.1 g3.2.2 (by omega) (by omega)) (fun _ m4 q4 => xP_r q4)
def cW (m0 : xS) (o : Int ⊕ (Nat → Int)) (m : xS) : Prop := (xT m ∧ xfr cM m0 m) ∧ (match o with
  | .inl g => g ≠ 0 ∧ (m.1 2 4).toInt = g
  | .inr s => (m.1 2 4).toInt = 0 ∧ vR (vdn s) (m.1 12))
/-- the loop over clauses -/
theorem c116_2 (hF : 500 ≤ F) : ∀ (g f : Nat) {k p bg : Nat} {s : Nat → Int} {v3 : Int32} {m : xS}, g ≤ f → k + g = 41 → vOk s k → (k = 0 → ∀ j, s j = 0) → (0 < k → vR (vdn s) (m.1 12) ∧ vz s) → tC m0 b n p bg 0 m → v3.toInt = (k : Int) → k ≤ 40 → xP (D116_4_2_11_2 F (f + 1) v3 m) (fun _ m' => cW m0 (vrun b n (g + 1) k p s) m') := by
  intro g
  induction g with
  | zero => intro f k p bg s v3 m _ hk _ _ _ _ _ k40; omega
  | succ g ih =>
    intro f k p bg s v3 m hf hk ok hz R h hv k40
    have nx : vrun b n (g + 1 + 1) k p s = (match vcl b n k p s with
      | .inl g => .inl g
      | .inr q => if tsg b n (tsk b n q.1) = 59 then vrun b n (g + 1) (k + 1) (tsk b n q.1 + 1) q.2 else if tsg b n (tsk b n q.1) = -1 then .inr q.2 else .inl (1 + 8 * (tsk b n q.1 : Int))) := rfl
    rw [nx]
    unfold D116_4_2_11_2
    refine xP_i (fun c => ?_) (fun _ => ?_)
    · have c : (40 : Int) < v3.toInt := zt c
      omega
    refine xP_b (c117 hF h ok hz R hv) (fun _ m1 q1 => ?_)
    dsimp only
    cases hc : vcl b n k p s with
    | inl x =>
      rw [hc] at q1
      obtain ⟨x0, p', bg', t1⟩ := q1
      unfold D61_2 D61_2_40
      refine xP_b (R := fun r m' => m' = m1 ∧ r = 0) ?_ (fun r m2 q2 => ?_)
      · refine xP_b (cSnd t1) (fun r m2 q2 => ?_)
        obtain ⟨rfl, q2⟩ := q2
        rcases q2 with ⟨-, q2⟩ | ⟨rfl, -⟩
        · exact absurd q2 x0
        · dsimp only
          exact xP_i (fun c => absurd c (by decide)) (fun _ => xP_r ⟨rfl, rfl⟩)
      · obtain ⟨rfl, rfl⟩ := q2
        dsimp only
        exact xP_i (fun c => absurd c (by decide)) (fun _ => xP_r ⟨t1.2.1, x0, t1.2.2.2.2⟩)
    | inr q =>
      obtain ⟨e, s'⟩ := q
      obtain ⟨ok', en, k41⟩ := vcl_ok ok h.2.2.1.2 hc
      rw [hc] at q1
      obtain ⟨⟨bg', t1⟩, R1, z1⟩ := q1
      dsimp only at t1 R1 z1 ⊢
      obtain ⟨out, wait, cl, kk, dp, br, ex, wh, hk2⟩ := tC_k t1
      refine xP_b (P61 hF t1.1 hk2) (fun r m2 q2 => ?_)
      dsimp only
      rcases q2 with ⟨c1, rfl, q2⟩ | ⟨c1, c2, rfl, q2⟩ | ⟨c1, c2, rfl, q2⟩
      · obtain ⟨t2, f2⟩ := tC_of t1 q2
        rw [if_pos c1]
        refine xP_i (fun _ => ?_) (fun c => absurd c (by decide))
        obtain ⟨f', rfl⟩ : ∃ f', f = f' + 1 := ⟨f - 1, by omega⟩
        exact ih f' (by omega) (by omega) ok' (fun z => absurd z (by omega)) (fun _ => ⟨by rw [kM12 f2]; exact R1, z1⟩) t2 (xinc hv (by omega)) (by omega)
      · obtain ⟨t2, f2⟩ := tC_of t1 q2
        rw [if_neg c1, if_pos c2]
        exact xP_i (fun c => absurd c (by decide)) (fun _ => xP_r ⟨t2.2.1, t2.2.2.2.2, by rw [kM12 f2]; exact R1⟩)
      · obtain ⟨t2, f2⟩ := tC_of t1 q2
        rw [if_neg c1, if_neg c2]
        exact xP_i (fun c => absurd c (by decide)) (fun _ => xP_r ⟨t2.2.1, by omega, t2.2.2.2.2⟩)
/-- readInto -/
theorem c116 (hF : 500 ≤ F) (h : tC m0 b n 0 bg 0 m) : xP (D116_4_2_11 F m) (fun _ m' => cW m0 (vrun b n 42 0 0 (fun _ => 0)) m') := by
  unfold D116_4_2_11
  obtain ⟨f', hf⟩ : ∃ f', F = f' + 1 := ⟨F - 1, by omega⟩
  have z := c116_2 (b := b) (n := n) (F := F) hF 41 f' (v3 := 0) (m := m) (by omega) rfl (s := fun _ => 0) (k := 0) (p := 0) (bg := bg) ⟨fun _ => rfl, fun z => absurd z (by decide), by decide, by decide⟩ (fun _ _ => rfl) (fun z => absurd z (by decide)) h rfl (by decide)
  rw [← hf] at z
  exact z
end VCT
end
section
/-! Rules for printed bodies: rows of rows, copies of rows, longs in fields. -/
def xcp (m : xS) (d s n : Nat) : xS := (fun a b => if a = d ∧ b < n then m.1 s b else m.1 a b, m.2)
theorem xcp_o {m : xS} {d s n a : Nat} (h : a ≠ d) : (xcp m d s n).1 a = m.1 a := funext fun b => by
  unfold xcp
  exact if_neg (fun z => h z.1)
theorem xcp_s {m : xS} {d s n j : Nat} (h : j < n) : (xcp m d s n).1 d j = m.1 s j := by
  unfold xcp
  exact if_pos ⟨rfl, h⟩
def xtlf (ix a b : Nat) : Bool := decide (ix < 88) && ((yty ix).1 == 0 && ((yty ix).2.1 == a && (match (yty ix).2.2.2.2[b]? with
  | some t => t.1 == 1
  | none => false)))
theorem xibS {e : Int32} {n b : Nat} (h : xib e n = true) : b ≤ b + e.toNatClampNeg ∧ b + e.toNatClampNeg < b + n := by
  have h := of_decide_eq_true h
  omega
theorem xtS16_20 {r : Nat} (h : 16 ≤ r ∧ r < 36) : xta r 0 114 = true := by
  have key : (List.range 20).all (fun i => xta (16 + i) 0 114) = true := by decide +kernel
  have := List.all_eq_true.mp key (r - 16) (List.mem_range.mpr (by omega))
  rw [show 16 + (r - 16) = r by omega] at this
  exact this
theorem xtS37_4 {r : Nat} (h : 37 ≤ r ∧ r < 41) : xta r 0 114 = true := by
  have key : (List.range 4).all (fun i => xta (37 + i) 0 114) = true := by decide +kernel
  have := List.all_eq_true.mp key (r - 37) (List.mem_range.mpr (by omega))
  rw [show 37 + (r - 37) = r by omega] at this
  exact this
theorem xtS60_7 {r : Nat} (h : 60 ≤ r ∧ r < 67) : xta r 0 64 = true := by
  have key : (List.range 7).all (fun i => xta (60 + i) 0 64) = true := by decide +kernel
  have := List.all_eq_true.mp key (r - 60) (List.mem_range.mpr (by omega))
  rw [show 60 + (r - 60) = r by omega] at this
  exact this
section XRU3
variable {B : zHp} {s : xS} {ev : zEv} {d nL : Nat} {rt : Option FieldType} {cd : List (Option zEn)} {r : zRe} {q : zEn} {pc : Nat} {lv : List (Nat × Value)} {st : List Value} {hp : zHp}
theorem xtlf_ok (H : yH0 B) {ix a b : Nat} (h : xtlf ix a b = true) : ix < B.1 ∧ ix < zSC ∧ ∃ (fs : List Value) (x : Int64), B.2 ix = .inr (a, fs) ∧ fs[b]? = some (.long x) := by
  unfold xtlf at h
  simp only [Bool.and_eq_true, decide_eq_true_eq, beq_iff_eq] at h
  obtain ⟨h1, h2, h3, h4⟩ := h
  have l1 : ix < B.1 := Nat.lt_of_lt_of_le h1 H.1
  have c := H.2.2 ix l1
  unfold yokc at c
  rw [h2] at c
  obtain ⟨fs, e1, -, e3⟩ := c
  rw [h3] at e1
  split at h4
  · next t ht =>
    obtain ⟨v, v1, v2⟩ := e3 b t ht
    have h4 : t.1 = 1 := by simpa using h4
    unfold yft at v2
    rw [h4] at v2
    obtain ⟨x, rfl, -⟩ := v2
    exact ⟨l1, Nat.lt_trans h1 (by decide), fs, x, e1, v1⟩
  · cases h4
theorem xf_l {ix b : Nat} {fs : List Value} {x : Int64} (e : fs[b]? = some (.long x)) : (fs.mapIdx (xfv s ix))[b]? = some (.long (s.2 ix b)) := by
  rw [List.getElem?_mapIdx, e]
  rfl
theorem r_gl {i len a b ix : Nat} {rest : List Value} {v0 : Value} {v : Int64} (H : yH0 B) (hq : zg cd pc = some (.getfield i, len, a, b, v0)) (ha : ¬ a = 100) (ht : xtlf ix a b = true) (hv : s.2 ix b = v) (K : zR ev d nL rt cd (pc + 3, lv, .long v :: rest) (xW B s) r) : zR ev d nL rt cd (pc, lv, .ref ix :: rest) (xW B s) r := by
  obtain ⟨h1, h2, fs, x, h3, h4⟩ := xtlf_ok H ht
  subst hv
  exact r_get hq ha ⟨h1, h2⟩ (xW_o h3) (xf_l h4) K
theorem xW_putl {ix a b : Nat} {fs : List Value} {x v : Int64} (e : B.2 ix = .inr (a, fs)) (e2 : fs[b]? = some (.long x)) : ((xW B s).1, zup (xW B s).2 ix (.inr (a, (fs.mapIdx (xfv s ix)).set b (.long v)))) = xW B (xul s ix b v) := by
  refine Prod.ext rfl (funext fun i => ?_)
  show (if i = ix then _ else xcl s i (B.2 i)) = xcl (xul s ix b v) i (B.2 i)
  by_cases h : i = ix
  · subst h
    rw [if_pos rfl, e]
    show _ = Sum.inr (a, fs.mapIdx (xfv (xul s i b v) i))
    refine congrArg (fun z => Sum.inr (a, z)) (List.ext_getElem? fun j => ?_)
    rw [List.getElem?_set, List.getElem?_mapIdx, List.getElem?_mapIdx, List.length_mapIdx]
    by_cases hj : b = j
    · subst hj
      have hl : b < fs.length := (List.getElem?_eq_some_iff.mp e2).1
      rw [if_pos rfl, if_pos hl, e2]
      show some (Value.long v) = some (Value.long ((xul s i b v).2 i b))
      unfold xul
      dsimp only
      rw [if_pos ⟨rfl, rfl⟩]
    · rw [if_neg hj]
      cases fs[j]? with
      | none => rfl
      | some w =>
        show some (xfv s i j w) = some (xfv (xul s i b v) i j w)
        unfold xfv
        split
        · rfl
        · unfold xul
          dsimp only
          rw [if_neg (fun z => hj z.2.symm)]
        · rfl
  · rw [if_neg h]
    have e3 : ∀ j, (xul s ix b v).2 i j = s.2 i j := fun j => if_neg (fun z => h z.1)
    unfold xcl
    split
    · refine congrArg (fun z => Sum.inr (_, z)) (List.ext_getElem? fun j => ?_)
      rw [List.getElem?_mapIdx, List.getElem?_mapIdx]
      congr 1
      funext w
      unfold xfv
      split
      · rfl
      · rw [e3]
      · rfl
    · rfl
    · rw [show (xul s ix b v).2 i = s.2 i from funext e3]
    · rfl
theorem r_pl {i len a b ix : Nat} {rest : List Value} {v0 : Value} {v : Int64} {s2 : xS} (H : yH0 B) (hq : zg cd pc = some (.putfield i, len, a, b, v0)) (ht : xtlf ix a b = true) (hf : zfit (ztyp a b) (.long v) = true) (e : xul s ix b v = s2) (K : zR ev d nL rt cd (pc + 3, lv, rest) (xW B s2) r) : zR ev d nL rt cd (pc, lv, .long v :: .ref ix :: rest) (xW B s) r := by
  obtain ⟨h1, h2, fs, x, h3, h4⟩ := xtlf_ok H ht
  subst e
  refine r_put hq ⟨h1, h2, hf⟩ (xW_o h3) ?_ ?_
  · rw [List.length_mapIdx]
    exact (List.getElem?_eq_some_iff.mp h4).1
  · rw [xW_putl h3 h4]
    exact K
theorem q_bs2 {len a b ix n : Nat} {rest : List Value} {v0 : Value} {e v : Int32} {s2 : xS} (H : yH0 B) (hq : zg cd pc = some (.bastore, len, a, b, v0)) (ht : xta ix 2 n = true) (hj : xib e n = true) (e2 : xu s ix e.toNatClampNeg (vp_nar .boolean v) = s2) (K : zR ev d nL rt cd (pc + 1, lv, rest) (xW B s2) r) : zR ev d nL rt cd (pc, lv, .int v :: .int e :: .ref ix :: rest) (xW B s) r := by
  obtain ⟨h1, h2, -, f, h3⟩ := xta_ok H ht
  subst e2
  refine r_s (fr' := (pc + 1, lv, rest)) (hp' := xW B (xu s ix e.toNatClampNeg (vp_nar .boolean v))) hq (fun call => ?_) (Nat.le_refl _) K
  show zBast (pc, lv, .int v :: .int e :: .ref ix :: rest) (xW B s) = _
  unfold zBast zn
  dsimp only
  rw [if_pos (show ix < (xW B s).1 ∧ ix < zSC from ⟨h1, h2⟩), xW_a h3]
  show (if ¬ (e < 0 ∨ n ≤ e.toNatClampNeg) then some (Sum.inl ((pc + 1, lv, rest), (((xW B s).1, zup (xW B s).2 ix (.inl (2, n, .inl (upd (s.1 ix) e.toNatClampNeg (vp_nar .boolean v))))) : zHp))) else none) = _
  rw [if_pos (of_decide_eq_true hj), xW_st h3]
theorem q_aal {len a b0 ix n b : Nat} {rest : List Value} {v0 : Value} {e : Int32} (H : yH0 B) (hq : zg cd pc = some (.aaload, len, a, b0, v0)) (ht : yty ix = (1, 5, n, b, []) ∧ ix < 88) (hj : xib e n = true) (K : zR ev d nL rt cd (pc + 1, lv, .ref (b + e.toNatClampNeg) :: rest) (xW B s) r) : zR ev d nL rt cd (pc, lv, .int e :: .ref ix :: rest) (xW B s) r := by
  have l1 : ix < B.1 := Nat.lt_of_lt_of_le ht.2 H.1
  have c := H.2.2 ix l1
  rw [ht.1] at c
  have c : ∃ f : Nat → Option Nat, B.2 ix = .inl (5, n, .inr (.inr (.inr (.inr f)))) ∧ ∀ j, j < n → f j = some (b + j) := c
  obtain ⟨f, e1, e2⟩ := c
  have hj' := of_decide_eq_true hj
  have w : (xW B s).2 ix = .inl (5, n, .inr (.inr (.inr (.inr f)))) := by
    show xcl s ix (B.2 ix) = _
    rw [e1]
    rfl
  refine r_s hq (fun call => ?_) (Nat.le_refl _) K
  show zAald (pc, lv, .int e :: .ref ix :: rest) (xW B s) = _
  unfold zAald zn
  dsimp only
  rw [if_pos (show ix < (xW B s).1 ∧ ix < zSC from ⟨l1, Nat.lt_trans ht.2 (by decide)⟩), w]
  show (if ¬ (e < 0 ∨ n ≤ e.toNatClampNeg) then zn (pc + 1) lv (va_rf (f e.toNatClampNeg) :: rest) (xW B s) else none) = _
  rw [if_pos hj', e2 _ (by omega)]
  rfl
theorem q_cpy {i len a x y n n0 n1 : Nat} {rest : List Value} {v0 : Value} {N : Int32} (H : yH0 B) (hq : zg cd pc = some (.invokestatic i, len, a, 0, v0)) (hs : xta y 0 n0 = true) (hd : xta x 0 n1 = true) (l0 : n ≤ n0) (l1 : n ≤ n1) (ne : x ≠ y) (hsm : (rest.map fun v => v.category).sum ≤ 8) (K : zR ev d nL rt cd (pc + 3, lv, rest) (xW B (xcp s x y n)) r) (hN : N = Int32.ofNat n := by rfl) (hn : n < 2000 := by decide) : zR ev d nL rt cd (pc, lv, .int N :: .int 0 :: .ref x :: .int 0 :: .ref y :: rest) (xW B s) r := by
  obtain ⟨a1, a2, -, f, e1⟩ := xta_ok H hs
  obtain ⟨b1, b2, -, g, e2⟩ := xta_ok H hd
  subst hN
  have nn : (Int32.ofNat n).toNatClampNeg = n := by
    show (Int32.ofNat n).toInt.toNat = n
    rw [xI (by omega)]
    omega
  have n0' : ¬ Int32.ofNat n < 0 := fun z => by
    have z : (Int32.ofNat n).toInt < (0 : Int) := Int32.lt_iff_toInt_lt.mp z
    rw [xI (by omega)] at z
    omega
  have hk : ((xW B s).1, zup (xW B s).2 x (.inl (0, n1, .inl (va_cpy (s.1 y) (s.1 x) 0 0 n)))) = xW B (xcp s x y n) := by
    refine Prod.ext rfl (funext fun j => ?_)
    show (if j = x then _ else xcl s j (B.2 j)) = xcl (xcp s x y n) j (B.2 j)
    by_cases h : j = x
    · subst h
      rw [if_pos rfl, e2]
      show _ = Sum.inl (0, n1, Sum.inl ((xcp s j y n).1 j))
      have : va_cpy (s.1 y) (s.1 j) 0 0 n = (xcp s j y n).1 j := by
        funext k
        unfold va_cpy xcp
        dsimp only
        by_cases hk : k < n
        · rw [if_pos ⟨Nat.zero_le _, by omega⟩, if_pos ⟨rfl, hk⟩]
          show s.1 y (0 + (k - 0)) = s.1 y k
          rw [Nat.zero_add, Nat.sub_zero]
        · rw [if_neg (fun z => hk (by omega)), if_neg (fun z => hk z.2)]
      rw [this]
    · rw [if_neg h]
      have e3 : ∀ k, (xcp s x y n).1 j k = s.1 j k := fun k => if_neg (fun z => h z.1)
      unfold xcl
      split
      · refine congrArg (fun z => Sum.inr (_, z)) (List.ext_getElem? fun k => ?_)
        rw [List.getElem?_mapIdx, List.getElem?_mapIdx]
        congr 1
        funext w
        unfold xfv
        split
        · rw [e3]
        · rfl
        · rfl
      · rw [show (xcp s x y n).1 j = s.1 j from funext e3]
      · rfl
      · rfl
  refine r_s (fr' := (pc + 3, lv, rest)) (hp' := xW B (xcp s x y n)) hq (fun call => ?_) (Nat.le_refl _) K
  show zCpy (pc, lv, .int (Int32.ofNat n) :: .int 0 :: .ref x :: .int 0 :: .ref y :: rest) (xW B s) = _
  unfold zCpy zn
  dsimp only
  rw [if_pos (show y < (xW B s).1 ∧ y < zSC ∧ x < (xW B s).1 ∧ x < zSC ∧ y ≠ x ∧ ¬ (0 : Int32) < 0 ∧ ¬ (0 : Int32) < 0 ∧ ¬ Int32.ofNat n < 0 from ⟨a1, a2, b1, b2, fun z => ne z.symm, by decide, by decide, n0'⟩), xW_a e1, xW_a e2]
  rw [nn]
  show (if (0 : Int32).toNatClampNeg + n ≤ n0 ∧ (0 : Int32).toNatClampNeg + n ≤ n1 ∧ (rest.map fun v => v.category).sum ≤ 8 then some (Sum.inl ((pc + 3, lv, rest), (((xW B s).1, zup (xW B s).2 x (.inl (0, n1, .inl (va_cpy (s.1 y) (s.1 x) (0 : Int32).toNatClampNeg (0 : Int32).toNatClampNeg n)))) : zHp))) else none) = _
  rw [if_pos (show (0 : Int32).toNatClampNeg + n ≤ n0 ∧ (0 : Int32).toNatClampNeg + n ≤ n1 ∧ (rest.map fun v => v.category).sum ≤ 8 from ⟨by show 0 + n ≤ n0; omega, by show 0 + n ≤ n1; omega, hsm⟩)]
  rw [← hk]
  rfl
end XRU3
end
section
/-! Methods as functions over the memory. -/
set_option maxRecDepth 4000 in
theorem xg15 : zg zms 15 = some (zm15.2.2.1, zm15.2.2.2.1, zc15) := rfl
theorem xr15 : zar 15 = (0, 2) := by decide +kernel
set_option maxRecDepth 4000 in
theorem xg70 : zg zms 70 = some (zm70.2.2.1, zm70.2.2.2.1, zc70) := rfl
theorem xr70 : zar 70 = (1, 8) := by decide +kernel
/-- LentTools$Village.copyFrom -/
def D70_9_11t (F : Nat) (m : xS) : Option (Unit × xS) :=
  some ((), (xcp m 10 12 114))
set_option maxRecDepth 20000 in
theorem T70_9_11t {B : zHp} (H : yH0 B) {e : Nat} (he : 1 ≤ e + 1) (F : Nat) {lv : List (Nat × Value)} {m : xS} {x : Unit × xS} (l0 : zld lv 0 = some (.ref 9)) (l1 : zld lv 1 = some (.ref 11)) (h : D70_9_11t F m = some x) : zR none e 2 none zc70 (0, lv, []) (xW B m) (none, xW B x.2) := by
  unfold D70_9_11t at h
  refine q_lr (k := 1) (i := 1) (q := (.aload_n 1, 1, 0, 0, .null)) rfl (fun _ => rfl) l1 ?_
  refine r_gr (c := 12) H (pc := 1) rfl (by decide) (by decide) ?_
  refine r_s (fr' := (5, lv, [.int 0, .ref 12])) (hp' := xW B m) (q := (.iconst 0, 1, 0, 0, .null)) rfl (fun _ => rfl) (Nat.le_refl _) ?_
  refine q_lr (k := 1) (i := 0) (q := (.aload_n 0, 1, 0, 0, .null)) rfl (fun _ => rfl) l0 ?_
  refine r_gr (c := 10) H (pc := 6) rfl (by decide) (by decide) ?_
  refine r_s (fr' := (10, lv, [.int 0, .ref 10, .int 0, .ref 12])) (hp' := xW B m) (q := (.iconst 0, 1, 0, 0, .null)) rfl (fun _ => rfl) (Nat.le_refl _) ?_
  refine r_s (fr' := (12, lv, [.int 114, .int 0, .ref 10, .int 0, .ref 12])) (hp' := xW B m) (q := (.bipush 114, 2, 0, 0, .null)) rfl (fun _ => rfl) (Nat.le_refl _) ?_
  refine q_cpy (n := 114) (n0 := 114) (n1 := 114) H (pc := 12) rfl (by decide) (by decide) (by decide) (by decide) (by decide) (Nat.le_of_ble_eq_true rfl) ?_
  obtain rfl := Option.some.inj h
  exact r_ret (q := (.return_, 1, 0, 0, .null)) rfl rfl (fun _ => rfl)
set_option maxRecDepth 20000 in
theorem Z70_9_11t {B : zHp} (H : yH0 B) {F : Nat} {m : xS} {x : Unit × xS} (h : D70_9_11t F m = some x) {d : Nat} (hd : 1 ≤ d) : zCan d 70 [.ref 9, .ref 11] (xW B m) (none, xW B x.2) := by
  obtain ⟨e, rfl⟩ : ∃ e, d = e + 1 := ⟨d - 1, by omega⟩
  refine zCan_body (nL := 2) (rt := none) (cd := zc70) (xg70) ⟨Nat.le_of_ble_eq_true rfl, by decide⟩ (Nat.le_refl _) ?_
  exact T70_9_11t H hd F rfl rfl h
/-- LentTools$History.forget -/
def D15_14 (F : Nat) (m : xS) : Option (Unit × xS) :=
  some ((), (xu m 14 2 0))
set_option maxRecDepth 20000 in
theorem T15_14 {B : zHp} (H : yH0 B) {e : Nat} (he : 1 ≤ e + 1) (F : Nat) {lv : List (Nat × Value)} {m : xS} {x : Unit × xS} (l0 : zld lv 0 = some (.ref 14)) (h : D15_14 F m = some x) : zR none e 1 none zc15 (0, lv, []) (xW B m) (none, xW B x.2) := by
  unfold D15_14 at h
  refine q_lr (k := 1) (i := 0) (q := (.aload_n 0, 1, 0, 0, .null)) rfl (fun _ => rfl) l0 ?_
  refine r_s (fr' := (2, lv, [.int 0, .ref 14])) (hp' := xW B m) (q := (.iconst 0, 1, 0, 0, .null)) rfl (fun _ => rfl) (Nat.le_refl _) ?_
  refine r_pi (s2 := (xu m 14 2 0)) H (pc := 2) rfl (by decide) rfl rfl ?_
  obtain rfl := Option.some.inj h
  exact r_ret (q := (.return_, 1, 0, 0, .null)) rfl rfl (fun _ => rfl)
set_option maxRecDepth 20000 in
theorem Z15_14 {B : zHp} (H : yH0 B) {F : Nat} {m : xS} {x : Unit × xS} (h : D15_14 F m = some x) {d : Nat} (hd : 1 ≤ d) : zCan d 15 [.ref 14] (xW B m) (none, xW B x.2) := by
  obtain ⟨e, rfl⟩ : ∃ e, d = e + 1 := ⟨d - 1, by omega⟩
  refine zCan_body (nL := 1) (rt := none) (cd := zc15) (xg15) ⟨Nat.le_of_ble_eq_true rfl, by decide⟩ (Nat.le_refl _) ?_
  exact T15_14 H hd F rfl h
/-- LentTools$Village.tools -/
def D79_9 (F : Nat) (m : xS) : Option (Int32 × xS) :=
  some ((m.1 10 2), m)
set_option maxRecDepth 20000 in
theorem T79_9 {B : zHp} (H : yH0 B) {e : Nat} (he : 1 ≤ e + 1) (F : Nat) {lv : List (Nat × Value)} {m : xS} {x : Int32 × xS} (l0 : zld lv 0 = some (.ref 9)) (h : D79_9 F m = some x) : zR none e 1 (some .int) zc79 (0, lv, []) (xW B m) (some (.int x.1), xW B x.2) := by
  unfold D79_9 at h
  refine q_lr (k := 1) (i := 0) (q := (.aload_n 0, 1, 0, 0, .null)) rfl (fun _ => rfl) l0 ?_
  refine r_gr (c := 10) H (pc := 1) rfl (by decide) (by decide) ?_
  refine r_s (fr' := (5, lv, [.int 2, .ref 10])) (hp' := xW B m) (q := (.iconst 2, 1, 0, 0, .null)) rfl (fun _ => rfl) (Nat.le_refl _) ?_
  refine q_al (n := 114) (v := (m.1 10 2)) H (pc := 5) rfl (by decide) (by decide) rfl ?_
  obtain rfl := Option.some.inj h
  exact q_ri (q := (.ireturn, 1, 0, 0, .null)) rfl (fun _ => rfl) rfl rfl
set_option maxRecDepth 20000 in
theorem Z79_9 {B : zHp} (H : yH0 B) {F : Nat} {m : xS} {x : Int32 × xS} (h : D79_9 F m = some x) {d : Nat} (hd : 1 ≤ d) : zCan d 79 [.ref 9] (xW B m) (some (.int x.1), xW B x.2) := by
  obtain ⟨e, rfl⟩ : ∃ e, d = e + 1 := ⟨d - 1, by omega⟩
  refine zCan_body (nL := 1) (rt := (some .int)) (cd := zc79) (xg79) ⟨Nat.le_of_ble_eq_true rfl, by decide⟩ (Nat.le_refl _) ?_
  exact T79_9 H hd F rfl h
end
section
/-! The class's village. -/
theorem ktC {B : zHp} {m : xS} {b : Nat → Int} {n : Nat} (hT : xT m) (N : kN m b n) (h22 : (m.1 2 2).toInt = 0) (h24 : (m.1 2 4).toInt = 0) : ∃ bg, tC m b n 0 bg 0 m := by
  have b3 : 0 ≤ (m.1 2 3).toInt ∧ (m.1 2 3).toInt ≤ 400 := hT 2 3 (0, 400) rfl
  exact ⟨(m.1 2 3).toInt.toNat, N, ⟨hT, xfr_r _ _⟩, ⟨h22, Nat.zero_le _⟩, by omega, h24⟩
set_option maxRecDepth 4000 in
theorem xg125 : zg zms 125 = some (zm125.2.2.1, zm125.2.2.2.1, zc125) := rfl
set_option maxRecDepth 20000 in
theorem kVil {hp : zHp} {b : Nat → Int} {n d : Nat} (H : yH0 hp) (hd : 20 ≤ d) (hn : ((xof hp).1 0 1).toInt = (n : Int)) (hb : ∀ j, j < n → ((xof hp).1 1 j).toInt = b j) : ∃ (v : Int32) (m' : xS), zCan d 125 [.ref 0] hp (some (.int v), xW (kB hp) m') ∧ m'.1 0 1 = 0 ∧ ((∃ g, vrun b n 42 0 0 (fun _ => 0) = .inl g ∧ v.toInt = -2 - g ∧ m'.1 10 = (xof hp).1 10 ∧ m'.1 14 = (xof hp).1 14) ∨ (∃ s, vrun b n 42 0 0 (fun _ => 0) = .inr s ∧ v.toInt = s 2 ∧ (∀ j, j < 114 → m'.1 10 j = m'.1 12 j) ∧ vR (vdn s) (m'.1 12) ∧ m'.1 14 2 = 0)) := by
  obtain ⟨e, rfl⟩ : ∃ e, d = e + 1 := ⟨d - 1, by omega⟩
  have b1 := xT_of H 0 1 (0, 400) rfl
  have b11 : ((xof hp).1 0 1).toInt ≤ 400 := b1.2
  have HB := kB_H H
  have XB := kB_X H
  have z1 := kOpen (hp := hp) (d := e) H (by omega)
  have kb := kB_m H
  have hO : ∀ {i j : Nat}, ¬ (i = 2 ∧ j = 1) → ¬ (i = 2 ∧ j = 2) → ¬ (i = 2 ∧ j = 4) → ¬ (i = 0 ∧ j = 1) → (kO (xof (kB hp))).1 i j = (xof hp).1 i j := fun z1 z2 z3 z4 => ((xu_o z4).trans ((xu_o z3).trans ((xu_o z2).trans (xu_o z1)))).trans (kb _ _)
  have e21 : (kO (xof (kB hp))).1 2 1 = (xof hp).1 0 1 := by
    have z : (kO (xof (kB hp))).1 2 1 = (if (Int32.ofNat 400) < (xof (kB hp)).1 0 1 then (Int32.ofNat 400) else (xof (kB hp)).1 0 1) := rfl
    have e400 : (Int32.ofNat 400).toInt = 400 := rfl
    rw [z, kb, if_neg (fun y => by
      have y := Int32.lt_iff_toInt_lt.mp y
      omega)]
  have N : kN (kO (xof (kB hp))) b n := ⟨by rw [e21]; exact hn, by omega, fun j hj => by rw [hO (fun z => absurd z.1 (by decide)) (fun z => absurd z.1 (by decide)) (fun z => absurd z.1 (by decide)) (fun z => absurd z.1 (by decide))]; exact hb j hj⟩
  have hTO : xT (kO (xof (kB hp))) := by
    refine xT_c (xT_c (xT_c (xT_c (xT_of HB) (i := 2) (j := 1) rfl ?_ ?_) (i := 2) (j := 2) rfl (by decide) (by decide)) (i := 2) (j := 4) rfl (by decide) (by decide)) (i := 0) (j := 1) rfl (by decide) (by decide)
    · rw [kb]
      split
      · decide
      · exact b1.1
    · rw [kb]
      split
      · decide
      · exact b1.2
  obtain ⟨bg, t0⟩ := ktC (B := hp) hTO N rfl rfl
  obtain ⟨y, hy, ⟨hT1, f1⟩, hw⟩ := c116 (F := 500) (Nat.le_refl _) t0
  have c1 := Z116_4_2_11 HB XB hy (d := e) (by omega)
  have f01 : y.2.1 0 1 = 0 := f1.2 0 1 rfl
  have f10 : y.2.1 10 = (xof hp).1 10 := funext fun j => (f1.2 10 j (by unfold yinM; rfl)).trans (hO (fun z => absurd z.1 (by decide)) (fun z => absurd z.1 (by decide)) (fun z => absurd z.1 (by decide)) (fun z => absurd z.1 (by decide)))
  have f14 : y.2.1 14 = (xof hp).1 14 := funext fun j => (f1.2 14 j (by unfold yinM; rfl)).trans (hO (fun z => absurd z.1 (by decide)) (fun z => absurd z.1 (by decide)) (fun z => absurd z.1 (by decide)) (fun z => absurd z.1 (by decide)))
  have head : ∀ {r : zRe}, zR none e 1 (some .int) zc125 (19, lv_args 0 [.ref 0], []) (xW (kB hp) y.2) r → zR none e 1 (some .int) zc125 (0, lv_args 0 [.ref 0], []) hp r := by
    intro r K
    refine q_lr (k := 1) (i := 0) (x := 0) (q := (.aload_n 0, 1, 0, 0, .null)) rfl (fun _ => rfl) rfl ?_
    refine r_call (ix := 0) (as := []) (rest := []) (rv := none) (pc := 1) rfl (show zar 127 = (0, 10) by decide +kernel) rfl rfl rfl (h_kd H (by decide)) (Nat.le_of_ble_eq_true rfl) z1 (Nat.le_refl _) ?_
    refine q_lr (k := 1) (i := 0) (x := 0) (q := (.aload_n 0, 1, 0, 0, .null)) rfl (fun _ => rfl) rfl ?_
    refine r_gr (c := 4) HB (pc := 5) rfl (by decide) (by decide) ?_
    refine q_lr (k := 1) (i := 0) (x := 0) (q := (.aload_n 0, 1, 0, 0, .null)) rfl (fun _ => rfl) rfl ?_
    refine r_gr (c := 2) HB (pc := 9) rfl (by decide) (by decide) ?_
    refine q_lr (k := 1) (i := 0) (x := 0) (q := (.aload_n 0, 1, 0, 0, .null)) rfl (fun _ => rfl) rfl ?_
    refine r_gr (c := 11) HB (pc := 13) rfl (by decide) (by decide) ?_
    exact r_call (ix := 4) (as := [.ref 2, .ref 11]) (rest := []) (rv := none) (pc := 16) rfl xr116 rfl rfl rfl (xkd HB (by decide)) (Nat.le_of_ble_eq_true rfl) c1 (Nat.le_refl _) K
  have hl : (lg_sl [Value.ref 0]).length ≤ 1 ∧ 1 ≤ 41 := ⟨Nat.le_of_ble_eq_true rfl, by decide⟩
  cases hr : vrun b n 42 0 0 (fun _ => 0) with
  | inl g =>
    rw [hr] at hw
    obtain ⟨g0, g24⟩ := hw
    have b4 : 0 ≤ (y.2.1 2 4).toInt ∧ (y.2.1 2 4).toInt ≤ 4000 := hT1 2 4 (0, 4000) rfl
    have h51 : D51_2 500 y.2 = some (0, y.2) := by
      unfold D51_2
      rw [if_pos]
      refine decide_eq_true (fun z => ?_)
      rw [z] at g24
      exact g0 g24.symm
    refine ⟨-2 - y.2.1 2 4, y.2, zCan_body (nL := 1) (rt := some .int) (cd := zc125) xg125 hl (Nat.le_refl _) (head ?_), f01, Or.inl ⟨g, rfl, ?_, f10, f14⟩⟩
    · refine q_lr (k := 1) (i := 0) (x := 0) (q := (.aload_n 0, 1, 0, 0, .null)) rfl (fun _ => rfl) rfl ?_
      refine r_gr (c := 2) HB (pc := 20) rfl (by decide) (by decide) ?_
      refine r_call (ix := 2) (as := []) (rest := []) (rv := some (.int 0)) (pc := 23) rfl xr51 rfl rfl rfl (xkd HB (by decide)) (Nat.le_of_ble_eq_true rfl) (Z51_2 HB XB h51 (d := e) (by omega)) (Nat.le_refl _) ?_
      refine r_if (len := 3) (a := 40) (b := 0) (v0 := .null) (cn := .ne) (off := 14) rfl (fun c => absurd c (by decide)) (fun _ => ?_)
      refine r_s (fr' := (31, lv_args 0 [.ref 0], [.int (-2)])) (hp' := xW (kB hp) y.2) (q := (.bipush (-2), 2, 0, 0, .null)) rfl (fun _ => rfl) (Nat.le_refl _) ?_
      refine q_lr (k := 1) (i := 0) (x := 0) (q := (.aload_n 0, 1, 0, 0, .null)) rfl (fun _ => rfl) rfl ?_
      refine r_gr (c := 2) HB (pc := 32) rfl (by decide) (by decide) ?_
      refine r_gi (v := y.2.1 2 4) HB (pc := 35) (i := _) rfl (by decide) (by decide) rfl ?_
      refine r_s (fr' := (39, lv_args 0 [.ref 0], [.int (-2 - y.2.1 2 4)])) (hp' := xW (kB hp) y.2) (q := (.isub, 1, 0, 0, .null)) rfl (fun _ => rfl) (Nat.le_refl _) ?_
      exact q_ri (q := (.ireturn, 1, 0, 0, .null)) rfl (fun _ => rfl) rfl rfl
    · exact (xs1 (by show _ ≤ (-2 : Int) - _; omega) (by show (-2 : Int) - _ ≤ _; omega)).trans (by rw [g24]; rfl)
  | inr s =>
    rw [hr] at hw
    obtain ⟨g24, R⟩ := hw
    have h51 : D51_2 500 y.2 = some (1, y.2) := by
      unfold D51_2
      rw [if_neg]
      intro z
      have z : (y.2.1 2 4).toInt ≠ 0 := zt z
      exact z g24
    have h70 : D70_9_11t 500 y.2 = some ((), xcp y.2 10 12 114) := rfl
    have h15 : D15_14 500 (xcp y.2 10 12 114) = some ((), xu (xcp y.2 10 12 114) 14 2 0) := rfl
    have h79 : D79_9 500 (xu (xcp y.2 10 12 114) 14 2 0) = some ((xcp y.2 10 12 114).1 10 2, xu (xcp y.2 10 12 114) 14 2 0) := rfl
    have e10 : ∀ j, j < 114 → (xcp y.2 10 12 114).1 10 j = y.2.1 12 j := fun j hj => xcp_s hj
    have e12 : (xcp y.2 10 12 114).1 12 = y.2.1 12 := xcp_o (by decide)
    refine ⟨(xcp y.2 10 12 114).1 10 2, xu (xcp y.2 10 12 114) 14 2 0, zCan_body (nL := 1) (rt := some .int) (cd := zc125) xg125 hl (Nat.le_refl _) (head ?_), f01, Or.inr ⟨s, rfl, ?_, fun j hj => ?_, ?_, xu_s _ _ _ _⟩⟩
    · refine q_lr (k := 1) (i := 0) (x := 0) (q := (.aload_n 0, 1, 0, 0, .null)) rfl (fun _ => rfl) rfl ?_
      refine r_gr (c := 2) HB (pc := 20) rfl (by decide) (by decide) ?_
      refine r_call (ix := 2) (as := []) (rest := []) (rv := some (.int 1)) (pc := 23) rfl xr51 rfl rfl rfl (xkd HB (by decide)) (Nat.le_of_ble_eq_true rfl) (Z51_2 HB XB h51 (d := e) (by omega)) (Nat.le_refl _) ?_
      refine r_if (len := 3) (a := 40) (b := 0) (v0 := .null) (cn := .ne) (off := 14) rfl (fun _ => ?_) (fun c => absurd c (by decide))
      refine q_lr (k := 1) (i := 0) (x := 0) (q := (.aload_n 0, 1, 0, 0, .null)) rfl (fun _ => rfl) rfl ?_
      refine r_gr (c := 9) HB (pc := 41) rfl (by decide) (by decide) ?_
      refine q_lr (k := 1) (i := 0) (x := 0) (q := (.aload_n 0, 1, 0, 0, .null)) rfl (fun _ => rfl) rfl ?_
      refine r_gr (c := 11) HB (pc := 45) rfl (by decide) (by decide) ?_
      refine r_call (ix := 9) (as := [.ref 11]) (rest := []) (rv := none) (pc := 48) rfl xr70 rfl rfl rfl (xkd HB (by decide)) (Nat.le_of_ble_eq_true rfl) (Z70_9_11t HB h70 (d := e) (by omega)) (Nat.le_refl _) ?_
      refine q_lr (k := 1) (i := 0) (x := 0) (q := (.aload_n 0, 1, 0, 0, .null)) rfl (fun _ => rfl) rfl ?_
      refine r_gr (c := 14) HB (pc := 52) rfl (by decide) (by decide) ?_
      refine r_call (ix := 14) (as := []) (rest := []) (rv := none) (pc := 55) rfl xr15 rfl rfl rfl (xkd HB (by decide)) (Nat.le_of_ble_eq_true rfl) (Z15_14 HB h15 (d := e) (by omega)) (Nat.le_refl _) ?_
      refine q_lr (k := 1) (i := 0) (x := 0) (q := (.aload_n 0, 1, 0, 0, .null)) rfl (fun _ => rfl) rfl ?_
      refine r_gr (c := 9) HB (pc := 59) rfl (by decide) (by decide) ?_
      refine r_call (ix := 9) (as := []) (rest := []) (rv := some (.int ((xcp y.2 10 12 114).1 10 2))) (pc := 62) rfl xr79 rfl rfl rfl (xkd HB (by decide)) (Nat.le_of_ble_eq_true rfl) (Z79_9 HB h79 (d := e) (by omega)) (Nat.le_refl _) ?_
      exact q_ri (q := (.ireturn, 1, 0, 0, .null)) rfl (fun _ => rfl) rfl rfl
    · rw [e10 2 (by decide)]
      exact (R.1 2 (by decide)).trans (vdn_o (by decide))
    · rw [xu_o (fun z => absurd z.1 (by decide)), xu_o (fun z => absurd z.1 (by decide)), e10 j hj, e12]
    · have : (xu (xcp y.2 10 12 114) 14 2 0).1 12 = y.2.1 12 := (funext fun j => xu_o (fun z => absurd z.1 (by decide))).trans e12
      rw [this]
      exact R
end
section
/-! village, in pairs. -/
theorem eVillage : lP rI 125 198 [] true := fun hp hI => by
  obtain ⟨x1, z1, p1, p2, p3, -⟩ := eSp (yt1537b yXx.1) (c := 0) (na := 0) (bl := []) (by decide +kernel) hI.1 (ys := []) rfl (fun s hs => by cases hs)
  obtain ⟨x2, z2, q1, q2, q3, k2, hk2, r2, -, gk2⟩ := eSp (yl243 yXx) (c := 70) (na := 0) (bl := []) (by decide +kernel) p2 (ys := []) rfl (fun s hs => by cases hs)
  have t2 : ys243.2.2.2.1.all (fun q => decide ((((yc ((70 : Nat) : Int)), (yc ((1 : Nat) : Int)), ((0, yc 0, yc 0) : yV)) : yK) ∈ q.2.2.2.1)) = true := by decide +kernel
  have d1 : ((xof z2).1 70 1).toInt = 0 := eKq gk2 (of_decide_eq_true (List.all_eq_true.mp t2 k2 hk2))
  have hT := xT_of hI.1.1
  have b1 : (0 : Int) ≤ ((xof hp).1 0 1).toInt ∧ ((xof hp).1 0 1).toInt ≤ 400 := hT 0 1 (0, 400) rfl
  obtain ⟨n, hn⟩ : ∃ n : Nat, ((xof hp).1 0 1).toInt = (n : Int) := ⟨((xof hp).1 0 1).toInt.toNat, by omega⟩
  obtain ⟨v, m', w1, w2, w3⟩ := kVil (b := fun j => ((xof hp).1 1 j).toInt) (d := 20) hI.1.1 (by decide) hn (fun _ _ => rfl)
  have u := zCan_u p1 w1
  cases u
  have c01 : (xof (xW (kB hp) m')).1 0 1 = 0 := (exo p2.1 rfl).trans w2
  have f70 : ∀ j, (xof (xW (kB hp) m')).1 70 j = (xof hp).1 70 j := fun j => eF p3 (by unfold yinM; rfl)
  have f71 : ∀ j, (xof (xW (kB hp) m')).1 71 j = (xof hp).1 71 j := fun j => eF p3 (by unfold yinM; rfl)
  have N : rN (xof (xW (kB hp) m')) (fun j => ((xof hp).1 1 j).toInt) n := ⟨by rw [f70]; exact hI.2.1.trans hn, by omega, fun j hj => ⟨hT 1 j (0, 255) (eb1 (by omega)), by rw [f71]; exact hI.2.2.2 j (by omega)⟩⟩
  obtain ⟨y, hy, hQ⟩ := rV198 (F := 500) (Nat.le_refl _) N (xT_of p2.1)
  have u2 := Z198 p2.1 hy (d := 20) (by decide)
  rw [xW_of] at u2
  have u2 := zCan_u q1 u2
  cases u2
  have e01 : (xof (xW (xW (kB hp) m') y.2)).1 0 1 = (xof (xW (kB hp) m')).1 0 1 := eF q3 rfl
  have e08 : (xof (xW (xW (kB hp) m') y.2)).1 0 8 = (xof hp).1 0 8 := (eF q3 rfl).trans (eF p3 rfl)
  have e2 : (xof (xW (xW (kB hp) m') y.2)).1 70 2 = (xof hp).1 70 2 := (eF q3 rfl).trans (f70 2)
  refine ⟨x1, y.1, _, _, eK0 hI.1.1, eK70 p2.1, p1, p3.1, q1, q3.1, ⟨q2, ?_, ?_, fun j hj => ?_⟩, fun _ => ?_⟩
  · rw [d1, e01, c01]
    rfl
  · rw [e2, e08]
    exact hI.2.2.1
  · rw [e01, c01] at hj
    have hj : (j : Int) < 0 := hj
    omega
  · apply Int32.toInt_inj.mp
    rcases w3 with ⟨g, g1, g2, -⟩ | ⟨s, g1, g2, -⟩
    · rcases hQ with ⟨g', h1, -, h2, -⟩ | ⟨s', h1, -⟩
      · rw [g1] at h1
        have h1 : g = g' := Sum.inl.inj h1
        rw [g2, h2, h1]
      · rw [g1] at h1
        cases h1
    · rcases hQ with ⟨g', h1, -⟩ | ⟨s', h1, h2, -⟩
      · rw [g1] at h1
        cases h1
      · rw [g1] at h1
        have h1 : s = s' := Sum.inr.inj h1
        rw [g2, h2, h1]
end
