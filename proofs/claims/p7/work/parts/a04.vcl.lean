/-! The class reads a village. -/
/-- what reading a village writes -/
abbrev cM : yM := [(2, 2, 2), (2, 2, 3), (2, 2, 4), (6, 6, 1), (6, 6, 3), (6, 6, 4), (6, 6, 5), (6, 6, 6), (6, 6, 7), (6, 6, 8), (6, 6, 9), (7, 7, 1000), (8, 8, 1000), (5, 5, 1000), (12, 12, 1000)]
def tC (m0 : xS) (b : Nat → Int) (n p bg : Nat) (ft : Int) (m : xS) : Prop := kN m b n ∧ (xT m ∧ xfr cM m0 m) ∧ ((m.1 2 2).toInt = (p : Int) ∧ p ≤ n) ∧ (m.1 2 3).toInt = (bg : Int) ∧ (m.1 2 4).toInt = ft
/-- bounds of a village's cells -/
def b12 (c : Nat) (l u : Int) : Prop := (0 ≤ l ∧ u ≤ 5) ∨ ((c = 0 ∨ c = 2 ∨ c = 3) ∧ 0 ≤ l ∧ u ≤ 6) ∨ ((72 ≤ c ∧ c < 78) ∧ 0 ≤ l ∧ u ≤ 63) ∨ ((c ≠ 0 ∧ c ≠ 2 ∧ c ≠ 3 ∧ ¬ ((6 ≤ c ∧ c < 12) ∨ (24 ≤ c ∧ c < 30) ∨ (42 ≤ c ∧ c < 48)) ∧ ¬ (72 ≤ c ∧ c < 78)) ∧ -2147483648 ≤ l ∧ u ≤ 2147483647)
/-- tools that are not told hold nothing -/
def vz (s : Nat → Int) : Prop := ∀ j, 10 + 6 * (s 2).toNat ≤ j → j < 46 → s j = 0
section VCL
variable {m0 : xS} {b : Nat → Int} {n p bg k : Nat} {ft : Int} {s : Nat → Int} {m : xS} {F : Nat}
theorem b12_ok {r c : Nat} {l u x : Int} (hr : yty r = (1, 0, 114, 1, [])) (r88 : r < 88) (h : b12 c l u) (hx : l ≤ x ∧ x ≤ u) : ∀ q, xbn r c = some q → q.1 ≤ x ∧ x ≤ q.2 := by
  intro q hq
  have e : xbn r c = if ((0 : Nat) < 3 ∧ c < 114) then some (yel 1 c) else none := by
    unfold xbn
    rw [if_pos r88, hr]
    rfl
  rw [e] at hq
  split at hq
  · next hc =>
    have hq := Option.some.inj hq
    subst hq
    have e2 : yel 1 c = if c = 0 ∨ c = 2 ∨ c = 3 then (0, 6) else if (6 ≤ c ∧ c < 12) ∨ (24 ≤ c ∧ c < 30) ∨ (42 ≤ c ∧ c < 48) then (0, 5) else if 72 ≤ c ∧ c < 78 then (0, 63) else (-2147483648, 2147483647) := rfl
    rw [e2]
    unfold b12 at h
    split
    · show (0 : Int) ≤ x ∧ x ≤ 6
      omega
    · split
      · show (0 : Int) ≤ x ∧ x ≤ 5
        omega
      · split
        · show (0 : Int) ≤ x ∧ x ≤ 63
          omega
        · show (-2147483648 : Int) ≤ x ∧ x ≤ 2147483647
          omega
  · cases hq
theorem tC_k (h : tC m0 b n p bg ft m) : ∃ (out wait : List Int) (cl k dp br ex wh : Int), kC m n p bg ft out wait cl k dp br ex wh m := by
  obtain ⟨h1, h2, h3, h4, h5⟩ := h
  have b1 : 0 ≤ (m.1 6 1).toInt ∧ (m.1 6 1).toInt ≤ 400 := h2.1 6 1 (0, 400) rfl
  have b3 : 0 ≤ (m.1 6 3).toInt ∧ (m.1 6 3).toInt ≤ 400 := h2.1 6 3 (0, 400) rfl
  refine ⟨tk (m.1 7) (m.1 6 1).toInt.toNat, tk (m.1 8) (m.1 6 3).toInt.toNat, _, _, _, _, _, _, h2.1, xfr_r _ _, h3, h4, h5, ⟨?_, ?_⟩, ⟨?_, ?_⟩, rfl, rfl, rfl, rfl, rfl, rfl⟩
  · rw [tk_len]; omega
  · rw [tk_len]
  · rw [tk_len]; omega
  · rw [tk_len]
theorem tC_of {p' bg' : Nat} {ft' : Int} {out wait : List Int} {cl k dp br ex wh : Int} {m' : xS} (h : tC m0 b n p bg ft m) (q : kC m n p' bg' ft' out wait cl k dp br ex wh m') : tC m0 b n p' bg' ft' m' ∧ xfr kM m m' := by
  have kk := kC_n h.1 q
  exact ⟨⟨⟨kk.1, h.1.2.1, kk.2⟩, ⟨q.1, xfr_t h.2.1.2 (xfr_l (by decide) q.2.1)⟩, q.2.2.1, q.2.2.2.1, q.2.2.2.2.1⟩, q.2.1⟩
theorem kM12 {m' : xS} (f : xfr kM m m') : m'.1 12 = m.1 12 := funext fun j => f.2 12 j (by unfold yinM; rfl)
theorem kM5 {m' : xS} (f : xfr kM m m') : m'.1 5 = m.1 5 := funext fun j => f.2 5 j (by unfold yinM; rfl)
theorem tC_5 (h : tC m0 b n p bg ft m) (i : Nat) (v : Int32) : tC m0 b n p bg ft (xu m 5 i v) := by
  obtain ⟨h1, h2, h3, h4, h5⟩ := h
  have o : ∀ a j, a ≠ 5 → (xu m 5 i v).1 a j = m.1 a j := fun a j z => xu_o (fun y => z y.1)
  refine ⟨⟨by rw [o _ _ (by decide)]; exact h1.1, h1.2.1, fun j hj => by rw [o _ _ (by decide)]; exact h1.2.2 j hj⟩, ⟨xT_u h2.1 (fun q hq => ?_), xfr_t h2.2 (xfr_u (by unfold yinM; rfl))⟩, by rw [o _ _ (by decide)]; exact h3, by rw [o _ _ (by decide)]; exact h4, by rw [o _ _ (by decide)]; exact h5⟩
  have e : xbn 5 i = if ((0 : Nat) < 3 ∧ i < 4) then some (yel 0 i) else none := rfl
  rw [e] at hq
  split at hq
  · have hq := Option.some.inj hq
    subst hq
    have := y32 v
    show (-2147483648 : Int) ≤ v.toInt ∧ v.toInt ≤ 2147483647
    omega
  · cases hq
theorem tC_12 (h : tC m0 b n p bg ft m) {c : Nat} {v : Int32} {l u : Int} (hb : b12 c l u) (hx : l ≤ v.toInt ∧ v.toInt ≤ u) : tC m0 b n p bg ft (xu m 12 c v) := by
  obtain ⟨h1, h2, h3, h4, h5⟩ := h
  have o : ∀ a j, a ≠ 12 → (xu m 12 c v).1 a j = m.1 a j := fun a j z => xu_o (fun y => z y.1)
  exact ⟨⟨by rw [o _ _ (by decide)]; exact h1.1, h1.2.1, fun j hj => by rw [o _ _ (by decide)]; exact h1.2.2 j hj⟩, ⟨xT_u h2.1 (b12_ok rfl (by decide) hb hx), xfr_t h2.2 (xfr_u (by unfold yinM; rfl))⟩, by rw [o _ _ (by decide)]; exact h3, by rw [o _ _ (by decide)]; exact h4, by rw [o _ _ (by decide)]; exact h5⟩
/-- a number -/
theorem cNum {lo hi : Int32} {l u : Int} (hF : 500 ≤ F) (el : lo.toInt = l) (eu : hi.toInt = u) (h : tC m0 b n p bg 0 m) : xP (D58_2 F lo hi m) (fun r m' => xfr kM m m' ∧ ((∃ g, vnu b n p l u = .inl g ∧ g ≠ 0 ∧ ∃ p', tC m0 b n p' (tsk b n p) g m') ∨ (∃ (v : Int) (e : Nat), vnu b n p l u = .inr (v, e) ∧ r.toInt = v ∧ tC m0 b n e (tsk b n p) 0 m'))) := by
  subst el
  subst eu
  obtain ⟨out, wait, cl, k, dp, br, ex, wh, hk⟩ := tC_k h
  refine xP_m (P58 hF h.1 hk) (fun r m' q => ?_)
  obtain ⟨q1, q2⟩ := q
  obtain ⟨z1, z2⟩ := tC_of h q2
  refine ⟨z2, ?_⟩
  by_cases c1 : tsk b n p < n ∧ tdg (b (tsk b n p)) = true
  · have lt : tsk b n p < tde b n p := tS_lt c1.1 c1.2
    by_cases c2 : 5 < tde b n p - tsk b n p ∨ r.toInt < lo.toInt ∨ hi.toInt < r.toInt
    · have tn : tnf lo.toInt hi.toInt (tsk b n p) (tde b n p) r.toInt 0 = 1 + 8 * (tsk b n p : Int) + 1 := by
        unfold tnf trf
        rw [if_neg (by omega), if_pos c2, if_pos rfl]
      rw [tn] at z1
      refine Or.inl ⟨_, ?_, by omega, _, z1⟩
      unfold vnu
      rw [if_neg (fun z => z c1), if_pos (by rw [← q1]; exact c2)]
    · have tn : tnf lo.toInt hi.toInt (tsk b n p) (tde b n p) r.toInt 0 = 0 := by
        unfold tnf
        rw [if_neg (by omega), if_neg c2]
      rw [tn] at z1
      refine Or.inr ⟨_, _, ?_, rfl, z1⟩
      unfold vnu
      rw [if_neg (fun z => z c1), if_neg (by rw [← q1]; exact c2), ← q1]
  · have tn : tnf lo.toInt hi.toInt (tsk b n p) (tde b n p) r.toInt 0 = 1 + 8 * (tsk b n p : Int) := by
      unfold tnf trf
      rw [if_pos (tS_f c1), if_pos rfl]
      omega
    rw [tn] at z1
    refine Or.inl ⟨_, ?_, by omega, _, z1⟩
    unfold vnu
    rw [if_pos c1]
theorem cWord (hF : 500 ≤ F) (h : tC m0 b n p bg 0 m) : xP (D60_2_1001 F m) (fun r m' => xfr kM m m' ∧ ((∃ u, tix (twd b n p) tCls = some u ∧ r.toInt = (u : Int) ∧ tC m0 b n (tS tlt b n (tsk b n p)) (tsk b n p) 0 m') ∨ (tix (twd b n p) tCls = none ∧ r.toInt = -1 ∧ tC m0 b n (tsk b n p) (tsk b n p) (1 + 8 * (tsk b n p : Int)) m'))) := by
  obtain ⟨out, wait, cl, k, dp, br, ex, wh, hk⟩ := tC_k h
  refine xP_m (P60_1001 hF h.1 hk) (fun r m' q => ?_)
  rcases q with ⟨u, q1, q2, q3⟩ | ⟨q1, q2, q3⟩
  · obtain ⟨z1, z2⟩ := tC_of h q3
    exact ⟨z2, Or.inl ⟨u, q1, q2, z1⟩⟩
  · obtain ⟨z1, z2⟩ := tC_of h q3
    have tn : trf 0 (1 + 8 * (tS tbl b n p : Int)) = 1 + 8 * (tsk b n p : Int) := if_pos rfl
    rw [tn] at z1
    exact ⟨z2, Or.inr ⟨q1, q2, z1⟩⟩
theorem cRef {a c : Int32} {q : Nat} {x : Int} (h : tC m0 b n p bg 0 m) (ha : a.toInt = (q : Int)) (q4 : q ≤ 400) (hc : c.toInt = x) (c1 : 0 ≤ x) (c2 : x ≤ 4) : xP (D52_2 F a c m) (fun _ m' => xfr kM m m' ∧ tC m0 b n p bg (1 + 8 * (q : Int) + x) m') := by
  obtain ⟨out, wait, cl, k, dp, br, ex, wh, hk⟩ := tC_k h
  refine xP_m (P52 hk (by omega) (by omega) (by omega) (by omega)) (fun r m' q => ?_)
  obtain ⟨z1, z2⟩ := tC_of h q
  rw [show trf 0 (1 + 8 * a.toInt + c.toInt) = 1 + 8 * a.toInt + c.toInt from if_pos rfl, ha, hc] at z1
  exact ⟨z2, z1⟩
theorem cSnd (h : tC m0 b n p bg ft m) : xP (D51_2 F m) (fun r m' => m' = m ∧ ((r = 1 ∧ ft = 0) ∨ (r = 0 ∧ ft ≠ 0))) := by
  have h5 := h.2.2.2.2
  unfold D51_2
  refine xP_i (fun c => xP_r ⟨rfl, Or.inr ⟨rfl, ?_⟩⟩) (fun c => xP_r ⟨rfl, Or.inl ⟨rfl, ?_⟩⟩)
  · have c : (m.1 2 4).toInt ≠ 0 := zt c
    omega
  · have c : (m.1 2 4).toInt = 0 := Decidable.not_not.mp (zf c)
    omega
/-- readNumbers: an unsound text ends it -/
theorem cN_stop {f : Nat} {v2 v3 v4 v5 : Int32} {Q : Unit → xS → Prop} (a1 : xib (v3 + 1) 6 = true) (h : tC m0 b n p bg ft m) (g0 : ft ≠ 0) (hQ : Q () m) : xP (D119_4_2_10 F (f + 1) v2 v3 v4 v5 m) Q := by
  unfold D119_4_2_10
  refine xP_g a1 (xP_i (fun _ => xP_r hQ) (fun _ => ?_))
  refine xP_b (cSnd h) (fun r m1 q => ?_)
  obtain ⟨rfl, q⟩ := q
  rcases q with ⟨-, q⟩ | ⟨rfl, q⟩
  · exact absurd q g0
  · dsimp only
    exact xP_i (fun _ => xP_r hQ) (fun c => absurd c (by decide))
theorem cN_exit {f : Nat} {v2 v3 v4 v5 : Int32} {Q : Unit → xS → Prop} (a1 : xib (v3 + 1) 6 = true) (a2 : zcmp .ge (v4 + v5) (zsv 30 ((v3 + 1) : Int32).toNatClampNeg) = true) (hQ : Q () m) : xP (D119_4_2_10 F (f + 1) v2 v3 v4 v5 m) Q := by
  unfold D119_4_2_10
  exact xP_g a1 (xP_i (fun _ => xP_r hQ) (fun c => absurd a2 (by rw [c]; decide)))
theorem cN10 {f : Nat} {v2 v3 v4 v5 : Int32} {Q : Unit → xS → Prop} {i : Nat} {isH : Bool} {l u : Int} (hF : 500 ≤ F) (a1 : xib (v3 + 1) 6 = true) (a2 : zcmp .ge (v4 + v5) (zsv 30 ((v3 + 1) : Int32).toNatClampNeg) = false) (a3 : xib (v4 + v5) 14 = true) (a4 : zcmp .ne (zsv 32 ((v4 + v5) : Int32).toNatClampNeg) (-1) = !isH) (a5 : (zsv 31 ((v4 + v5) : Int32).toNatClampNeg).toInt = l) (a6 : (if isH = true then (v2 - 1).toInt else (zsv 32 ((v4 + v5) : Int32).toNatClampNeg).toInt) = u) (a7 : v5.toInt = (i : Int)) (a8 : i < 4) (h : tC m0 b n p bg 0 m)
    (K1 : ∀ g m', vnu b n p l u = .inl g → g ≠ 0 → (∃ p' bg', tC m0 b n p' bg' g m') → m'.1 12 = m.1 12 → Q () m')
    (K2 : ∀ (v : Int) (e : Nat) (r : Int32) (m' : xS), vnu b n p l u = .inr (v, e) → r.toInt = v → tC m0 b n e (tsk b n p) 0 m' → m'.1 12 = m.1 12 → (∀ j, m'.1 5 j = if j = i then r else m.1 5 j) → ((isH = true ∧ i = 1 ∧ m'.1 5 0 = m'.1 5 1) → ∀ m'', tC m0 b n e (tsk b n p) (1 + 8 * (tsk b n p : Int) + 1) m'' → m''.1 12 = m.1 12 → Q () m'') ∧ (¬ (isH = true ∧ i = 1 ∧ m'.1 5 0 = m'.1 5 1) → xP (D119_4_2_10 F (f + 1) v2 v3 v4 (v5 + Int32.ofInt 1) m') Q)) : xP (D119_4_2_10 F (f + 2) v2 v3 v4 v5 m) Q := by
  have ei : v5.toNatClampNeg = i := by show v5.toInt.toNat = i; omega
  have body : ∀ (v6 w0 : Int32), ((v6 = 0 ∧ isH = false) ∨ (v6 = 1 ∧ isH = true)) → w0.toInt = u → xP (D119_4_2_72 F (D119_4_2_10 F (f + 1)) v2 v3 v4 v5 v6 w0 m) Q := by
    intro v6 w0 hv hw
    unfold D119_4_2_72
    refine xP_g a3 ?_
    refine xP_b (cNum hF a5 hw h) (fun r m1 q => ?_)
    obtain ⟨f1, q⟩ := q
    dsimp only
    refine xP_g (xib_t (by omega) (by omega)) ?_
    rw [ei]
    have r12 : ∀ {v : Int32}, (xu m1 5 i v).1 12 = m.1 12 := fun {v} => (funext fun j => xu_o (fun y => absurd y.1 (by decide))).trans (kM12 f1)
    have r5 : ∀ j, (xu m1 5 i r).1 5 j = if j = i then r else m.1 5 j := fun j => by
      by_cases z : j = i
      · rw [z, xu_s, if_pos rfl]
      · rw [xu_o (fun y => z y.2), if_neg z, kM5 f1]
    rcases q with ⟨g, e1, g0, p', t1⟩ | ⟨v, e, e1, er, t1⟩
    · have t2 := tC_5 t1 i r
      have stop : xP (D119_4_2_131 F (D119_4_2_10 F (f + 1)) v2 v3 v4 v5 v6 w0 (xu m1 5 i r)) Q := by
        unfold D119_4_2_131
        exact cN_stop a1 t2 g0 (K1 g _ e1 g0 ⟨_, _, t2⟩ r12)
      refine xP_i (fun _ => stop) (fun _ => xP_i (fun _ => stop) (fun _ => xP_i (fun _ => stop) (fun _ => ?_)))
      have n4 := t2.1.2.1
      obtain ⟨out, wait, cl, k, dp, br, ex, wh, hk⟩ := tC_k t2
      have bb := t2.2.2.2.1
      have e3 : (xu m1 5 i r).1 2 3 = m1.1 2 3 := xu_o (fun y => absurd y.1 (by decide))
      have gl : tsk b n p ≤ n := tS_le _ h.2.2.1.2
      have b3 : 0 ≤ (m1.1 2 3).toInt ∧ (m1.1 2 3).toInt ≤ 400 := t1.2.1.1 2 3 (0, 400) rfl
      refine xP_b (P52 hk (by omega) (by omega) (by decide) (by decide)) (fun _ m2 q2 => ?_)
      obtain ⟨z1, z2⟩ := tC_of t2 q2
      rw [show trf g (1 + 8 * (m1.1 2 3).toInt + (1 : Int32).toInt) = g from if_neg g0] at z1
      unfold D119_4_2_131
      exact cN_stop a1 z1 g0 (K1 g _ e1 g0 ⟨_, _, z1⟩ ((kM12 z2).trans r12))
    · have t2 := tC_5 t1 i r
      obtain ⟨k1, k2⟩ := K2 v e r _ e1 er t2 r12 r5
      have go : ¬ (isH = true ∧ i = 1 ∧ (xu m1 5 i r).1 5 0 = (xu m1 5 i r).1 5 1) → xP (D119_4_2_131 F (D119_4_2_10 F (f + 1)) v2 v3 v4 v5 v6 w0 (xu m1 5 i r)) Q := fun z => by
        unfold D119_4_2_131
        exact k2 z
      refine xP_i (fun c => go (fun z => ?_)) (fun c => xP_i (fun d => go (fun z => ?_)) (fun d => xP_i (fun e5 => go (fun z => ?_)) (fun e5 => ?_)))
      · rcases hv with ⟨-, hv⟩ | ⟨hv, -⟩
        · rw [z.1] at hv
          cases hv
        · rw [hv] at c
          cases c
      · have d : v5 ≠ 1 := znet d
        exact d (Int32.toInt_inj.mp (by rw [a7, z.2.1]; rfl))
      · have e5 : (xu m1 5 i r).1 5 0 ≠ (xu m1 5 i r).1 5 1 := znet e5
        exact e5 z.2.2
      · have d : v5 = 1 := zne d
        have i1 : i = 1 := by
          rw [d] at a7
          have : (1 : Int) = (i : Int) := a7
          omega
        have h1 : isH = true := by
          rcases hv with ⟨hv, -⟩ | ⟨-, hv⟩
          · rw [hv] at c
            exact absurd c (by decide)
          · exact hv
        have e3 : (xu m1 5 i r).1 2 3 = m1.1 2 3 := xu_o (fun y => absurd y.1 (by decide))
        have gl : tsk b n p ≤ n := tS_le _ h.2.2.1.2
        have n4 := t2.1.2.1
        refine xP_b (cRef t2 (a := m1.1 2 3) (c := 1) (x := 1) t1.2.2.2.1 (by omega) rfl (by decide) (by decide)) (fun _ m2 q2 => ?_)
        unfold D119_4_2_131
        refine cN_stop a1 q2.2 (by omega) (k1 ⟨h1, i1, zne e5⟩ _ q2.2 ((kM12 q2.1).trans r12))
  unfold D119_4_2_10
  refine xP_g a1 (xP_i (fun c => absurd c (by rw [a2]; decide)) (fun _ => ?_))
  refine xP_b (cSnd h) (fun r m1 q => ?_)
  obtain ⟨rfl, q⟩ := q
  rcases q with ⟨rfl, -⟩ | ⟨-, q⟩
  rotate_left
  · exact absurd rfl q
  dsimp only
  refine xP_i (fun c => absurd c (by decide)) (fun _ => xP_g a3 ?_)
  unfold D119_4_2_50
  cases isH with
  | false =>
    refine xP_i (fun _ => ?_) (fun c => absurd c (by rw [a4]; decide))
    exact xP_i (fun _ => xP_g a3 (body 0 _ (Or.inl ⟨rfl, rfl⟩) a6)) (fun c => absurd c (by decide))
  | true =>
    refine xP_i (fun c => absurd c (by rw [a4]; decide)) (fun _ => ?_)
    exact xP_i (fun c => absurd c (by decide)) (fun _ => body 1 _ (Or.inr ⟨rfl, rfl⟩) a6)
theorem cN_0 {v2 : Int32} (hF : 500 ≤ F) (h : tC m0 b n p bg 0 m) : xP (D119_4_2 F v2 0 m) (fun _ m' => (∃ g, vbod b n p s 0 = .inl g ∧ g ≠ 0 ∧ (∃ p' bg', tC m0 b n p' bg' g m') ∧ m'.1 12 = m.1 12) ∨ (∃ (xa xb : Int) (e : Nat), vbod b n p s 0 = .inr (e, vup (vup s 1 xb) 0 xa) ∧ ((2 ≤ xa ∧ xa ≤ 6) ∧ (1 ≤ xb ∧ xb ≤ 20)) ∧ ((m'.1 5 0).toInt = xa ∧ (m'.1 5 1).toInt = xb) ∧ (∃ bg', tC m0 b n e bg' 0 m') ∧ m'.1 12 = m.1 12)) := by
  have hb : vbod b n p s 0 = (vn b n p 2 6 fun a e => vn b n e 1 20 fun c e2 => .inr (e2, vup (vup s 1 c) 0 a)) := by
    unfold vbod
    rw [if_pos rfl]
  unfold D119_4_2
  rw [show zsv 30 ((0 : Int32)).toNatClampNeg = 0 from by decide +kernel]
  refine xP_g (by decide) ?_
  obtain ⟨f, hf⟩ : ∃ f, F = f + 6 := ⟨F - 6, by omega⟩
  have key : ∀ f', F = f' → xP (D119_4_2_10 F f' v2 0 0 0 m) (fun _ m' => (∃ g, vbod b n p s 0 = .inl g ∧ g ≠ 0 ∧ (∃ p' bg', tC m0 b n p' bg' g m') ∧ m'.1 12 = m.1 12) ∨ (∃ (xa xb : Int) (e : Nat), vbod b n p s 0 = .inr (e, vup (vup s 1 xb) 0 xa) ∧ ((2 ≤ xa ∧ xa ≤ 6) ∧ (1 ≤ xb ∧ xb ≤ 20)) ∧ ((m'.1 5 0).toInt = xa ∧ (m'.1 5 1).toInt = xb) ∧ (∃ bg', tC m0 b n e bg' 0 m') ∧ m'.1 12 = m.1 12)) := by
    intro f' e
    obtain rfl : f' = f + 6 := e.symm.trans hf
    refine cN10 (i := 0) (isH := false) (l := 2) (u := 6) hF (by decide) (by decide +kernel) (by decide) (by decide +kernel) (by decide +kernel) ((if_neg (by decide)).trans (by decide +kernel)) (by decide) (by decide) h (fun g m' z1 g0 t r => ?_) (fun xa p0 r0 m0 e0 er0 t0 f0 w0 => ?_)
    · exact Or.inl ⟨g, by rw [hb, vn_l z1], g0, t, r⟩
    refine ⟨fun z => absurd z (by simp), fun _ => ?_⟩
    refine cN10 (i := 1) (isH := false) (l := 1) (u := 20) hF (by decide) (by decide +kernel) (by decide) (by decide +kernel) (by decide +kernel) ((if_neg (by decide)).trans (by decide +kernel)) (by decide) (by decide) t0 (fun g m' z1 g0 t r => ?_) (fun xb p1 r1 m1 e1 er1 t1 f1 w1 => ?_)
    · exact Or.inl ⟨g, by rw [hb, vn_r e0, vn_l z1], g0, t, r.trans f0⟩
    have f1 := f1.trans f0
    refine ⟨fun z => absurd z (by simp), fun _ => ?_⟩
    refine cN_exit (by decide) (by decide +kernel) (Or.inr ⟨xa, xb, _, by rw [hb, vn_r e0, vn_r e1], ?_, ?_, ⟨_, t1⟩, f1⟩)
    · have vb0 := vnu_b e0
      have vb1 := vnu_b e1
      exact ⟨⟨vb0.1, vb0.2.1⟩, ⟨vb1.1, vb1.2.1⟩⟩
    · exact ⟨by rw [w1, if_neg (by decide), w0, if_pos rfl]; exact er0, by rw [w1, if_pos rfl]; exact er1⟩
  exact key F rfl
theorem cN_1 {v2 : Int32} (hF : 500 ≤ F) (h : tC m0 b n p bg 0 m) (hh : v2.toInt = s 0) (h0 : 0 ≤ s 0) (h6 : s 0 ≤ 6) : xP (D119_4_2 F v2 1 m) (fun _ m' => (∃ g, vbod b n p s 1 = .inl g ∧ g ≠ 0 ∧ (∃ p' bg', tC m0 b n p' bg' g m') ∧ m'.1 12 = m.1 12) ∨ (∃ (xa xb xc : Int) (e : Nat), vbod b n p s 1 = .inr (e, vTool s (s 2).toNat xa xb xc) ∧ ((0 ≤ xa ∧ xa ≤ s 0 - 1) ∧ (0 ≤ xb ∧ xb ≤ 4) ∧ (0 ≤ xc ∧ xc ≤ 9)) ∧ ((m'.1 5 0).toInt = xa ∧ (m'.1 5 1).toInt = xb ∧ (m'.1 5 2).toInt = xc) ∧ (∃ bg', tC m0 b n e bg' 0 m') ∧ m'.1 12 = m.1 12)) := by
  have hb : vbod b n p s 1 = (vn b n p 0 (s 0 - 1) fun a e => vn b n e 0 4 fun c e2 => vn b n e2 0 9 fun d e3 => .inr (e3, vTool s (s 2).toNat a c d)) := by
    unfold vbod
    rw [if_neg (by decide), if_pos rfl]
  unfold D119_4_2
  rw [show zsv 30 ((1 : Int32)).toNatClampNeg = 2 from by decide +kernel]
  refine xP_g (by decide) ?_
  obtain ⟨f, hf⟩ : ∃ f, F = f + 6 := ⟨F - 6, by omega⟩
  have key : ∀ f', F = f' → xP (D119_4_2_10 F f' v2 1 2 0 m) (fun _ m' => (∃ g, vbod b n p s 1 = .inl g ∧ g ≠ 0 ∧ (∃ p' bg', tC m0 b n p' bg' g m') ∧ m'.1 12 = m.1 12) ∨ (∃ (xa xb xc : Int) (e : Nat), vbod b n p s 1 = .inr (e, vTool s (s 2).toNat xa xb xc) ∧ ((0 ≤ xa ∧ xa ≤ s 0 - 1) ∧ (0 ≤ xb ∧ xb ≤ 4) ∧ (0 ≤ xc ∧ xc ≤ 9)) ∧ ((m'.1 5 0).toInt = xa ∧ (m'.1 5 1).toInt = xb ∧ (m'.1 5 2).toInt = xc) ∧ (∃ bg', tC m0 b n e bg' 0 m') ∧ m'.1 12 = m.1 12)) := by
    intro f' e
    obtain rfl : f' = f + 6 := e.symm.trans hf
    refine cN10 (i := 0) (isH := true) (l := 0) (u := s 0 - 1) hF (by decide) (by decide +kernel) (by decide) (by decide +kernel) (by decide +kernel) ((if_pos rfl).trans (rh1 hh h0 h6)) (by decide) (by decide) h (fun g m' z1 g0 t r => ?_) (fun xa p0 r0 m0 e0 er0 t0 f0 w0 => ?_)
    · exact Or.inl ⟨g, by rw [hb, vn_l z1], g0, t, r⟩
    refine ⟨fun z => absurd z (by simp), fun _ => ?_⟩
    refine cN10 (i := 1) (isH := false) (l := 0) (u := 4) hF (by decide) (by decide +kernel) (by decide) (by decide +kernel) (by decide +kernel) ((if_neg (by decide)).trans (by decide +kernel)) (by decide) (by decide) t0 (fun g m' z1 g0 t r => ?_) (fun xb p1 r1 m1 e1 er1 t1 f1 w1 => ?_)
    · exact Or.inl ⟨g, by rw [hb, vn_r e0, vn_l z1], g0, t, r.trans f0⟩
    have f1 := f1.trans f0
    refine ⟨fun z => absurd z (by simp), fun _ => ?_⟩
    refine cN10 (i := 2) (isH := false) (l := 0) (u := 9) hF (by decide) (by decide +kernel) (by decide) (by decide +kernel) (by decide +kernel) ((if_neg (by decide)).trans (by decide +kernel)) (by decide) (by decide) t1 (fun g m' z1 g0 t r => ?_) (fun xc p2 r2 m2 e2 er2 t2 f2 w2 => ?_)
    · exact Or.inl ⟨g, by rw [hb, vn_r e0, vn_r e1, vn_l z1], g0, t, r.trans f1⟩
    have f2 := f2.trans f1
    refine ⟨fun z => absurd z (by simp), fun _ => ?_⟩
    refine cN_exit (by decide) (by decide +kernel) (Or.inr ⟨xa, xb, xc, _, by rw [hb, vn_r e0, vn_r e1, vn_r e2], ?_, ?_, ⟨_, t2⟩, f2⟩)
    · have vb0 := vnu_b e0
      have vb1 := vnu_b e1
      have vb2 := vnu_b e2
      exact ⟨⟨vb0.1, vb0.2.1⟩, ⟨vb1.1, vb1.2.1⟩, ⟨vb2.1, vb2.2.1⟩⟩
    · exact ⟨by rw [w2, if_neg (by decide), w1, if_neg (by decide), w0, if_pos rfl]; exact er0, by rw [w2, if_neg (by decide), w1, if_pos rfl]; exact er1, by rw [w2, if_pos rfl]; exact er2⟩
  exact key F rfl
theorem cN_2 {v2 : Int32} (hF : 500 ≤ F) (h : tC m0 b n p bg 0 m) (hh : v2.toInt = s 0) (h0 : 0 ≤ s 0) (h6 : s 0 ≤ 6) : xP (D119_4_2 F v2 2 m) (fun _ m' => (∃ g, vbod b n p s 2 = .inl g ∧ g ≠ 0 ∧ (∃ p' bg', tC m0 b n p' bg' g m') ∧ m'.1 12 = m.1 12) ∨ (∃ (xa xb : Int) (e : Nat), vbod b n p s 2 = .inr (e, vup s (46 + 6 * xa.toNat + xb.toNat) 1) ∧ ((0 ≤ xa ∧ xa ≤ s 0 - 1) ∧ (0 ≤ xb ∧ xb ≤ s 0 - 1) ∧ xa ≠ xb) ∧ ((m'.1 5 0).toInt = xa ∧ (m'.1 5 1).toInt = xb) ∧ (∃ bg', tC m0 b n e bg' 0 m') ∧ m'.1 12 = m.1 12)) := by
  have hb : vbod b n p s 2 = (vn b n p 0 (s 0 - 1) fun a e => vn b n e 0 (s 0 - 1) fun c e2 => if a = c then .inl (1 + 8 * (tsk b n e : Int) + 1) else .inr (e2, vup s (46 + 6 * a.toNat + c.toNat) 1)) := by
    unfold vbod
    rw [if_neg (by decide), if_neg (by decide), if_pos rfl]
    rfl
  unfold D119_4_2
  rw [show zsv 30 ((2 : Int32)).toNatClampNeg = 5 from by decide +kernel]
  refine xP_g (by decide) ?_
  obtain ⟨f, hf⟩ : ∃ f, F = f + 6 := ⟨F - 6, by omega⟩
  have key : ∀ f', F = f' → xP (D119_4_2_10 F f' v2 2 5 0 m) (fun _ m' => (∃ g, vbod b n p s 2 = .inl g ∧ g ≠ 0 ∧ (∃ p' bg', tC m0 b n p' bg' g m') ∧ m'.1 12 = m.1 12) ∨ (∃ (xa xb : Int) (e : Nat), vbod b n p s 2 = .inr (e, vup s (46 + 6 * xa.toNat + xb.toNat) 1) ∧ ((0 ≤ xa ∧ xa ≤ s 0 - 1) ∧ (0 ≤ xb ∧ xb ≤ s 0 - 1) ∧ xa ≠ xb) ∧ ((m'.1 5 0).toInt = xa ∧ (m'.1 5 1).toInt = xb) ∧ (∃ bg', tC m0 b n e bg' 0 m') ∧ m'.1 12 = m.1 12)) := by
    intro f' e
    obtain rfl : f' = f + 6 := e.symm.trans hf
    refine cN10 (i := 0) (isH := true) (l := 0) (u := s 0 - 1) hF (by decide) (by decide +kernel) (by decide) (by decide +kernel) (by decide +kernel) ((if_pos rfl).trans (rh1 hh h0 h6)) (by decide) (by decide) h (fun g m' z1 g0 t r => ?_) (fun xa p0 r0 m0 e0 er0 t0 f0 w0 => ?_)
    · exact Or.inl ⟨g, by rw [hb, vn_l z1], g0, t, r⟩
    refine ⟨fun z => absurd z (by simp), fun _ => ?_⟩
    refine cN10 (i := 1) (isH := true) (l := 0) (u := s 0 - 1) hF (by decide) (by decide +kernel) (by decide) (by decide +kernel) (by decide +kernel) ((if_pos rfl).trans (rh1 hh h0 h6)) (by decide) (by decide) t0 (fun g m' z1 g0 t r => ?_) (fun xb p1 r1 m1 e1 er1 t1 f1 w1 => ?_)
    · exact Or.inl ⟨g, by rw [hb, vn_r e0, vn_l z1], g0, t, r.trans f0⟩
    have f1 := f1.trans f0
    have w0e : (m1.1 5 0).toInt = xa := by rw [w1, if_neg (by decide), w0, if_pos rfl]; exact er0
    have w1e : (m1.1 5 1).toInt = xb := by rw [w1, if_pos rfl]; exact er1
    refine ⟨fun z m'' t2 r2 => ?_, fun z => ?_⟩
    · have eq : xa = xb := by rw [← w0e, ← w1e, z.2.2]
      exact Or.inl ⟨_, by rw [hb, vn_r e0, vn_r e1, if_pos eq], by omega, ⟨_, _, t2⟩, r2.trans f0⟩
    have ne : xa ≠ xb := fun z2 => z ⟨rfl, rfl, Int32.toInt_inj.mp (by rw [w0e, w1e, z2])⟩
    refine cN_exit (by decide) (by decide +kernel) (Or.inr ⟨xa, xb, _, by rw [hb, vn_r e0, vn_r e1, if_neg ne], ?_, ?_, ⟨_, t1⟩, f1⟩)
    · have vb0 := vnu_b e0
      have vb1 := vnu_b e1
      exact ⟨⟨vb0.1, vb0.2.1⟩, ⟨vb1.1, vb1.2.1⟩, ne⟩
    · exact ⟨by rw [w1, if_neg (by decide), w0, if_pos rfl]; exact er0, by rw [w1, if_pos rfl]; exact er1⟩
  exact key F rfl
theorem cN_3 {v2 : Int32} (hF : 500 ≤ F) (h : tC m0 b n p bg 0 m) (hh : v2.toInt = s 0) (h0 : 0 ≤ s 0) (h6 : s 0 ≤ 6) : xP (D119_4_2 F v2 3 m) (fun _ m' => (∃ g, vbod b n p s 3 = .inl g ∧ g ≠ 0 ∧ (∃ p' bg', tC m0 b n p' bg' g m') ∧ m'.1 12 = m.1 12) ∨ (∃ (xa xb xc xd : Int) (e : Nat), vbod b n p s 3 = .inr (e, vWork s (s 3).toNat xa xb xc xd) ∧ ((0 ≤ xa ∧ xa ≤ s 0 - 1) ∧ (0 ≤ xb ∧ xb ≤ 4) ∧ (1 ≤ xc ∧ xc ≤ 20) ∧ (1 ≤ xd ∧ xd ≤ 50)) ∧ ((m'.1 5 0).toInt = xa ∧ (m'.1 5 1).toInt = xb ∧ (m'.1 5 2).toInt = xc ∧ (m'.1 5 3).toInt = xd) ∧ (∃ bg', tC m0 b n e bg' 0 m') ∧ m'.1 12 = m.1 12)) := by
  have hb : vbod b n p s 3 = (vn b n p 0 (s 0 - 1) fun a e => vn b n e 0 4 fun c e2 => vn b n e2 1 20 fun d e3 => vn b n e3 1 50 fun f e4 => .inr (e4, vWork s (s 3).toNat a c d f)) := by
    unfold vbod
    rw [if_neg (by decide), if_neg (by decide), if_neg (by decide), if_pos rfl]
  unfold D119_4_2
  rw [show zsv 30 ((3 : Int32)).toNatClampNeg = 7 from by decide +kernel]
  refine xP_g (by decide) ?_
  obtain ⟨f, hf⟩ : ∃ f, F = f + 6 := ⟨F - 6, by omega⟩
  have key : ∀ f', F = f' → xP (D119_4_2_10 F f' v2 3 7 0 m) (fun _ m' => (∃ g, vbod b n p s 3 = .inl g ∧ g ≠ 0 ∧ (∃ p' bg', tC m0 b n p' bg' g m') ∧ m'.1 12 = m.1 12) ∨ (∃ (xa xb xc xd : Int) (e : Nat), vbod b n p s 3 = .inr (e, vWork s (s 3).toNat xa xb xc xd) ∧ ((0 ≤ xa ∧ xa ≤ s 0 - 1) ∧ (0 ≤ xb ∧ xb ≤ 4) ∧ (1 ≤ xc ∧ xc ≤ 20) ∧ (1 ≤ xd ∧ xd ≤ 50)) ∧ ((m'.1 5 0).toInt = xa ∧ (m'.1 5 1).toInt = xb ∧ (m'.1 5 2).toInt = xc ∧ (m'.1 5 3).toInt = xd) ∧ (∃ bg', tC m0 b n e bg' 0 m') ∧ m'.1 12 = m.1 12)) := by
    intro f' e
    obtain rfl : f' = f + 6 := e.symm.trans hf
    refine cN10 (i := 0) (isH := true) (l := 0) (u := s 0 - 1) hF (by decide) (by decide +kernel) (by decide) (by decide +kernel) (by decide +kernel) ((if_pos rfl).trans (rh1 hh h0 h6)) (by decide) (by decide) h (fun g m' z1 g0 t r => ?_) (fun xa p0 r0 m0 e0 er0 t0 f0 w0 => ?_)
    · exact Or.inl ⟨g, by rw [hb, vn_l z1], g0, t, r⟩
    refine ⟨fun z => absurd z (by simp), fun _ => ?_⟩
    refine cN10 (i := 1) (isH := false) (l := 0) (u := 4) hF (by decide) (by decide +kernel) (by decide) (by decide +kernel) (by decide +kernel) ((if_neg (by decide)).trans (by decide +kernel)) (by decide) (by decide) t0 (fun g m' z1 g0 t r => ?_) (fun xb p1 r1 m1 e1 er1 t1 f1 w1 => ?_)
    · exact Or.inl ⟨g, by rw [hb, vn_r e0, vn_l z1], g0, t, r.trans f0⟩
    have f1 := f1.trans f0
    refine ⟨fun z => absurd z (by simp), fun _ => ?_⟩
    refine cN10 (i := 2) (isH := false) (l := 1) (u := 20) hF (by decide) (by decide +kernel) (by decide) (by decide +kernel) (by decide +kernel) ((if_neg (by decide)).trans (by decide +kernel)) (by decide) (by decide) t1 (fun g m' z1 g0 t r => ?_) (fun xc p2 r2 m2 e2 er2 t2 f2 w2 => ?_)
    · exact Or.inl ⟨g, by rw [hb, vn_r e0, vn_r e1, vn_l z1], g0, t, r.trans f1⟩
    have f2 := f2.trans f1
    refine ⟨fun z => absurd z (by simp), fun _ => ?_⟩
    refine cN10 (i := 3) (isH := false) (l := 1) (u := 50) hF (by decide) (by decide +kernel) (by decide) (by decide +kernel) (by decide +kernel) ((if_neg (by decide)).trans (by decide +kernel)) (by decide) (by decide) t2 (fun g m' z1 g0 t r => ?_) (fun xd p3 r3 m3 e3 er3 t3 f3 w3 => ?_)
    · exact Or.inl ⟨g, by rw [hb, vn_r e0, vn_r e1, vn_r e2, vn_l z1], g0, t, r.trans f2⟩
    have f3 := f3.trans f2
    refine ⟨fun z => absurd z (by simp), fun _ => ?_⟩
    refine cN_exit (by decide) (by decide +kernel) (Or.inr ⟨xa, xb, xc, xd, _, by rw [hb, vn_r e0, vn_r e1, vn_r e2, vn_r e3], ?_, ?_, ⟨_, t3⟩, f3⟩)
    · have vb0 := vnu_b e0
      have vb1 := vnu_b e1
      have vb2 := vnu_b e2
      have vb3 := vnu_b e3
      exact ⟨⟨vb0.1, vb0.2.1⟩, ⟨vb1.1, vb1.2.1⟩, ⟨vb2.1, vb2.2.1⟩, ⟨vb3.1, vb3.2.1⟩⟩
    · exact ⟨by rw [w3, if_neg (by decide), w2, if_neg (by decide), w1, if_neg (by decide), w0, if_pos rfl]; exact er0, by rw [w3, if_neg (by decide), w2, if_neg (by decide), w1, if_pos rfl]; exact er1, by rw [w3, if_neg (by decide), w2, if_pos rfl]; exact er2, by rw [w3, if_pos rfl]; exact er3⟩
  exact key F rfl
theorem cN_4 {v2 : Int32} (hF : 500 ≤ F) (h : tC m0 b n p bg 0 m) (hh : v2.toInt = s 0) (h0 : 0 ≤ s 0) (h6 : s 0 ≤ 6) : xP (D119_4_2 F v2 4 m) (fun _ m' => (∃ g, vbod b n p s 4 = .inl g ∧ g ≠ 0 ∧ (∃ p' bg', tC m0 b n p' bg' g m') ∧ m'.1 12 = m.1 12) ∨ (∃ (xa xb xc : Int) (e : Nat), vbod b n p s 4 = .inr (e, vup s (82 + 6 * xa.toNat + xb.toNat) xc) ∧ ((0 ≤ xa ∧ xa ≤ s 0 - 1) ∧ (0 ≤ xb ∧ xb ≤ s 0 - 1) ∧ (0 ≤ xc ∧ xc ≤ 9) ∧ xa ≠ xb) ∧ ((m'.1 5 0).toInt = xa ∧ (m'.1 5 1).toInt = xb ∧ (m'.1 5 2).toInt = xc) ∧ (∃ bg', tC m0 b n e bg' 0 m') ∧ m'.1 12 = m.1 12)) := by
  have hb : vbod b n p s 4 = (vn b n p 0 (s 0 - 1) fun a e => vn b n e 0 (s 0 - 1) fun c e2 => if a = c then .inl (1 + 8 * (tsk b n e : Int) + 1) else vn b n e2 0 9 fun d e3 => .inr (e3, vup s (82 + 6 * a.toNat + c.toNat) d)) := by
    unfold vbod
    rw [if_neg (by decide), if_neg (by decide), if_neg (by decide), if_neg (by decide)]
    rfl
  unfold D119_4_2
  rw [show zsv 30 ((4 : Int32)).toNatClampNeg = 11 from by decide +kernel]
  refine xP_g (by decide) ?_
  obtain ⟨f, hf⟩ : ∃ f, F = f + 6 := ⟨F - 6, by omega⟩
  have key : ∀ f', F = f' → xP (D119_4_2_10 F f' v2 4 11 0 m) (fun _ m' => (∃ g, vbod b n p s 4 = .inl g ∧ g ≠ 0 ∧ (∃ p' bg', tC m0 b n p' bg' g m') ∧ m'.1 12 = m.1 12) ∨ (∃ (xa xb xc : Int) (e : Nat), vbod b n p s 4 = .inr (e, vup s (82 + 6 * xa.toNat + xb.toNat) xc) ∧ ((0 ≤ xa ∧ xa ≤ s 0 - 1) ∧ (0 ≤ xb ∧ xb ≤ s 0 - 1) ∧ (0 ≤ xc ∧ xc ≤ 9) ∧ xa ≠ xb) ∧ ((m'.1 5 0).toInt = xa ∧ (m'.1 5 1).toInt = xb ∧ (m'.1 5 2).toInt = xc) ∧ (∃ bg', tC m0 b n e bg' 0 m') ∧ m'.1 12 = m.1 12)) := by
    intro f' e
    obtain rfl : f' = f + 6 := e.symm.trans hf
    refine cN10 (i := 0) (isH := true) (l := 0) (u := s 0 - 1) hF (by decide) (by decide +kernel) (by decide) (by decide +kernel) (by decide +kernel) ((if_pos rfl).trans (rh1 hh h0 h6)) (by decide) (by decide) h (fun g m' z1 g0 t r => ?_) (fun xa p0 r0 m0 e0 er0 t0 f0 w0 => ?_)
    · exact Or.inl ⟨g, by rw [hb, vn_l z1], g0, t, r⟩
    refine ⟨fun z => absurd z (by simp), fun _ => ?_⟩
    refine cN10 (i := 1) (isH := true) (l := 0) (u := s 0 - 1) hF (by decide) (by decide +kernel) (by decide) (by decide +kernel) (by decide +kernel) ((if_pos rfl).trans (rh1 hh h0 h6)) (by decide) (by decide) t0 (fun g m' z1 g0 t r => ?_) (fun xb p1 r1 m1 e1 er1 t1 f1 w1 => ?_)
    · exact Or.inl ⟨g, by rw [hb, vn_r e0, vn_l z1], g0, t, r.trans f0⟩
    have f1 := f1.trans f0
    have w0e : (m1.1 5 0).toInt = xa := by rw [w1, if_neg (by decide), w0, if_pos rfl]; exact er0
    have w1e : (m1.1 5 1).toInt = xb := by rw [w1, if_pos rfl]; exact er1
    refine ⟨fun z m'' t2 r2 => ?_, fun z => ?_⟩
    · have eq : xa = xb := by rw [← w0e, ← w1e, z.2.2]
      exact Or.inl ⟨_, by rw [hb, vn_r e0, vn_r e1, if_pos eq], by omega, ⟨_, _, t2⟩, r2.trans f0⟩
    have ne : xa ≠ xb := fun z2 => z ⟨rfl, rfl, Int32.toInt_inj.mp (by rw [w0e, w1e, z2])⟩
    refine cN10 (i := 2) (isH := false) (l := 0) (u := 9) hF (by decide) (by decide +kernel) (by decide) (by decide +kernel) (by decide +kernel) ((if_neg (by decide)).trans (by decide +kernel)) (by decide) (by decide) t1 (fun g m' z1 g0 t r => ?_) (fun xc p2 r2 m2 e2 er2 t2 f2 w2 => ?_)
    · exact Or.inl ⟨g, by rw [hb, vn_r e0, vn_r e1, if_neg ne, vn_l z1], g0, t, r.trans f1⟩
    have f2 := f2.trans f1
    refine ⟨fun z => absurd z (by simp), fun _ => ?_⟩
    refine cN_exit (by decide) (by decide +kernel) (Or.inr ⟨xa, xb, xc, _, by rw [hb, vn_r e0, vn_r e1, if_neg ne, vn_r e2], ?_, ?_, ⟨_, t2⟩, f2⟩)
    · have vb0 := vnu_b e0
      have vb1 := vnu_b e1
      have vb2 := vnu_b e2
      exact ⟨⟨vb0.1, vb0.2.1⟩, ⟨vb1.1, vb1.2.1⟩, ⟨vb2.1, vb2.2.1⟩, ne⟩
    · exact ⟨by rw [w2, if_neg (by decide), w1, if_neg (by decide), w0, if_pos rfl]; exact er0, by rw [w2, if_neg (by decide), w1, if_pos rfl]; exact er1, by rw [w2, if_pos rfl]; exact er2⟩
  exact key F rfl
end VCL
