/-! Rules on both sides, as heaps hold them. -/
def ruI (hp : zHp) : Prop := ∀ j : Nat, (j : Int) < ((xof hp).1 0 8).toInt → ∃ out, ruC hp j out ∧ ruR (xof hp) j out
abbrev MR (hp : zHp) : Prop := MI hp ∧ ruI hp
abbrev ruM : yM := [(0, 0, 8), (13, 13, 1000), (72, 72, 1000), (74, 75, 1000), (88, 999, 1000)]
theorem cAll_o {m m' : xS} {t : Nat} {cs : cLs} (h2 : ∀ j, 400 * t ≤ j → j < 400 * t + 400 → m'.1 72 j = m.1 72 j) (h4 : ∀ j, 48 * t ≤ j → j < 48 * t + 48 → m'.1 74 j = m.1 74 j) (h5 : m'.1 75 t = m.1 75 t) (h : cAll m t cs) : cAll m' t cs := by
  obtain ⟨a1, a2, a3⟩ := h
  refine ⟨h5.trans a1, a2, fun i q hi => ?_⟩
  have li : i < cs.length := (List.getElem?_eq_some_iff.mp hi).1
  have cA : ∀ a S, cAt m t a S → cAt m' t a S := fun a S z => ⟨z.1, fun j c hj => by
    have lj := (List.getElem?_eq_some_iff.mp hj).1
    have := z.1
    exact (h2 _ (by omega) (by omega)).trans (z.2 j c hj)⟩
  obtain ⟨⟨a, b1, b2, b3, b4⟩, b5⟩ := a3 i q hi
  refine ⟨⟨a, (h4 _ (by omega) (by omega)).trans b1, (h4 _ (by omega) (by omega)).trans b2, cA _ _ b3, b4⟩, ?_⟩
  cases q2 : q.2 with
  | none =>
    rw [q2] at b5
    show (m'.1 74 _).toInt < 0
    rw [h4 _ (by omega) (by omega)]
    exact b5
  | some T =>
    rw [q2] at b5
    obtain ⟨b, g1, g2, g3, g4⟩ := b5
    exact ⟨b, (h4 _ (by omega) (by omega)).trans g1, (h4 _ (by omega) (by omega)).trans g2, cA _ _ g3, g4⟩
theorem ruR_o {m m' : xS} {t : Nat} {o : List Int} (h2 : ∀ j, 400 * t ≤ j → j < 400 * t + 400 → m'.1 72 j = m.1 72 j) (h4 : ∀ j, 48 * t ≤ j → j < 48 * t + 48 → m'.1 74 j = m.1 74 j) (h5 : m'.1 75 t = m.1 75 t) (h : ruR m t o) : ruR m' t o := by
  obtain ⟨CL, Q, a1, a2⟩ := h
  exact ⟨CL, Q, cAll_o h2 h4 h5 a1, a2⟩
theorem ruC_F {M : yM} {hp z : zHp} (H : yH0 hp) (f : yF M hp z) (h : ydj M [(13, 13, 1000), (88, 999, 1000)] = true) {j : Nat} {o : List Int} (k : ruC hp j o) : ruC z j o := by
  have h9 := H.2.1
  obtain ⟨q1, q2, q3, q4, q5, q6, q7⟩ := k
  have c : ∀ i : Nat, yinM [(13, 13, 1000), (88, 999, 1000)] (88 + 3 * j + 1) (i : Int) = true := fun i => yin_r (a := 88) (b := 999) (by decide) (by omega) (by omega)
  exact ⟨(f.2.2 13 j (Or.inr (ydj_ok h 13 j (yin_r (a := 13) (b := 13) (by decide) (by decide) (by decide))))).trans q1, Nat.lt_of_lt_of_le q2 f.1, (f.2.2 _ (-1) (Or.inl ⟨by decide, by omega⟩)).trans q3, q4, q5, fun i hi => (f.2.2 _ i (Or.inr (ydj_ok h _ _ (c i)))).trans (q6 i hi), q7⟩
theorem ruI_F {M : yM} {hp z : zHp} (H : yH0 hp) (f : yF M hp z) (h : ydj M ruM = true) (k : ruI hp) : ruI z := fun j hj => by
  have q : ∀ i j : Nat, yinM ruM i (j : Int) = true → (xof z).1 i j = (xof hp).1 i j := fun i j hj => eF f (ydj_ok h i j hj)
  rw [q 0 8 rfl] at hj
  obtain ⟨o, c, r⟩ := k j hj
  have h9 := H.2.1
  obtain ⟨q1, q2, q3, q4, q5, q6, q7⟩ := c
  have c : ∀ i : Nat, yinM ruM (88 + 3 * j + 1) (i : Int) = true := fun i => yin_r (a := 88) (b := 999) (by decide) (by omega) (by omega)
  refine ⟨o, ⟨(f.2.2 13 j (Or.inr (ydj_ok h 13 j (yin_r (a := 13) (b := 13) (by decide) (by decide) (by decide))))).trans q1, Nat.lt_of_lt_of_le q2 f.1, (f.2.2 _ (-1) (Or.inl ⟨by decide, by omega⟩)).trans q3, q4, q5, fun i hi => (f.2.2 _ i (Or.inr (ydj_ok h _ _ (c i)))).trans (q6 i hi), q7⟩, ?_⟩
  exact ruR_o (fun l _ _ => q 72 l (yin_r (a := 72) (b := 72) (by decide) (by decide) (by decide))) (fun l _ _ => q 74 l (yin_r (a := 74) (b := 75) (by decide) (by decide) (by decide))) (q 75 j (yin_r (a := 74) (b := 75) (by decide) (by decide) (by decide))) r
/-- a pair over MI that leaves rules alone -/
theorem eS {cm : Bool} {n1 n2 : Nat} {sp1 sp2 : ySp} (T1 : yTs (yEA yAr) n1 sp1) (T2 : yTs (yEA yAr) n2 sp2) {na : Nat} {bl : List Nat} (c1 : (eOk 0 na bl sp1.2.2.1 && (decide (n1 ≤ 20) && (decide (na + 1 ≤ sp1.2.1) && sp1.2.2.2.1.all eQok))) = true) (c2 : (eOk 70 na bl sp2.2.2.1 && (decide (n2 ≤ 20) && (decide (na + 1 ≤ sp2.2.1) && sp2.2.2.2.1.all eQok))) = true) (hN : (ydj sp1.2.2.2.2 ruM && ydj sp2.2.2.2.2 ruM) = true) (ys : List Int32) (hl : ys.length = na) (hb : ∀ s ∈ bl, ∀ y, ys[s]? = some y → 0 ≤ y.toInt ∧ y.toInt ≤ 1) (P : lP MI sp1.1 sp2.1 (ys.map .int) cm) : lP MR sp1.1 sp2.1 (ys.map .int) cm := fun hp hI => by
  rw [Bool.and_eq_true] at hN
  obtain ⟨x1, x2, z1, z2, a1, a2, a3, a4, a5, a6, a7, a8⟩ := P hp hI.1
  obtain ⟨x3, z3, b1, b2, b3, -⟩ := eSp T1 c1 hI.1.1.1 hl hb
  have u := zCan_u a3 b1
  cases u
  obtain ⟨x4, z4, d1, d2, d3, -⟩ := eSp T2 c2 b2 hl hb
  have u := zCan_u a5 d1
  cases u
  exact ⟨x1, x2, z1, z2, a1, a2, a3, a4, a5, a6, ⟨a7, ruI_F b2.1 d3 hN.2 (ruI_F hI.1.1.1.1 b3 hN.1 hI.2)⟩, a8⟩
/-- rule, over all of it -/
theorem nRule : lP MR 126 197 [] true := fun hp hI => by
  obtain ⟨x1, x2, z1, z2, a1, a2, a3, a4, a5, a6, a7, a8⟩ := m3 hp hI.1
  refine ⟨x1, x2, z1, z2, a1, a2, a3, a4, a5, a6, ⟨a7, ?_⟩, a8⟩
  have J := hI.1.1
  obtain ⟨x3, w1, p1, p2, p3, -⟩ := eSp (yl646 yXx) (c := 0) (na := 0) (bl := []) (by decide +kernel) J.1 (ys := []) rfl (fun s hs => by cases hs)
  have u := zCan_u a3 p1
  cases u
  obtain ⟨x4, w2, q1, q2, q3, -⟩ := eSp (yl3 yXx) (c := 70) (na := 0) (bl := []) (by decide +kernel) p2 (ys := []) rfl (fun s hs => by cases hs)
  have u := zCan_u a5 q1
  cases u
  have hT := xT_of J.1.1
  have b1 : (0 : Int) ≤ ((xof hp).1 0 1).toInt ∧ ((xof hp).1 0 1).toInt ≤ 400 := hT 0 1 (0, 400) rfl
  have b8 : (0 : Int) ≤ ((xof hp).1 0 8).toInt ∧ ((xof hp).1 0 8).toInt ≤ 6 := hT 0 8 (0, 6) rfl
  obtain ⟨n, hn⟩ : ∃ n : Nat, ((xof hp).1 0 1).toInt = (n : Int) := ⟨((xof hp).1 0 1).toInt.toNat, by omega⟩
  obtain ⟨r, hr⟩ : ∃ r : Nat, ((xof hp).1 0 8).toInt = (r : Int) := ⟨((xof hp).1 0 8).toInt.toNat, by omega⟩
  obtain ⟨v, x, k1, -, kR, hQ⟩ := kRul (b := fun j => ((xof hp).1 1 j).toInt) (d := 20) J.1.1 J.1.2.2.2 (by decide) hn (fun _ _ => rfl)
  have u := zCan_u p1 k1
  cases u
  have f70 : ∀ j, (xof z1).1 70 j = (xof hp).1 70 j := fun j => eF p3 (by unfold yinM; rfl)
  have f71 : ∀ j, (xof z1).1 71 j = (xof hp).1 71 j := fun j => eF p3 (by unfold yinM; rfl)
  have N : rN (xof z1) (fun j => ((xof hp).1 1 j).toInt) n := ⟨by rw [f70]; exact J.2.1.trans hn, by omega, fun j hj => ⟨hT 1 j (0, 255) (eb1 (by omega)), by rw [f71]; exact J.2.2.2 j (by omega)⟩⟩
  obtain ⟨y, hy, -, hQ2⟩ := R197x (F := 500) (r := r) (Nat.le_refl _) N (xT_of p2.1) (by rw [f70]; exact J.2.2.1.trans hr) (by omega)
  have u2 := Z197 p2.1 hy (d := 20) (by decide)
  rw [xW_of] at u2
  have u2 := zCan_u q1 u2
  cases u2
  have e08 : (xof (xW z1 y.2)).1 0 8 = (xof z1).1 0 8 := eF q3 rfl
  have r72 : (xof (xW z1 y.2)).1 72 = y.2.1 72 := xof_t p2.1 (k := 0) (n := 2400) (by decide)
  have r73 : (xof (xW z1 y.2)).1 73 = y.2.1 73 := xof_t p2.1 (k := 0) (n := 7) (by decide)
  have r74 : (xof (xW z1 y.2)).1 74 = y.2.1 74 := xof_t p2.1 (k := 0) (n := 288) (by decide)
  have r75 : (xof (xW z1 y.2)).1 75 = y.2.1 75 := xof_t p2.1 (k := 0) (n := 6) (by decide)
  have cz : ∀ {j : Nat} {o : List Int}, ruC z1 j o → ruC (xW z1 y.2) j o := fun k => ruC_F p2.1 q3 (by decide +kernel) k
  have c1 : ∀ i, 70 ≤ i → i < 88 → (xof z1).1 i = (xof hp).1 i := fun i l1 l2 => funext fun j => eF p3 (by
    unfold yinM
    simp only [show ys646.2.2.2.2 = [(0, 0, 1), (0, 0, 8), (2, 2, 0), (2, 2, 1), (2, 2, 2), (2, 2, 3), (2, 2, 4), (6, 6, 1), (6, 6, 3), (6, 6, 4), (6, 6, 5), (6, 6, 6), (6, 6, 7), (6, 6, 8), (6, 6, 9), (7, 8, 1000), (13, 13, 1000), (88, 999, 1000)] from rfl, List.any_cons, List.any_nil, Bool.or_false, Bool.or_eq_false_iff, Bool.and_eq_false_iff, decide_eq_false_iff_not]
    omega)
  -- the rules that were there
  have old : ∀ {j : Nat}, j < r → r < 6 → rO (xof z1) r y.2 → ∃ out, ruC (xW z1 y.2) j out ∧ ruR (xof (xW z1 y.2)) j out := fun {j} hj _ O => by
    obtain ⟨o, k1, k2⟩ := hI.2 j (by omega)
    refine ⟨o, cz (kR j o (by omega) k1), ruR_o (fun l l1 l2 => ?_) (fun l l1 l2 => ?_) ?_ k2⟩
    · rw [r72, O.1 l (by omega), c1 72 (by decide) (by decide)]
    · rw [r74, O.2.2 l (by omega), c1 74 (by decide) (by decide)]
    · rw [r75, (O.2.1 j (by omega)).2, c1 75 (by decide) (by decide)]
  intro j hj
  rw [e08] at hj
  rcases hQ with ⟨c6, -, c2⟩ | ⟨c6, c1', c2⟩
  · subst c2
    rcases hQ2 with ⟨-, -, m2⟩ | ⟨l2, -⟩
    · rw [m2, xW_of]
      exact hI.2 j hj
    · omega
  · rcases hQ2 with ⟨l2, -, -⟩ | ⟨l2, t0, O, t⟩
    · omega
    · rcases c2 with ⟨g, g1, g2, -, g4⟩ | ⟨s, s1, -, s3, s4⟩
      · rw [g4] at hj
        exact old (by omega) l2 O
      · rcases t with ⟨J', g', j1, j2, j3, -, j5⟩ | ⟨J', s', L, j1, j2, j3, -, j5, j6, j7, j8, j9⟩
        · rw [trun_l J' 401 j3 j2 j1] at s1
          cases s1
        · rw [trun_r j3 J' 401 j2 j1] at s1
          have s1 : s' = s := Sum.inr.inj s1
          subst s1
          by_cases h : j < r
          · exact old h l2 O
          · have e : j = r := by omega
            subst e
            rw [hr, Int.toNat_natCast] at s4
            refine ⟨_, cz s4, ruR_of l2 q2.2.2.1 j2 j3 j6 j7 j8 ?_⟩
            unfold rK
            rw [r72, r73, r74, r75]
            exact j9
/-! run. -/
theorem rlA_of {hp : zHp} (H : yH0 hp) {j : Nat} {o : List Int} (C : ruC hp j o) (j6 : j < 6) {ru : Int32} (e : ru.toInt = (j : Int)) : rlA hp ru (88 + 3 * j) o.length := by
  obtain ⟨q1, q2, q3, q4, -⟩ := C
  have h9 := H.2.1
  have c0 := H.2.2 (88 + 3 * j) (by omega)
  have c1 := H.2.2 (89 + 3 * j) (by omega)
  have c2 := H.2.2 (90 + 3 * j) (by omega)
  have c13 := H.2.2 13 (by omega)
  rw [yty_r0] at c0
  rw [yty_r1] at c1
  rw [yty_r2] at c2
  rw [yty13] at c13
  obtain ⟨fs, e1, e2, e3⟩ : ∃ fs : List Value, hp.2 (88 + 3 * j) = .inr (4, fs) ∧ fs.length = 2 ∧ ∀ (l : Nat) (t : Nat × Int × Int), [((2, ((88 + 3 * j : Nat) : Int) + 1, ((88 + 3 * j : Nat) : Int) + 1) : Nat × Int × Int), (2, ((88 + 3 * j : Nat) : Int) + 2, ((88 + 3 * j : Nat) : Int) + 2)][l]? = some t → ∃ v, fs[l]? = some v ∧ yft t v := c0
  obtain ⟨v0, f0, i0, rfl, g0, g0'⟩ := e3 0 _ rfl
  obtain ⟨v1, f1, i1, rfl, g1, g1'⟩ := e3 1 _ rfl
  have g0 : ((88 + 3 * j : Nat) : Int) + 1 ≤ (i0 : Int) := g0
  have g0' : (i0 : Int) ≤ ((88 + 3 * j : Nat) : Int) + 1 := g0'
  have g1 : ((88 + 3 * j : Nat) : Int) + 2 ≤ (i1 : Int) := g1
  have g1' : (i1 : Int) ≤ ((88 + 3 * j : Nat) : Int) + 2 := g1'
  have efs : fs = [.ref (88 + 3 * j + 1), .ref (88 + 3 * j + 2)] := by
    match fs, e2, f0, f1 with
    | [x, y], _, f0, f1 =>
      have f0 : x = .ref i0 := Option.some.inj f0
      have f1 : y = .ref i1 := Option.some.inj f1
      rw [f0, f1, show i0 = 88 + 3 * j + 1 by omega, show i1 = 88 + 3 * j + 2 by omega]
  obtain ⟨n, g, n4, en⟩ : ∃ (n : Nat) (g : Nat → Int32), n ≤ 400 ∧ hp.2 (89 + 3 * j) = .inl (0, n, .inl g) := c1
  obtain ⟨f, el⟩ : ∃ f : Nat → Int64, hp.2 (90 + 3 * j) = .inl (3, 64, .inr (.inl f)) := c2
  obtain ⟨f13, e13, b13⟩ : ∃ f : Nat → Option Nat, hp.2 13 = .inl (4, 6, .inr (.inr (.inr (.inr f)))) ∧ ∀ j, j < 6 → f j = none ∨ ∃ k : Nat, f j = some (88 + 3 * k) ∧ 88 + 3 * k + 2 < hp.1 := c13
  have nl : n = o.length := by
    rw [show 88 + 3 * j + 1 = 89 + 3 * j by omega] at q3
    unfold yrd at q3
    rw [en] at q3
    dsimp only at q3
    rw [if_pos (by decide), if_pos (by omega)] at q3
    have q3 := Value.int.inj (Option.some.inj q3)
    have z := congrArg Int32.toInt q3
    rw [nJ (by omega), nJ (by omega)] at z
    omega
  refine ⟨⟨⟨H.1, q2, h9, q4⟩, by rw [e1, efs], ⟨g, ?_⟩, ⟨f, ?_⟩⟩, f13, e13, by omega, ?_⟩
  · rw [show 88 + 3 * j + 1 = 89 + 3 * j by omega, en, nl]
  · rw [show 88 + 3 * j + 2 = 90 + 3 * j by omega]
    exact el
  · rw [show ru.toNatClampNeg = j from gxn e]
    rw [yrd_f e13 (by omega), Int.toNat_natCast] at q1
    rcases b13 j j6 with z | ⟨k, z, -⟩
    · rw [z] at q1
      cases q1
    · rw [z] at q1 ⊢
      have q1 : Value.ref (88 + 3 * k) = .ref (88 + 3 * j) := Option.some.inj q1
      exact congrArg some (Value.ref.inj q1)
theorem tk_rev {f : Nat → Int32} : ∀ {n i : Nat} {x : Int}, (tk f n).reverse[i]? = some x → i < n ∧ (f i).toInt = x
  | 0, i, x, h => by cases h
  | n + 1, i, x, h => by
    have h : ((f n).toInt :: tk f n).reverse[i]? = some x := h
    rw [List.reverse_cons] at h
    by_cases z : i < n
    · rw [List.getElem?_append_left (by rw [List.length_reverse, tk_len]; exact z)] at h
      have := tk_rev h
      exact ⟨by omega, this.2⟩
    · rw [List.getElem?_append_right (by rw [List.length_reverse, tk_len]; omega), List.length_reverse, tk_len] at h
      by_cases z2 : i = n
      · subst z2
        rw [Nat.sub_self] at h
        exact ⟨by omega, Option.some.inj h⟩
      · rw [List.getElem?_eq_none (by show 1 ≤ i - n; omega)] at h
        cases h
theorem stp_of {hp : zHp} {j : Nat} {o : List Int} (C : ruC hp j o) : stp (xof hp) (88 + 3 * j) o.reverse := fun i x hi => by
  obtain ⟨-, -, -, -, g, g1, g2⟩ := C
  rw [← g2] at hi
  obtain ⟨l, e⟩ := tk_rev hi
  rw [xof_rd, g1 i l]
  exact e
section PRUNP
variable {s : Nat → Int32} {m : xS} {F : Nat}
/-- when a rule can run -/
def pRu (s : Nat → Int32) (nr : Int) (y1 y2 : Int32) : Prop := 0 < (s 0).toInt ∧ (0 ≤ y1.toInt ∧ y1.toInt < nr) ∧ (1 ≤ y2.toInt ∧ y2.toInt ≤ 60) ∧ (s 4).toInt + y2.toInt ≤ 999
theorem c140 {y1 : Int32} {rk : Bool} {r0 nn : Nat} (h : 0 ≤ y1.toInt ∧ y1.toInt < (m.1 0 8).toInt → rk = true) : D140_0_A F y1 rk r0 nn y1 m = some (pB (decide (0 ≤ y1.toInt) && decide (y1.toInt < (m.1 0 8).toInt)), m) := by
  have l0 : (0 : Int32).toInt = 0 := rfl
  unfold D140_0_A
  by_cases a : y1.toInt < 0
  · rw [decide_eq_false (by omega), Bool.false_and]
    exact oT (zcl.trans (decide_eq_true (by omega))) rfl
  · by_cases b : (m.1 0 8).toInt ≤ y1.toInt
    · rw [decide_eq_false (p := y1.toInt < _) (by omega), Bool.and_false]
      exact oF (zcl.trans (decide_eq_false (by omega))) (oT (zc.trans (decide_eq_true b)) rfl)
    · rw [decide_eq_true (p := 0 ≤ y1.toInt) (by omega), decide_eq_true (by omega)]
      exact oF (zcl.trans (decide_eq_false (by omega))) (oF (zc.trans (decide_eq_false b)) (oT (by rw [h (by omega), beq_self_eq_true]; rfl) rfl))
theorem c139n (R : R32 s (m.1 10)) (I : vI9 s) {y1 y2 : Int32} {rk : Bool} {r0 nn : Nat} (h : 0 ≤ y1.toInt ∧ y1.toInt < (m.1 0 8).toInt → rk = true) (n : ¬ pRu s (m.1 0 8).toInt y1 y2) : D139_0_A F y1 rk r0 nn y1 y2 m = some (-1, m) := by
  have l1 : (1 : Int32).toInt = 1 := rfl
  have l60 : (60 : Int32).toInt = 60 := rfl
  have l999 : (999 : Int32).toInt = 999 := rfl
  have d0 := I_day I.1
  unfold D139_0_A
  by_cases a : 0 < (s 0).toInt
  · refine ob (c76_9 R) (oF (zeF (decide_eq_true a)) (ob (c140 h) ?_))
    by_cases b : 0 ≤ y1.toInt ∧ y1.toInt < (m.1 0 8).toInt
    · refine oF (zeF (by rw [decide_eq_true b.1, decide_eq_true b.2]; rfl)) ?_
      by_cases c : y2.toInt < 1
      · exact oT (zcl.trans (decide_eq_true (by omega))) rfl
      · refine oF (zcl.trans (decide_eq_false (by omega))) ?_
        by_cases d : 60 < y2.toInt
        · exact oT (zcgt.trans (decide_eq_true (by omega))) rfl
        · refine oF (zcgt.trans (decide_eq_false (by omega))) (ob (c81_9 R) ?_)
          have e : ¬ (s 4).toInt + y2.toInt ≤ 999 := fun z => n ⟨a, b, by omega, z⟩
          have e2 : (s 4 + y2).toInt = (s 4).toInt + y2.toInt := xa1 (by omega) (by omega)
          exact oF (zcle.trans (decide_eq_false (by show ¬ (s 4 + y2).toInt ≤ _; omega))) rfl
    · refine oT (zeT ?_) rfl
      by_cases z : 0 ≤ y1.toInt
      · rw [decide_eq_false (p := y1.toInt < (m.1 0 8).toInt) (fun q => b ⟨z, q⟩), Bool.and_false]
      · rw [decide_eq_false z, Bool.false_and]
  · exact ob (c76_9 R) (oT (zeT (decide_eq_false a)) rfl)
theorem c139p (R : R32 s (m.1 10)) (I : vI9 s) {y1 y2 : Int32} {r0 nn : Nat} (n : pRu s (m.1 0 8).toInt y1 y2) : D139_0_A F y1 true r0 nn y1 y2 m = D139_0_A_57 F y1 true r0 nn F y1 y2 (s 5) 0 m := by
  have l1 : (1 : Int32).toInt = 1 := rfl
  have l60 : (60 : Int32).toInt = 60 := rfl
  have l999 : (999 : Int32).toInt = 999 := rfl
  have d0 := I_day I.1
  obtain ⟨a, b, c, d⟩ := n
  have e2 : (s 4 + y2).toInt = (s 4).toInt + y2.toInt := xa1 (by omega) (by omega)
  unfold D139_0_A
  exact ob (c76_9 R) (oF (zeF (decide_eq_true a)) (ob (c140 (fun _ => rfl)) (oF (zeF (by rw [decide_eq_true b.1, decide_eq_true b.2]; rfl)) (oF (zcl.trans (decide_eq_false (by omega))) (oF (zcgt.trans (decide_eq_false (by omega))) (ob (c81_9 R) (oT (zcle.trans (decide_eq_true (by show (s 4 + y2).toInt ≤ _; omega))) (ob (c82_9 R) rfl))))))))
theorem r199 {y1 : Int32} : D199 F y1 m = some (pB (decide (0 ≤ y1.toInt) && decide (y1.toInt < (m.1 70 2).toInt)), m) := by
  have l0 : (0 : Int32).toInt = 0 := rfl
  unfold D199
  by_cases a : y1.toInt < 0
  · rw [decide_eq_false (by omega), Bool.false_and]
    exact oT (zcl.trans (decide_eq_true (by omega))) rfl
  · by_cases b : (m.1 70 2).toInt ≤ y1.toInt
    · rw [decide_eq_false (p := y1.toInt < _) (by omega), Bool.and_false]
      exact oF (zcl.trans (decide_eq_false (by omega))) (oT (zc.trans (decide_eq_true b)) rfl)
    · rw [decide_eq_true (p := 0 ≤ y1.toInt) (by omega), decide_eq_true (by omega)]
      exact oF (zcl.trans (decide_eq_false (by omega))) (oF (zc.trans (decide_eq_false b)) rfl)
theorem r248n (I : vI9 (m.1 80)) {y1 y2 : Int32} (n : ¬ pRu (m.1 80) (m.1 70 2).toInt y1 y2) : D248 F y1 y2 m = some (-1, m) := by
  have l999 : (999 : Int32).toInt = 999 := rfl
  have d0 := I_day I.1
  unfold D248
  by_cases a : 0 < (m.1 80 0).toInt
  · refine ob r204 (oF (zeF (decide_eq_true a)) (ob r199 ?_))
    by_cases b : 0 ≤ y1.toInt ∧ y1.toInt < (m.1 70 2).toInt
    · refine oF (zeF (by rw [decide_eq_true b.1, decide_eq_true b.2]; rfl)) (ob (r158 (x := 1) (y := 60) rfl rfl) ?_)
      by_cases c : 1 ≤ y2.toInt ∧ y2.toInt ≤ 60
      · refine oF (zeF (by rw [decide_eq_true c.1, decide_eq_true c.2]; rfl)) ?_
        have e : ¬ (m.1 80 4).toInt + y2.toInt ≤ 999 := fun z => n ⟨a, b, c, z⟩
        have e2 : (m.1 80 4 + y2).toInt = (m.1 80 4).toInt + y2.toInt := xa1 (by omega) (by omega)
        exact oF (zcle.trans (decide_eq_false (by show ¬ (m.1 80 4 + y2).toInt ≤ _; omega))) rfl
      · refine oT (zeT ?_) rfl
        by_cases z : 1 ≤ y2.toInt
        · rw [decide_eq_false (p := y2.toInt ≤ 60) (fun q => c ⟨z, q⟩), Bool.and_false]
        · rw [decide_eq_false z, Bool.false_and]
    · refine oT (zeT ?_) rfl
      by_cases z : 0 ≤ y1.toInt
      · rw [decide_eq_false (p := y1.toInt < (m.1 70 2).toInt) (fun q => b ⟨z, q⟩), Bool.and_false]
      · rw [decide_eq_false z, Bool.false_and]
  · exact ob r204 (oT (zeT (decide_eq_false a)) rfl)
theorem r248p (I : vI9 (m.1 80)) {y1 y2 : Int32} (n : pRu (m.1 80) (m.1 70 2).toInt y1 y2) : D248 F y1 y2 m = D248_53 F F y1 y2 0 0 (xu m 70 25 0) := by
  have l999 : (999 : Int32).toInt = 999 := rfl
  have d0 := I_day I.1
  obtain ⟨a, b, c, d⟩ := n
  have e2 : (m.1 80 4 + y2).toInt = (m.1 80 4).toInt + y2.toInt := xa1 (by omega) (by omega)
  unfold D248
  exact ob r204 (oF (zeF (decide_eq_true a)) (ob r199 (oF (zeF (by rw [decide_eq_true b.1, decide_eq_true b.2]; rfl)) (ob (r158 (x := 1) (y := 60) rfl rfl) (oF (zeF (by rw [decide_eq_true c.1, decide_eq_true c.2]; rfl)) (oT (zcle.trans (decide_eq_true (by show (m.1 80 4 + y2).toInt ≤ _; omega))) rfl))))))
end PRUNP
