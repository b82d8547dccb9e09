/-! The reference's reader of rules: what its cells hold. -/
def tq (f : Nat → Int32) (o : Nat) : Nat → List (Int × Int × Int × Int)
  | 0 => []
  | c + 1 => ((f (o + 4 * c)).toInt, (f (o + 4 * c + 1)).toInt, (f (o + 4 * c + 2)).toInt, (f (o + 4 * c + 3)).toInt) :: tq f o c
theorem tq_c {f g : Nat → Int32} {o : Nat} : ∀ n, (∀ j, o ≤ j → j < o + 4 * n → f j = g j) → tq f o n = tq g o n := by
  intro n
  induction n with
  | zero => intro _; rfl
  | succ n ih =>
    intro h
    show (_, _, _, _) :: tq f o n = (_, _, _, _) :: tq g o n
    rw [h (o + 4 * n) (by omega) (by omega), h (o + 4 * n + 1) (by omega) (by omega), h (o + 4 * n + 2) (by omega) (by omega), h (o + 4 * n + 3) (by omega) (by omega), ih (fun j j1 j2 => h j j1 (by omega))]
abbrev rM : yM := [(70, 70, 8), (70, 70, 9), (70, 70, 10), (70, 70, 12), (70, 70, 13), (70, 70, 14), (70, 70, 16), (72, 72, 1000), (73, 73, 1000), (74, 74, 1000), (75, 75, 1000), (77, 77, 1000)]
/-- the other rules stay -/
def rO (m0 : xS) (t : Nat) (m : xS) : Prop := (∀ j, (j < 400 * t ∨ 400 * t + 400 ≤ j) → m.1 72 j = m0.1 72 j) ∧ (∀ j, j ≠ t → m.1 73 j = m0.1 73 j ∧ m.1 75 j = m0.1 75 j) ∧ (∀ j, (j < 48 * t ∨ 48 * t + 48 ≤ j) → m.1 74 j = m0.1 74 j)
def rC (m0 : xS) (n t p : Nat) (ft nu k : Int) (rc : List Int) (cs : List (Int × Int × Int × Int)) (op : List Int) (dp ln : Int) (m : xS) : Prop :=
  xT m ∧ xfr rM m0 m ∧ ((m.1 70 8).toInt = (p : Int) ∧ p ≤ n) ∧ (m.1 70 9).toInt = ft ∧ (m.1 70 10).toInt = nu ∧ (m.1 70 12).toInt = k ∧ ((m.1 73 t).toInt = (rc.length : Int) ∧ tk (fun j => m.1 72 (400 * t + j)) rc.length = rc) ∧ ((m.1 75 t).toInt = (cs.length : Int) ∧ tq (m.1 74) (48 * t) cs.length = cs) ∧ ((m.1 70 16).toInt = (op.length : Int) ∧ tk (m.1 77) op.length = op) ∧ (m.1 70 13).toInt = dp ∧ (m.1 70 14).toInt = ln ∧ rO m0 t m
section RC
variable {m0 m : xS} {b : Nat → Int} {n t p : Nat} {ft nu k : Int} {rc : List Int} {cs : List (Int × Int × Int × Int)} {op : List Int} {dp ln : Int} {F : Nat}
theorem rC_k {v : Int32} {x : Int} (h : rC m0 n t p ft nu k rc cs op dp ln m) (e : v.toInt = x) (l1 : 0 ≤ x) (l2 : x ≤ 60) : rC m0 n t p ft nu x rc cs op dp ln (xu m 70 12 v) := by
  obtain ⟨h1, h2, h3, h4, h5, h6, h7, h8, h9, h10, h11, h12⟩ := h
  refine ⟨xT_c h1 (i := 70) (j := 12) rfl (by omega) (by omega), xfr_t h2 (xfr_u rfl), ?_⟩
  exact ⟨⟨(congrArg Int32.toInt (xu_o (by decide))).trans h3.1, h3.2⟩, (congrArg Int32.toInt (xu_o (by decide))).trans h4, (congrArg Int32.toInt (xu_o (by decide))).trans h5, (congrArg Int32.toInt (xu_s _ _ _ _)).trans e, ⟨(congrArg Int32.toInt (xu_o (fun z => absurd z.1 (by decide)))).trans h7.1, (tk_c _ (fun j _ => (xu_o (fun z => absurd z.1 (by decide))))).trans h7.2⟩, ⟨(congrArg Int32.toInt (xu_o (fun z => absurd z.1 (by decide)))).trans h8.1, (tq_c _ (fun j _ _ => (xu_o (fun z => absurd z.1 (by decide))))).trans h8.2⟩, ⟨(congrArg Int32.toInt (xu_o (by decide))).trans h9.1, (tk_c _ (fun j _ => (xu_o (fun z => absurd z.1 (by decide))))).trans h9.2⟩, (congrArg Int32.toInt (xu_o (by decide))).trans h10, (congrArg Int32.toInt (xu_o (by decide))).trans h11, ⟨fun j hj => ((xu_o (fun z => absurd z.1 (by decide)))).trans (h12.1 j hj), fun j hj => ⟨((xu_o (fun z => absurd z.1 (by decide)))).trans (h12.2.1 j hj).1, ((xu_o (fun z => absurd z.1 (by decide)))).trans (h12.2.1 j hj).2⟩, fun j hj => ((xu_o (fun z => absurd z.1 (by decide)))).trans (h12.2.2 j hj)⟩⟩
theorem rC_dp {v : Int32} {x : Int} (h : rC m0 n t p ft nu k rc cs op dp ln m) (e : v.toInt = x) : rC m0 n t p ft nu k rc cs op x ln (xu m 70 13 v) := by
  obtain ⟨h1, h2, h3, h4, h5, h6, h7, h8, h9, h10, h11, h12⟩ := h
  refine ⟨xT_c h1 (i := 70) (j := 13) rfl (y32 v).1 (by have := (y32 v).2; omega), xfr_t h2 (xfr_u rfl), ?_⟩
  exact ⟨⟨(congrArg Int32.toInt (xu_o (by decide))).trans h3.1, h3.2⟩, (congrArg Int32.toInt (xu_o (by decide))).trans h4, (congrArg Int32.toInt (xu_o (by decide))).trans h5, (congrArg Int32.toInt (xu_o (by decide))).trans h6, ⟨(congrArg Int32.toInt (xu_o (fun z => absurd z.1 (by decide)))).trans h7.1, (tk_c _ (fun j _ => (xu_o (fun z => absurd z.1 (by decide))))).trans h7.2⟩, ⟨(congrArg Int32.toInt (xu_o (fun z => absurd z.1 (by decide)))).trans h8.1, (tq_c _ (fun j _ _ => (xu_o (fun z => absurd z.1 (by decide))))).trans h8.2⟩, ⟨(congrArg Int32.toInt (xu_o (by decide))).trans h9.1, (tk_c _ (fun j _ => (xu_o (fun z => absurd z.1 (by decide))))).trans h9.2⟩, (congrArg Int32.toInt (xu_s _ _ _ _)).trans e, (congrArg Int32.toInt (xu_o (by decide))).trans h11, ⟨fun j hj => ((xu_o (fun z => absurd z.1 (by decide)))).trans (h12.1 j hj), fun j hj => ⟨((xu_o (fun z => absurd z.1 (by decide)))).trans (h12.2.1 j hj).1, ((xu_o (fun z => absurd z.1 (by decide)))).trans (h12.2.1 j hj).2⟩, fun j hj => ((xu_o (fun z => absurd z.1 (by decide)))).trans (h12.2.2 j hj)⟩⟩
theorem rC_ln {v : Int32} {x : Int} (h : rC m0 n t p ft nu k rc cs op dp ln m) (e : v.toInt = x) (l1 : 0 ≤ x) (l2 : x ≤ 40) : rC m0 n t p ft nu k rc cs op dp x (xu m 70 14 v) := by
  obtain ⟨h1, h2, h3, h4, h5, h6, h7, h8, h9, h10, h11, h12⟩ := h
  refine ⟨xT_c h1 (i := 70) (j := 14) rfl (by omega) (by omega), xfr_t h2 (xfr_u rfl), ?_⟩
  exact ⟨⟨(congrArg Int32.toInt (xu_o (by decide))).trans h3.1, h3.2⟩, (congrArg Int32.toInt (xu_o (by decide))).trans h4, (congrArg Int32.toInt (xu_o (by decide))).trans h5, (congrArg Int32.toInt (xu_o (by decide))).trans h6, ⟨(congrArg Int32.toInt (xu_o (fun z => absurd z.1 (by decide)))).trans h7.1, (tk_c _ (fun j _ => (xu_o (fun z => absurd z.1 (by decide))))).trans h7.2⟩, ⟨(congrArg Int32.toInt (xu_o (fun z => absurd z.1 (by decide)))).trans h8.1, (tq_c _ (fun j _ _ => (xu_o (fun z => absurd z.1 (by decide))))).trans h8.2⟩, ⟨(congrArg Int32.toInt (xu_o (by decide))).trans h9.1, (tk_c _ (fun j _ => (xu_o (fun z => absurd z.1 (by decide))))).trans h9.2⟩, (congrArg Int32.toInt (xu_o (by decide))).trans h10, (congrArg Int32.toInt (xu_s _ _ _ _)).trans e, ⟨fun j hj => ((xu_o (fun z => absurd z.1 (by decide)))).trans (h12.1 j hj), fun j hj => ⟨((xu_o (fun z => absurd z.1 (by decide)))).trans (h12.2.1 j hj).1, ((xu_o (fun z => absurd z.1 (by decide)))).trans (h12.2.1 j hj).2⟩, fun j hj => ((xu_o (fun z => absurd z.1 (by decide)))).trans (h12.2.2 j hj)⟩⟩
theorem rC_t (h : rC m0 n t p ft nu k rc cs op dp ln m) : rT m n p ft nu m := ⟨h.1, xfr_r _ _, h.2.2.1, h.2.2.2.1, h.2.2.2.2.1⟩
theorem rN_t (N : rN m0 b n) (h : rC m0 n t p ft nu k rc cs op dp ln m) : rN m b n := by
  have f := h.2.1
  refine ⟨(congrArg Int32.toInt (f.2 70 1 rfl)).trans N.1, N.2.1, fun j hj => ⟨(N.2.2 j hj).1, (congrArg Int32.toInt (f.2 71 j ?_)).trans (N.2.2 j hj).2⟩⟩
  unfold yinM
  rfl
theorem rC_T {m' : xS} {p' : Nat} {ft' nu' : Int} (h : rC m0 n t p ft nu k rc cs op dp ln m) (g : rT m n p' ft' nu' m') : rC m0 n t p' ft' nu' k rc cs op dp ln m' := by
  obtain ⟨h1, h2, h3, h4, h5, h6, h7, h8, h9, h10, h11, h12⟩ := h
  obtain ⟨g1, g2, g3, g4, g5⟩ := g
  have e2 : ∀ j, m'.1 72 j = m.1 72 j := fun j => g2.2 72 j (by unfold yinM; rfl)
  have e3 : ∀ j, m'.1 73 j = m.1 73 j := fun j => g2.2 73 j (by unfold yinM; rfl)
  have e4 : ∀ j, m'.1 74 j = m.1 74 j := fun j => g2.2 74 j (by unfold yinM; rfl)
  have e5 : ∀ j, m'.1 75 j = m.1 75 j := fun j => g2.2 75 j (by unfold yinM; rfl)
  have e7 : ∀ j, m'.1 77 j = m.1 77 j := fun j => g2.2 77 j (by unfold yinM; rfl)
  refine ⟨g1, xfr_t h2 (xfr_l (by decide) g2), g3, g4, g5, ?_⟩
  exact ⟨(congrArg Int32.toInt (g2.2 70 12 rfl)).trans h6, ⟨(congrArg Int32.toInt (e3 t)).trans h7.1, (tk_c _ (fun j _ => e2 _)).trans h7.2⟩, ⟨(congrArg Int32.toInt (e5 t)).trans h8.1, (tq_c _ (fun j _ _ => e4 j)).trans h8.2⟩, ⟨(congrArg Int32.toInt (g2.2 70 16 rfl)).trans h9.1, (tk_c _ (fun j _ => e7 j)).trans h9.2⟩, (congrArg Int32.toInt (g2.2 70 13 rfl)).trans h10, (congrArg Int32.toInt (g2.2 70 14 rfl)).trans h11, ⟨fun j hj => (e2 j).trans (h12.1 j hj), fun j hj => ⟨(e3 j).trans (h12.2.1 j hj).1, (e5 j).trans (h12.2.1 j hj).2⟩, fun j hj => (e4 j).trans (h12.2.2 j hj)⟩⟩
theorem rC_m {Q : Int32 → xS → Prop} {R : Int32 → xS → Prop} {D : Option (Int32 × xS)} (z : xP D Q) (k : ∀ v m', Q v m' → R v m') : xP D R := xP_m z k
theorem rb73 (ht : t < 6) : xbn 73 t = some (0, 400) := by
  have : t = 0 ∨ t = 1 ∨ t = 2 ∨ t = 3 ∨ t = 4 ∨ t = 5 := by omega
  rcases this with rfl | rfl | rfl | rfl | rfl | rfl <;> rfl
theorem rb75 (ht : t < 6) : xbn 75 t = some (0, 12) := by
  have : t = 0 ∨ t = 1 ∨ t = 2 ∨ t = 3 ∨ t = 4 ∨ t = 5 := by omega
  rcases this with rfl | rfl | rfl | rfl | rfl | rfl <;> rfl
theorem rC_put {v u : Int32} (ht : t < 6) (h : rC m0 n t p ft nu k rc cs op dp ln m) (l : rc.length < 400) (e : u.toInt = rc.length + 1) : rC m0 n t p ft nu k (v.toInt :: rc) cs op dp ln (xu (xu m 72 (400 * t + rc.length) v) 73 t u) := by
  obtain ⟨h1, h2, h3, h4, h5, h6, h7, h8, h9, h10, h11, h12⟩ := h
  have b0 : xbn 72 (400 * t + rc.length) = some (-2147483648, 2147483647) := xbn_a (k := 0) (n := 2400) (ec := 0) (by decide) rfl (by decide) (by omega)
  have q : ∀ {i j : Nat}, i ≠ 72 → ¬ (i = 73 ∧ j = t) → (xu (xu m 72 (400 * t + rc.length) v) 73 t u).1 i j = m.1 i j := fun z1 z2 => (xu_o z2).trans (xu_o (fun z => z1 z.1))
  have q2 : ∀ {j : Nat}, j ≠ 400 * t + rc.length → (xu (xu m 72 (400 * t + rc.length) v) 73 t u).1 72 j = m.1 72 j := fun z1 => (xu_o (fun z => absurd z.1 (by decide))).trans (xu_o (fun z => z1 z.2))
  refine ⟨xT_c (xT_c h1 b0 (y32 v).1 (by have := (y32 v).2; omega)) (rb73 ht) (by omega) (by omega), xfr_t h2 (xfr_t (xfr_u (by unfold yinM; rfl)) (xfr_u (by unfold yinM; rfl))), ⟨(congrArg Int32.toInt (q (by decide) (fun z => absurd z.1 (by decide)))).trans h3.1, h3.2⟩, (congrArg Int32.toInt (q (by decide) (fun z => absurd z.1 (by decide)))).trans h4, (congrArg Int32.toInt (q (by decide) (fun z => absurd z.1 (by decide)))).trans h5, (congrArg Int32.toInt (q (by decide) (fun z => absurd z.1 (by decide)))).trans h6, ⟨(congrArg Int32.toInt (xu_s _ _ _ _)).trans (e.trans (by rw [List.length_cons]; omega)), ?_⟩, ⟨(congrArg Int32.toInt (q (by decide) (fun z => absurd z.1 (by decide)))).trans h8.1, (tq_c _ (fun j _ _ => q (by decide) (fun z => absurd z.1 (by decide)))).trans h8.2⟩, ⟨(congrArg Int32.toInt (q (by decide) (fun z => absurd z.1 (by decide)))).trans h9.1, (tk_c _ (fun j _ => q (by decide) (fun z => absurd z.1 (by decide)))).trans h9.2⟩, (congrArg Int32.toInt (q (by decide) (fun z => absurd z.1 (by decide)))).trans h10, (congrArg Int32.toInt (q (by decide) (fun z => absurd z.1 (by decide)))).trans h11, ⟨fun j hj => (q2 (by omega)).trans (h12.1 j hj), fun j hj => ⟨(q (by decide) (fun z => hj z.2)).trans (h12.2.1 j hj).1, (q (by decide) (fun z => absurd z.1 (by decide))).trans (h12.2.1 j hj).2⟩, fun j hj => (q (by decide) (fun z => absurd z.1 (by decide))).trans (h12.2.2 j hj)⟩⟩
  show ((xu (xu m 72 (400 * t + rc.length) v) 73 t u).1 72 (400 * t + rc.length)).toInt :: tk _ rc.length = _
  rw [(xu_o (fun z => absurd z.1 (by decide))).trans (xu_s _ _ _ _), tk_c (g := fun j => m.1 72 (400 * t + j)) _ (fun j hj => q2 (by omega)), h7.2]
theorem rC_push {v u : Int32} (h : rC m0 n t p ft nu k rc cs op dp ln m) (l : op.length < 400) (e : u.toInt = op.length + 1) : rC m0 n t p ft nu k rc cs (v.toInt :: op) dp ln (xu (xu m 77 op.length v) 70 16 u) := by
  obtain ⟨h1, h2, h3, h4, h5, h6, h7, h8, h9, h10, h11, h12⟩ := h
  have b0 : xbn 77 op.length = some (-2147483648, 2147483647) := xbn_a (k := 0) (n := 400) (ec := 0) (by decide) rfl (by decide) l
  have q : ∀ {i j : Nat}, i ≠ 77 → ¬ (i = 70 ∧ j = 16) → (xu (xu m 77 op.length v) 70 16 u).1 i j = m.1 i j := fun z1 z2 => (xu_o z2).trans (xu_o (fun z => z1 z.1))
  refine ⟨xT_c (xT_c h1 b0 (y32 v).1 (by have := (y32 v).2; omega)) (i := 70) (j := 16) rfl (by omega) (by omega), xfr_t h2 (xfr_t (xfr_u (by unfold yinM; rfl)) (xfr_u rfl)), ⟨(congrArg Int32.toInt (q (by decide) (by decide))).trans h3.1, h3.2⟩, (congrArg Int32.toInt (q (by decide) (by decide))).trans h4, (congrArg Int32.toInt (q (by decide) (by decide))).trans h5, (congrArg Int32.toInt (q (by decide) (by decide))).trans h6, ⟨(congrArg Int32.toInt (q (by decide) (fun z => absurd z.1 (by decide)))).trans h7.1, (tk_c _ (fun j _ => q (by decide) (fun z => absurd z.1 (by decide)))).trans h7.2⟩, ⟨(congrArg Int32.toInt (q (by decide) (fun z => absurd z.1 (by decide)))).trans h8.1, (tq_c _ (fun j _ _ => q (by decide) (fun z => absurd z.1 (by decide)))).trans h8.2⟩, ⟨(congrArg Int32.toInt (xu_s _ _ _ _)).trans (e.trans (by rw [List.length_cons]; omega)), ?_⟩, (congrArg Int32.toInt (q (by decide) (by decide))).trans h10, (congrArg Int32.toInt (q (by decide) (by decide))).trans h11, ⟨fun j hj => (q (by decide) (fun z => absurd z.1 (by decide))).trans (h12.1 j hj), fun j hj => ⟨(q (by decide) (fun z => absurd z.1 (by decide))).trans (h12.2.1 j hj).1, (q (by decide) (fun z => absurd z.1 (by decide))).trans (h12.2.1 j hj).2⟩, fun j hj => (q (by decide) (fun z => absurd z.1 (by decide))).trans (h12.2.2 j hj)⟩⟩
  show ((xu (xu m 77 op.length v) 70 16 u).1 77 op.length).toInt :: tk _ op.length = _
  rw [(xu_o (fun z => absurd z.1 (by decide))).trans (xu_s _ _ _ _), tk_c (g := m.1 77) _ (fun j hj => (xu_o (fun z => absurd z.1 (by decide))).trans (xu_o (fun z => by omega))), h9.2]
theorem rC_len {v : Int32} {os : List Int} (h : rC m0 n t p ft nu k rc cs op dp ln m) (e : v.toInt = (os.length : Int)) (ho : tk (m.1 77) os.length = os) (l : os.length ≤ 400) : rC m0 n t p ft nu k rc cs os dp ln (xu m 70 16 v) := by
  obtain ⟨h1, h2, h3, h4, h5, h6, h7, h8, h9, h10, h11, h12⟩ := h
  refine ⟨xT_c h1 (i := 70) (j := 16) rfl (by omega) (by omega), xfr_t h2 (xfr_u rfl), ?_⟩
  exact ⟨⟨(congrArg Int32.toInt (xu_o (by decide))).trans h3.1, h3.2⟩, (congrArg Int32.toInt (xu_o (by decide))).trans h4, (congrArg Int32.toInt (xu_o (by decide))).trans h5, (congrArg Int32.toInt (xu_o (by decide))).trans h6, ⟨(congrArg Int32.toInt (xu_o (fun z => absurd z.1 (by decide)))).trans h7.1, (tk_c _ (fun j _ => (xu_o (fun z => absurd z.1 (by decide))))).trans h7.2⟩, ⟨(congrArg Int32.toInt (xu_o (fun z => absurd z.1 (by decide)))).trans h8.1, (tq_c _ (fun j _ _ => (xu_o (fun z => absurd z.1 (by decide))))).trans h8.2⟩, ⟨(congrArg Int32.toInt (xu_s _ _ _ _)).trans e, (tk_c _ (fun j _ => xu_o (fun z => absurd z.1 (by decide)))).trans ho⟩, (congrArg Int32.toInt (xu_o (by decide))).trans h10, (congrArg Int32.toInt (xu_o (by decide))).trans h11, ⟨fun j hj => ((xu_o (fun z => absurd z.1 (by decide)))).trans (h12.1 j hj), fun j hj => ⟨((xu_o (fun z => absurd z.1 (by decide)))).trans (h12.2.1 j hj).1, ((xu_o (fun z => absurd z.1 (by decide)))).trans (h12.2.1 j hj).2⟩, fun j hj => ((xu_o (fun z => absurd z.1 (by decide)))).trans (h12.2.2 j hj)⟩⟩
theorem rC_pop {v : Int32} {o0 : Int} {os : List Int} (h : rC m0 n t p ft nu k rc cs (o0 :: os) dp ln m) (e : v.toInt = (os.length : Int)) : rC m0 n t p ft nu k rc cs os dp ln (xu m 70 16 v) ∧ (m.1 77 os.length).toInt = o0 := by
  have h9 := h.2.2.2.2.2.2.2.2.1
  have t7 : (m.1 77 os.length).toInt :: tk (m.1 77) os.length = o0 :: os := h9.2
  have b2 := h.1 70 16 (0, 400) rfl
  have b3 : (m.1 70 16).toInt ≤ 400 := b2.2
  have e9 := h9.1
  rw [List.length_cons] at e9
  exact ⟨rC_len h e (List.cons.inj t7).2 (by omega), (List.cons.inj t7).1⟩
theorem rC_i (h : rC m0 n t p ft nu k rc cs op dp ln m) : (m.1 70 8).toNatClampNeg = p := by
  have := h.2.2.1.1
  show (m.1 70 8).toInt.toNat = p
  omega
/-- a fault -/
def rF (m0 : xS) (f : Int) (m : xS) : Prop := ∃ (n t p : Nat) (nu k : Int) (rc : List Int) (cs : List (Int × Int × Int × Int)) (op : List Int) (dp ln : Int), (m0.1 70 11).toInt = (t : Int) ∧ rC m0 n t p f nu k rc cs op dp ln m
theorem R163c {a c : Int32} (h : rC m0 n t p 0 nu k rc cs op dp ln m) (a1 : 0 ≤ a.toInt) (a2 : a.toInt ≤ 400) (c1 : 0 ≤ c.toInt) (c2 : c.toInt ≤ 4) : xP (D163 F c a m) (fun v m' => v = 0 ∧ rC m0 n t p (1 + 8 * a.toInt + c.toInt) nu k rc cs op dp ln m') := xP_m (R163 (rC_t h) a1 a2 c1 c2) (fun v m' q => ⟨q.1, rC_T h (by
  have := q.2
  rw [show trf 0 (1 + 8 * a.toInt + c.toInt) = 1 + 8 * a.toInt + c.toInt from if_pos rfl] at this
  exact this)⟩)
/-- makes -/
theorem R173 {a : Int32} {kk : Nat} (h : rC m0 n t p 0 nu (kk : Int) rc cs op dp ln m) (hk : kk ≤ 60) (a1 : 0 ≤ a.toInt) (a2 : a.toInt ≤ 400) : xP (D173 F a m) (fun v m' => (60 ≤ kk ∧ v = 0 ∧ rC m0 n t p (1 + 8 * a.toInt + 3) nu (kk : Int) rc cs op dp ln m') ∨ (¬ 60 ≤ kk ∧ v = 1 ∧ rC m0 n t p 0 nu ((kk + 1 : Nat) : Int) rc cs op dp ln m')) := by
  have h6 := h.2.2.2.2.2.1
  unfold D173
  refine xP_i (fun c => xP_r (Or.inr ⟨?_, rfl, ?_⟩)) (fun c => ?_)
  · have c : (m.1 70 12).toInt ≠ 60 := zt c
    omega
  · have c : (m.1 70 12).toInt ≠ 60 := zt c
    exact rC_k h ((xa1 (by show _ ≤ _ + (1 : Int); omega) (by show _ + (1 : Int) ≤ _; omega)).trans (by rw [h6]; rfl)) (by omega) (by omega)
  · have c : (m.1 70 12).toInt = 60 := Decidable.not_not.mp (zf c)
    refine xP_b (R163c h a1 a2 (by decide) (by decide)) (fun v m1 q => ?_)
    obtain ⟨rfl, q⟩ := q
    exact xP_g (show xbo (0 : Int32) = true by decide) (xP_r (Or.inl ⟨by omega, rfl, q⟩))
/-- puts -/
theorem R172 {s v : Int32} {c : Int} (ht : t < 6) (hT : (m0.1 70 11).toInt = (t : Int)) (h : rC m0 n t p ft nu k rc cs op dp ln m) (l : rc.length < 400) (hc : (s + 16 * v).toInt = c) : xP (D172 F s v m) (fun _ m' => rC m0 n t p ft nu k (c :: rc) cs op dp ln m' ∧ m'.1 77 = m.1 77) := by
  have h7 := h.2.2.2.2.2.2.1.1
  have e11 : (m.1 70 11).toInt = (t : Int) := (congrArg Int32.toInt (h.2.1.2 70 11 rfl)).trans hT
  have et : (m.1 70 11).toNatClampNeg = t := by show (m.1 70 11).toInt.toNat = t; omega
  have e1 : (400 * m.1 70 11).toInt = 400 * (t : Int) := (xm1 (by show _ ≤ (400 : Int) * _; omega) (by show (400 : Int) * _ ≤ _; omega)).trans (by rw [e11]; rfl)
  have e2 : (400 * m.1 70 11 + m.1 73 t).toInt = 400 * (t : Int) + (rc.length : Int) := (xa1 (by omega) (by omega)).trans (by rw [e1, h7])
  have e3 : (400 * m.1 70 11 + m.1 73 t).toNatClampNeg = 400 * t + rc.length := by show (400 * m.1 70 11 + m.1 73 t).toInt.toNat = _; omega
  have e4 : (m.1 73 t + 1).toInt = rc.length + 1 := (xa1 (by show _ ≤ _ + (1 : Int); omega) (by show _ + (1 : Int) ≤ _; omega)).trans (by rw [h7]; rfl)
  have i7 : xib (m.1 70 11) 7 = true := xib_t (by omega) (by omega)
  unfold D172
  rw [et]
  refine xP_g i7 (xP_g (xib_t (by omega) (by omega)) (xP_g i7 (xP_g i7 (xP_r ?_))))
  rw [e3]
  have z := rC_put (v := s + 16 * v) ht h l e4
  rw [hc] at z
  exact ⟨z, (xu_row (by decide)).trans (xu_row (by decide))⟩
/-- opens -/
theorem R174 {v : Int32} {d0 : Nat} (h : rC m0 n t p 0 nu k rc cs op (d0 : Int) ln m) (hn : n ≤ 400) (l : op.length < 400) (hd : d0 ≤ 10) : xP (D174 F v m) (fun r m' => (10 ≤ d0 ∧ r = 0 ∧ rC m0 n t p (1 + 8 * (p : Int) + 2) nu k rc cs op (d0 : Int) ln m') ∨ (¬ 10 ≤ d0 ∧ r = 1 ∧ rC m0 n t p 0 nu k rc cs (v.toInt :: op) ((d0 + 1 : Nat) : Int) ln m')) := by
  have h9 := h.2.2.2.2.2.2.2.2.1.1
  have h10 := h.2.2.2.2.2.2.2.2.2.1
  have h3 := h.2.2.1
  have ei : (m.1 70 16).toNatClampNeg = op.length := by show (m.1 70 16).toInt.toNat = _; omega
  unfold D174
  refine xP_i (fun c => ?_) (fun c => ?_)
  · have c : (m.1 70 13).toInt ≠ 10 := zt c
    refine xP_g (xib_t (by omega) (by omega)) (xP_r (Or.inr ⟨by omega, rfl, ?_⟩))
    rw [ei]
    have z := rC_dp (v := m.1 70 13 + 1) (x := ((d0 + 1 : Nat) : Int)) h ((xa1 (by show _ ≤ _ + (1 : Int); omega) (by show _ + (1 : Int) ≤ _; omega)).trans (by rw [h10]; rfl))
    exact rC_push z l ((xa1 (by show _ ≤ _ + (1 : Int); omega) (by show _ + (1 : Int) ≤ _; omega)).trans (by rw [h9]; rfl))
  · have c : (m.1 70 13).toInt = 10 := Decidable.not_not.mp (zf c)
    refine xP_b (R163c h (by omega) (by omega) (by decide) (by decide)) (fun v m1 q => ?_)
    obtain ⟨rfl, q⟩ := q
    rw [h3.1] at q
    exact xP_g (show xbo (0 : Int32) = true by decide) (xP_r (Or.inl ⟨by omega, rfl, q⟩))
theorem R175 {v : Int32} : xP (D175 F v m) (fun r m' => m' = m ∧ r.toInt = (if v.toInt = 13 then 1 else if v.toInt = 12 then 2 else if v.toInt = 11 then 3 else 0)) := by
  unfold D175
  refine xP_i (fun c => xP_i (fun d => xP_i (fun e => xP_r ⟨rfl, ?_⟩) (fun e => xP_r ⟨rfl, ?_⟩)) (fun d => xP_r ⟨rfl, ?_⟩)) (fun c => xP_r ⟨rfl, ?_⟩)
  · have c : v.toInt ≠ 13 := zt c
    have d : v.toInt ≠ 12 := zt d
    have e : v.toInt ≠ 11 := zt e
    rw [if_neg c, if_neg d, if_neg e]
    rfl
  · have c : v.toInt ≠ 13 := zt c
    have d : v.toInt ≠ 12 := zt d
    have e : v.toInt = 11 := Decidable.not_not.mp (zf e)
    rw [if_neg c, if_neg d, if_pos e]
    rfl
  · have c : v.toInt ≠ 13 := zt c
    have d : v.toInt = 12 := Decidable.not_not.mp (zf d)
    rw [if_neg c, if_pos d]
    rfl
  · have c : v.toInt = 13 := Decidable.not_not.mp (zf c)
    rw [if_pos c]
    rfl
end RC
