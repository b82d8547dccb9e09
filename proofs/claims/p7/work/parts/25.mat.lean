/-! Patterns: one state of the checker as a case of another. -/
abbrev yU : Type := List (Nat × yL)
def ylu : yU → Nat → yL
  | [], _ => yc 0
  | q :: l, s => if q.1 = s then q.2 else ylu l s
/-- symbols below p stay, the others are put in -/
def ysub (p : Nat) (u : yU) (l : yL) : yL := if l.1 = 0 then l else if l.2.1 < p then l else (l.1 * (ylu u l.2.1).1, (ylu u l.2.1).2.1, l.1 * (ylu u l.2.1).2.2 + l.2.2)
def yrs (p : Nat) (u : yU) (r : Nat → Int) : Nat → Int := fun s => if s < p then r s else yev r (ylu u s)
theorem ysub_ok (p : Nat) (u : yU) (r : Nat → Int) (l : yL) : yev r (ysub p u l) = yev (yrs p u r) l := by
  unfold ysub
  split
  · next h => rw [yev_0 h, yev_0 h]
  · split
    · next h =>
      show l.1 * r l.2.1 + l.2.2 = l.1 * yrs p u r l.2.1 + l.2.2
      unfold yrs
      rw [if_pos h]
    · next h =>
      show l.1 * (ylu u l.2.1).1 * r (ylu u l.2.1).2.1 + (l.1 * (ylu u l.2.1).2.2 + l.2.2) = l.1 * yrs p u r l.2.1 + l.2.2
      unfold yrs
      rw [if_neg h]
      show _ = l.1 * ((ylu u l.2.1).1 * r (ylu u l.2.1).2.1 + (ylu u l.2.1).2.2) + l.2.2
      rw [Int.mul_add, Int.mul_assoc]
      omega
theorem yrs_ag (p : Nat) (u : yU) (r : Nat → Int) : yag p r (yrs p u r) := fun s hs => if_pos hs
def ysubx (p : Nat) (u : yU) : List (Int × Nat) → Int → yX
  | [], c => ([], c)
  | q :: l, c => yadd q.1 (yxl (ysub p u (1, q.2, 0))) (ysubx p u l c)
theorem ysubx_ok (p : Nat) (u : yU) (r : Nat → Int) : ∀ (l : List (Int × Nat)) (c : Int), yex r (ysubx p u l c) = yxs (yrs p u r) l + c
  | [], c => rfl
  | q :: l, c => by
    unfold ysubx
    rw [yadd_ok, yxl_ok, ysub_ok, ysubx_ok p u r l c]
    show q.1 * (1 * yrs p u r q.2 + 0) + _ = q.1 * yrs p u r q.2 + yxs (yrs p u r) l + c
    rw [show 1 * yrs p u r q.2 + 0 = yrs p u r q.2 by omega]
    omega
/-- two forms have one value -/
def ysm (b : yB) (x y : yL) : Bool := yeq x y || (match yrg b x, yrg b y with
  | some p, some q => decide (p.1 = p.2) && decide (q.1 = q.2) && decide (p.1 = q.1)
  | _, _ => false)
theorem ysm_ok {r : Nat → Int} {n : Nat} {b : yB} (g : yGe r n b) {x y : yL} (h : ysm b x y = true) : yev r x = yev r y := by
  unfold ysm at h
  rw [Bool.or_eq_true] at h
  rcases h with h | h
  · rw [yeq_ok h]
  · split at h
    · next p q h1 h2 =>
      have a := yrg_ok g h1
      have c := yrg_ok g h2
      simp only [Bool.and_eq_true, decide_eq_true_eq] at h
      omega
    · cases h
/-- the value a (of the pattern) is the value v -/
def ysv (p : Nat) (u : yU) (b : yB) (a v : yV) : Bool := a.1 == v.1 && !(a.1 == 4) && ysm b (ysub p u a.2.1) v.2.1
theorem ysv_ok {p : Nat} {u : yU} {r : Nat → Int} {n h : Nat} {b : yB} (g : yGe r n b) {a v : yV} (k : ysv p u b a v = true) {w : Value} (hv : yv h r v w) : yv h (yrs p u r) a w := by
  unfold ysv at k
  simp only [Bool.and_eq_true, beq_iff_eq, Bool.not_eq_true', beq_eq_false_iff_ne] at k
  obtain ⟨⟨k1, k2⟩, k3⟩ := k
  have e := ysm_ok g k3
  rw [ysub_ok] at e
  obtain ⟨t, l, l2⟩ := a
  obtain ⟨t', m, m2⟩ := v
  have k1 : t = t' := k1
  subst k1
  have e : yev (yrs p u r) l = yev r m := e
  have k2 : ¬ t = 4 := k2
  unfold yv at hv ⊢
  dsimp only at hv ⊢
  split at hv
  · rw [e]; exact hv
  · rw [e]; exact hv
  · rw [e]; exact hv
  · rw [e]; exact hv
  · exact (k2 rfl).elim
  · rw [e]; exact hv
  · rw [e]; exact hv
  · exact hv
  · exact hv.elim
/-- forms with symbols below n -/
def ywb (n : Nat) (l : yL) : Bool := l.1 == 0 || decide (l.2.1 < n)
theorem ywb_ok {n : Nat} {l : yL} (h : ywb n l = true) : yw n l := by
  unfold ywb at h
  simp only [Bool.or_eq_true, beq_iff_eq, decide_eq_true_eq] at h
  exact h
def ywvb (n : Nat) (a : yV) : Bool := ywb n a.2.1 && ywb n a.2.2
theorem ywvb_ok {n : Nat} {a : yV} (h : ywvb n a = true) : ywv n a := by
  unfold ywvb at h
  rw [Bool.and_eq_true] at h
  exact ⟨ywb_ok h.1, ywb_ok h.2⟩
def ywf (P : yS) : Bool := P.2.1.all (fun e => decide (e.1 < P.1)) && (P.2.2.1.all (fun x => x.1.all (fun t => decide (t.2 < P.1))) && (P.2.2.2.1.all (fun t => ywb P.1 t.1 && (ywb P.1 t.2.1 && ywvb P.1 t.2.2)) && (P.2.2.2.2.1.all (fun q => ywvb P.1 q.2) && P.2.2.2.2.2.all (ywvb P.1))))
def ystm (p : Nat) (u : yU) (b : yB) : List yV → List yV → Bool
  | [], [] => true
  | a :: l, v :: m => ysv p u b a v && ystm p u b l m
  | _, _ => false
/-- the state A is a case of the pattern P -/
def ymt (p : Nat) (u : yU) (P A : yS) : Bool :=
  P.2.1.all (fun e => (match yrg A.2.1 (ysub p u (1, e.1, 0)) with
    | some q => decide (e.2.1 ≤ q.1) && decide (q.2 ≤ e.2.2)
    | none => false) || (yprv A.2.1 A.2.2.1 (yadd 1 (yxl (ysub p u (1, e.1, 0))) ([], -e.2.1)) && yprv A.2.1 A.2.2.1 (yadd (-1) (yxl (ysub p u (1, e.1, 0))) ([], e.2.2)))) &&
  (P.2.2.1.all (fun x => yprv A.2.1 A.2.2.1 (ysubx p u x.1 x.2)) &&
  (P.2.2.2.1.all (fun t => match ylk A.2.2.2.1 (ysub p u t.1) (ysub p u t.2.1) with
    | some v => ysv p u A.2.1 t.2.2 v
    | none => false) &&
  (P.2.2.2.2.1.all (fun q => match yld A.2.2.2.2.1 q.1 with
    | some v => ysv p u A.2.1 q.2 v
    | none => false) &&
  ystm p u A.2.1 P.2.2.2.2.2 A.2.2.2.2.2)))
theorem yld_mem : ∀ {l : List (Nat × yV)} {i : Nat} {a : yV}, yld l i = some a → (i, a) ∈ l
  | [], _, _, h => by cases h
  | q :: l, i, a, h => by
    unfold yld at h
    split at h
    · next e =>
      cases h
      cases e
      exact List.mem_cons_self
    · exact List.mem_cons_of_mem _ (yld_mem h)
section YMAT
variable {hp : zHp} {r : Nat → Int} {S : yS} {lv : List (Nat × Value)} {st : List Value}
theorem ystm_ok {p : Nat} {u : yU} {n n2 h : Nat} {b : yB} (g : yGe r n b) : ∀ {l m : List yV} {st : List Value}, ystm p u b l m = true → l.all (ywvb n2) = true → ystk h r n m st → ystk h (yrs p u r) n2 l st
  | [], [], [], _, _, _ => trivial
  | [], [], _ :: _, _, _, k => k.elim
  | [], _ :: _, _, e, _, _ => by cases e
  | _ :: _, [], _, e, _, _ => by cases e
  | a :: l, v :: m, [], _, _, k => k.elim
  | a :: l, v :: m, w :: st, e, e2, k => by
    unfold ystm at e
    rw [Bool.and_eq_true] at e
    rw [List.all_cons, Bool.and_eq_true] at e2
    exact ⟨⟨ywvb_ok e2.1, ysv_ok g e.1 k.1.2⟩, ystm_ok g e.2 e2.2 k.2⟩
theorem ymt_ok {p : Nat} {u : yU} {P A : yS} (g : yG hp r A lv st) (hw : ywf P = true) (h : ymt p u P A = true) : yG hp (yrs p u r) P lv st := by
  unfold ymt at h
  unfold ywf at hw
  simp only [Bool.and_eq_true] at h hw
  obtain ⟨h1, h2, h3, h4, h5⟩ := h
  obtain ⟨w1, w2, w3, w4, w5⟩ := hw
  refine ⟨fun e he => ?_, fun x hx => ?_, fun t ht => ?_, fun i a ha => ?_, ystm_ok g.1 h5 w5 g.2.2.2.2⟩
  · have k := List.all_eq_true.mp h1 e he
    refine ⟨of_decide_eq_true (List.all_eq_true.mp w1 e he), ?_⟩
    have es := ysub_ok p u r (1, e.1, 0)
    rw [show yev (yrs p u r) (1, e.1, 0) = yrs p u r e.1 by show 1 * yrs p u r e.1 + 0 = _; omega] at es
    rw [← es]
    rw [Bool.or_eq_true] at k
    rcases k with k | k
    · split at k
      · next q hq =>
        have := yrg_ok g.1 hq
        simp only [Bool.and_eq_true, decide_eq_true_eq] at k
        omega
      · cases k
    · rw [Bool.and_eq_true] at k
      have a := yprv_ok g.1 g.2.1 k.1
      have b := yprv_ok g.1 g.2.1 k.2
      rw [yadd_ok, yxl_ok] at a b
      have e1 : yex r (([] : List (Int × Nat)), -e.2.1) = -e.2.1 := by show 0 + _ = _; omega
      have e2 : yex r (([] : List (Int × Nat)), e.2.2) = e.2.2 := by show 0 + _ = _; omega
      rw [e1] at a
      rw [e2] at b
      omega
  · have k := List.all_eq_true.mp h2 x hx
    have kw := List.all_eq_true.mp w2 x hx
    refine ⟨fun t ht => of_decide_eq_true (List.all_eq_true.mp kw t ht), ?_⟩
    have := yprv_ok g.1 g.2.1 k
    rw [ysubx_ok] at this
    exact this
  · have k := List.all_eq_true.mp h3 t ht
    have kw := List.all_eq_true.mp w3 t ht
    simp only [Bool.and_eq_true] at kw
    refine ⟨⟨ywb_ok kw.1, ywb_ok kw.2.1, ywvb_ok kw.2.2⟩, ?_⟩
    split at k
    · next v hv =>
      obtain ⟨-, k1, k2, k3, k4⟩ := g.2.2.1 _ (ylk_mem hv)
      have k1 : 0 ≤ yev r (ysub p u t.1) := k1
      have k3 : yrd hp (yev r (ysub p u t.1)).toNat (yev r (ysub p u t.2.1)) = some k2 := k3
      rw [ysub_ok] at k1
      rw [ysub_ok, ysub_ok] at k3
      exact ⟨k1, k2, k3, ysv_ok g.1 k k4⟩
    · cases k
  · have m := yld_mem ha
    have k := List.all_eq_true.mp h4 _ m
    have kw := List.all_eq_true.mp w4 _ m
    dsimp only at k
    split at k
    · next v hv =>
      obtain ⟨w, x, hx, hxv⟩ := g.2.2.2.1 i v hv
      exact ⟨ywvb_ok kw, x, hx, ysv_ok g.1 k hxv⟩
    · cases k
/-- which symbol of the pattern is which form -/
def yb1 (p : Nat) (u : yU) (a v : yV) : yU := if a.2.1.1 = 1 ∧ a.2.1.2.2 = 0 ∧ p ≤ a.2.1.2.1 ∧ (u.any (fun q => q.1 == a.2.1.2.1)) = false then (a.2.1.2.1, v.2.1) :: u else u
def ybst (p : Nat) (u : yU) : List yV → List yV → yU
  | a :: l, v :: m => ybst p (yb1 p u a v) l m
  | _, _ => u
def ybn (p : Nat) (P A : yS) : yU :=
  let u1 := P.2.2.2.2.1.foldl (fun u q => match yld A.2.2.2.2.1 q.1 with
    | some v => yb1 p u q.2 v
    | none => u) []
  let u2 := ybst p u1 P.2.2.2.2.2 A.2.2.2.2.2
  P.2.2.2.1.foldl (fun u t => match ylk A.2.2.2.1 (ysub p u t.1) (ysub p u t.2.1) with
    | some v => yb1 p u t.2.2 v
    | none => u) u2
/-- the places that a pattern names are known, or get known by their kinds -/
def yplc (S : yS) (cl il : yL) : yS := if (ylk S.2.2.2.1 cl il).isSome = true then S else
  if cl.1 = 0 ∧ 0 ≤ cl.2.2 ∧ cl.2.2 < 88 ∧ il.1 = 0 ∧ 0 ≤ il.2.2 then (
    if (yty cl.2.2.toNat).1 = 0 then (match (yty cl.2.2.toNat).2.2.2.2[il.2.2.toNat]? with
      | some t => if t.1 < 3 then (yfrs S t.1 t.2 true cl il).1 else S
      | none => S) else
    if ykI (yty cl.2.2.toNat) = true ∧ (yty cl.2.2.toNat).1 = 1 ∧ il.2.2 < ((yty cl.2.2.toNat).2.2.1 : Int) then (yfrs S 0 (yelr S.2.1 (yty cl.2.2.toNat).2.2.2.1 il) true cl il).1 else S) else S
theorem yplc_ok (g : yG hp r S lv st) (H : yH0 hp) (cl il : yL) : ∃ r2, yag S.1 r r2 ∧ S.1 ≤ (yplc S cl il).1 ∧ (yplc S cl il).2.2.2.2 = S.2.2.2.2 ∧ yG hp r2 (yplc S cl il) lv st := by
  have same : ∃ r2, yag S.1 r r2 ∧ S.1 ≤ S.1 ∧ S.2.2.2.2 = S.2.2.2.2 ∧ yG hp r2 S lv st := ⟨r, yag_refl _ _, Nat.le_refl _, rfl, g⟩
  unfold yplc
  split
  · exact same
  · split
    · next c =>
      obtain ⟨c1, c2, c3, c4, c5⟩ := c
      have hi : cl.2.2.toNat < hp.1 := by have := H.1; omega
      have hok := H.2.2 _ hi
      have e1 : yev r cl = cl.2.2 := yev_0 c1
      have e2 : yev r il = il.2.2 := yev_0 c4
      split
      · next o =>
        unfold yokc at hok
        rw [o] at hok
        obtain ⟨fs, hc1, hc2, hc3⟩ := hok
        split
        · next t ht =>
          split
          · next ct =>
            obtain ⟨x, x1, x2⟩ := hc3 _ t ht
            obtain ⟨z, z1, z2⟩ := yft_v (h := hp.1) ct x2
            obtain ⟨r2, a1, a2, a3, a4, -, -⟩ := yfrs_ok g (tag := t.1) (q := t.2) (keep := true) (cl := cl) (il := il) z1 z2 (Or.inl c1) (Or.inl c4) (fun _ => ⟨by omega, by
              rw [e1, e2]
              have := yrd_o hc1 il.2.2.toNat
              rw [show ((il.2.2.toNat : Nat) : Int) = il.2.2 by omega] at this
              rw [this]
              exact x1⟩)
            exact ⟨r2, a1, a2, a3, a4⟩
          · exact same
        · exact same
      · split
        · next k =>
          obtain ⟨n, f, e, h1, h2, h3, h4⟩ := ykI_c k.1 hok
          have hn := h2 k.2.1
          have lt : il.2.2.toNat < n := by have := k.2.2; omega
          obtain ⟨r2, a1, a2, a3, a4, -, -⟩ := yfrs_ok g (tag := 0) (q := yelr S.2.1 (yty cl.2.2.toNat).2.2.2.1 il) (keep := true) (cl := cl) (il := il) (w := .int (f il.2.2.toNat)) (yelr_ok g.1 (by rw [e2]; exact h4 _ lt)) (fun r2 l e => yvI e.symm) (Or.inl c1) (Or.inl c4) (fun _ => ⟨by omega, by rw [e1, e2, yrd_r e c5]⟩)
          exact ⟨r2, a1, a2, a3, a4⟩
        · exact same
    · exact same
def yplcs (S : yS) : List yK → yS
  | [] => S
  | t :: l => yplcs (yplc S t.1 t.2.1) l
theorem yplcs_ok (H : yH0 hp) : ∀ {l : List yK} {S : yS} {r : Nat → Int}, yG hp r S lv st → ∃ r2, yag S.1 r r2 ∧ S.1 ≤ (yplcs S l).1 ∧ (yplcs S l).2.2.2.2 = S.2.2.2.2 ∧ yG hp r2 (yplcs S l) lv st
  | [], S, r, g => ⟨r, yag_refl _ _, Nat.le_refl _, rfl, g⟩
  | t :: l, S, r, g => by
    obtain ⟨r2, a1, a2, a3, a4⟩ := yplc_ok g H t.1 t.2.1
    obtain ⟨r3, b1, b2, b3, b4⟩ := yplcs_ok H (l := l) a4
    exact ⟨r3, fun s hs => (b1 s (Nat.lt_of_lt_of_le hs a2)).trans (a1 s hs), Nat.le_trans a2 b2, b3.trans a3, b4⟩
end YMAT
