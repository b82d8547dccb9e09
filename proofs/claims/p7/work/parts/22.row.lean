/-! Steps of the checker that read rows. -/
/-- bounds of elements at the places that a form can name -/
def yjn (p q : Int × Int) : Int × Int := (ymin p.1 q.1, ymax p.2 q.2)
def yej (ec : Nat) (a c : Int) : Nat → Int → Int × Int
  | 0, s => yel ec (a * s + c).toNat
  | n + 1, s => yjn (yel ec (a * s + c).toNat) (yej ec a c n (s + 1))
theorem yjn_l (p q : Int × Int) : (yjn p q).1 ≤ p.1 ∧ p.2 ≤ (yjn p q).2 ∧ (yjn p q).1 ≤ q.1 ∧ q.2 ≤ (yjn p q).2 := ⟨(ymin_l _ _).1, (ymax_l _ _).1, (ymin_l _ _).2, (ymax_l _ _).2⟩
theorem yej_ok (ec : Nat) (a c : Int) : ∀ (n : Nat) (s x : Int), s ≤ x → x ≤ s + (n : Int) → (yej ec a c n s).1 ≤ (yel ec (a * x + c).toNat).1 ∧ (yel ec (a * x + c).toNat).2 ≤ (yej ec a c n s).2
  | 0, s, x, h1, h2 => by
    have : x = s := by omega
    subst this
    exact ⟨Int.le_refl _, Int.le_refl _⟩
  | n + 1, s, x, h1, h2 => by
    have l := yjn_l (yel ec (a * s + c).toNat) (yej ec a c n (s + 1))
    show (yjn (yel ec (a * s + c).toNat) (yej ec a c n (s + 1))).1 ≤ _ ∧ _ ≤ (yjn (yel ec (a * s + c).toNat) (yej ec a c n (s + 1))).2
    by_cases e : x = s
    · subst e
      exact ⟨l.1, l.2.1⟩
    · have := yej_ok ec a c n (s + 1) x (by omega) (by omega)
      omega
def yelr (b : yB) (ec : Nat) (il : yL) : Int × Int := if yed ec = false then yel ec 0 else if il.1 = 0 then yel ec il.2.2.toNat else match ybd b il.2.1 with
  | some e => if e.2 - e.1 ≤ 400 then yej ec il.1 il.2.2 (e.2 - e.1).toNat e.1 else (-2147483648, 2147483647)
  | none => (-2147483648, 2147483647)
theorem yelr_ok {r : Nat → Int} {n : Nat} {b : yB} (g : yGe r n b) {ec : Nat} {il : yL} {x : Int32} (h : (yel ec (yev r il).toNat).1 ≤ x.toInt ∧ x.toInt ≤ (yel ec (yev r il).toNat).2) : (yelr b ec il).1 ≤ x.toInt ∧ x.toInt ≤ (yelr b ec il).2 := by
  have hx := y32 x
  unfold yelr
  split
  · next e =>
    rw [yel_same e] at h
    exact h
  · split
    · next e =>
      rw [yev_0 e] at h
      exact h
    · split
      · next e he =>
        have hb := g _ (ybd_mem he)
        have b1 : e.1 ≤ r il.2.1 := hb.2.1
        have b2 : r il.2.1 ≤ e.2 := hb.2.2
        split
        · have := yej_ok ec il.1 il.2.2 (e.2 - e.1).toNat e.1 (r il.2.1) b1 (by omega)
          have h2 : (yel ec (il.1 * r il.2.1 + il.2.2).toNat).1 ≤ x.toInt ∧ x.toInt ≤ (yel ec (il.1 * r il.2.1 + il.2.2).toNat).2 := h
          omega
        · exact ⟨hx.1, Int.le_of_lt_add_one hx.2⟩
      · exact ⟨hx.1, Int.le_of_lt_add_one hx.2⟩
def ybnd (S : yS) (cl il : yL) (c : yC) : Bool := match yrg S.2.1 il with
  | some p => decide (0 ≤ p.1) && (if c.1 = 1 then decide (p.2 < (c.2.2.1 : Int)) || yprv S.2.1 S.2.2.1 (yadd (-1) (yxl il) ([], (c.2.2.1 : Int) - 1)) else match ylk S.2.2.2.1 cl (yc (-1)) with
    | some a => a.1 == 0 && yprv S.2.1 S.2.2.1 (yadd (-1) (yxl il) (yadd 1 (yxl a.2.1) ([], -1)))
    | none => false)
  | none => false
section YROW
variable {hp : zHp} {r : Nat → Int} {S : yS} {lv : List (Nat × Value)} {st : List Value} {pc : Nat}
theorem ybnd_ok (g : yG hp r S lv st) {cl il : yL} {c : yC} {i n t : Nat} {x : (Nat → Int32) ⊕ (Nat → Int64) ⊕ (Nat → UInt32) ⊕ (Nat → UInt64) ⊕ (Nat → Option Nat)} (h : ybnd S cl il c = true) (hi : (i : Int) = yev r cl) (hc : hp.2 i = .inl (t, n, x)) (hn : c.1 = 1 → n = c.2.2.1) (hn2 : n ≤ 3000) : 0 ≤ yev r il ∧ (yev r il).toNat < n := by
  unfold ybnd at h
  split at h
  · next p hp1 =>
    have bb := yrg_ok g.1 hp1
    rw [Bool.and_eq_true] at h
    have h0 : 0 ≤ p.1 := of_decide_eq_true h.1
    refine ⟨by omega, ?_⟩
    have h2 := h.2
    split at h2
    · next c1 =>
      rw [hn c1]
      rw [Bool.or_eq_true] at h2
      rcases h2 with h2 | h2
      · have h2 : p.2 < (c.2.2.1 : Int) := of_decide_eq_true h2
        omega
      · have := yprv_ok g.1 g.2.1 h2
        rw [yadd_ok, yxl_ok] at this
        have e : yex r (([] : List (Int × Nat)), (c.2.2.1 : Int) - 1) = (c.2.2.1 : Int) - 1 := by show 0 + _ = _; omega
        rw [e] at this
        omega
    · split at h2
      · next a ha =>
        rw [Bool.and_eq_true] at h2
        obtain ⟨-, k1, k2, k3, k4⟩ := g.2.2.1 _ (ylk_mem ha)
        have a0 : a.1 = 0 := by simpa using h2.1
        have k3 : yrd hp (yev r cl).toNat (yev r (yc (-1))) = some k2 := k3
        rw [← hi, yev_c, Int.toNat_natCast] at k3
        unfold yrd at k3
        rw [hc] at k3
        dsimp only at k3
        rw [if_pos (by decide)] at k3
        have k3 := yifs k3
        cases k3
        obtain ⟨y, e1, e2⟩ := yvI' a0 k4
        cases e1
        rw [Int32.toInt_ofNat_of_lt (by omega)] at e2
        have := yprv_ok g.1 g.2.1 h2.2
        rw [yadd_ok, yxl_ok, yadd_ok, yxl_ok] at this
        have e : yex r (([] : List (Int × Nat)), (-1 : Int)) = -1 := rfl
        rw [e] at this
        have e2 : (n : Int) = yev r a.2.1 := e2
        omega
      · cases h2
  · cases h
theorem yix {j : Int32} {l : yL} {n : Nat} (e : j.toInt = yev r l) (h : 0 ≤ yev r l ∧ (yev r l).toNat < n) : ¬ (j < 0 ∨ n ≤ j.toNatClampNeg) ∧ j.toNatClampNeg = (yev r l).toNat := by
  have e2 : j.toNatClampNeg = (yev r l).toNat := by rw [← e]; rfl
  refine ⟨fun z => ?_, e2⟩
  rcases z with z | z
  · have := Int32.lt_iff_toInt_lt.mp z
    have e0 : (0 : Int32).toInt = 0 := rfl
    omega
  · omega
/-- rows outside -/
def ytj (f : Nat → Int32) : Nat → Nat → Int × Int
  | 0, k => ((f k).toInt, (f k).toInt)
  | n + 1, k => yjn ((f k).toInt, (f k).toInt) (ytj f n (k + 1))
theorem ytj_ok (f : Nat → Int32) : ∀ (n k j : Nat), k ≤ j → j ≤ k + n → (ytj f n k).1 ≤ (f j).toInt ∧ (f j).toInt ≤ (ytj f n k).2
  | 0, k, j, h1, h2 => by
    have : j = k := by omega
    subst this
    exact ⟨Int.le_refl _, Int.le_refl _⟩
  | n + 1, k, j, h1, h2 => by
    have l := yjn_l ((f k).toInt, (f k).toInt) (ytj f n (k + 1))
    show (yjn ((f k).toInt, (f k).toInt) (ytj f n (k + 1))).1 ≤ _ ∧ _ ≤ (yjn ((f k).toInt, (f k).toInt) (ytj f n (k + 1))).2
    by_cases e : j = k
    · subst e
      exact ⟨l.1, l.2.1⟩
    · have := ytj_ok f n (k + 1) j (by omega) (by omega)
      omega
def ytbl (b : yB) (v : yV) (l : yL) (tk : Nat) : Option (Int × Int) := if v.1 = 2 then (match yrg b v.2.1, yrg b l with
  | some p, some q => if p.1 = p.2 ∧ 1020 ≤ p.1 then (match ztb none (p.1.toNat - 1000) with
    | some t => if t.1 = tk ∧ 0 ≤ q.1 ∧ q.2 < (t.2.1 : Int) then some (ytj t.2.2 (q.2 - q.1).toNat q.1.toNat) else none
    | none => none) else none
  | _, _ => none) else none
theorem ytbl_ok (g : yG hp r S lv st) {v : yV} {w : Value} {l : yL} {tk : Nat} {q : Int × Int} (hv : yv hp.1 r v w) (h : ytbl S.2.1 v l tk = some q) : ∃ (i n : Nat) (f : Nat → Int32), w = .ref i ∧ ¬ i < 1000 ∧ ztb none (i - 1000) = some (tk, n, f) ∧ (0 ≤ yev r l ∧ (yev r l).toNat < n) ∧ q.1 ≤ (f (yev r l).toNat).toInt ∧ (f (yev r l).toNat).toInt ≤ q.2 := by
  unfold ytbl at h
  split at h
  · next h2 =>
    unfold yv at hv
    rw [h2] at hv
    split at h
    · next p q2 h3 h4 =>
      have b1 := yrg_ok g.1 h3
      have b2 := yrg_ok g.1 h4
      split at h
      · next c =>
        split at h
        · next t ht =>
          split at h
          · next c2 =>
            cases h
            rcases hv with ⟨hv, -⟩ | ⟨hv, rfl⟩
            · omega
            · obtain ⟨t1, n, f⟩ := t
              obtain ⟨rfl, c3, c4⟩ := c2
              have c4 : q2.2 < (n : Int) := c4
              have e : (yev r v.2.1).toNat = p.1.toNat := by omega
              refine ⟨_, n, f, rfl, by omega, by rw [e]; exact ht, by omega, ?_⟩
              exact ytj_ok f _ _ _ (by omega) (by omega)
          · cases h
        · cases h
      · cases h
    · cases h
  · cases h
def aIld (kd : yC → Bool) (tk : Nat) (pc : Nat) (S : yS) : yO := match S.2.2.2.2.2 with
  | j :: v :: s => if j.1 = 0 then (match ytbl S.2.1 v j.2.1 tk with
    | some q => some [(pc + 1, yst (yput S (q, none)).1 (yI (yput S (q, none)).2 :: s))]
    | none => match ycel S.2.1 v with
      | some q => if kd q.2 = true ∧ ybnd S q.1 (ynm S.2.1 j.2.1) q.2 = true then (match ylk S.2.2.2.1 q.1 (ynm S.2.1 j.2.1) with
        | some w => if w.1 = 0 then some [(pc + 1, yst S (w :: s))] else none
        | none => some [(pc + 1, yst (yfrs S 0 (yelr S.2.1 q.2.2.2.2.1 (ynm S.2.1 j.2.1)) (q.1.1 == 0) q.1 (ynm S.2.1 j.2.1)).1 ((yfrs S 0 (yelr S.2.1 q.2.2.2.2.1 (ynm S.2.1 j.2.1)) (q.1.1 == 0) q.1 (ynm S.2.1 j.2.1)).2 :: s))]) else none
      | none => none) else none
  | _ => none
theorem yrd_r {i t n : Nat} {f : Nat → Int32} (h : hp.2 i = .inl (t, n, .inl f)) {j : Int} (hj : 0 ≤ j) : yrd hp i j = some (.int (f j.toNat)) := by
  unfold yrd
  rw [h]
  dsimp only
  rw [if_neg (by omega)]
/-- what a load of an element does, the instruction's own step being T -/
theorem aIld_ok (g : yG hp r S lv st) (H : yH0 hp) {kd : yC → Bool} {tk : Nat} {T : zFr → zHp → zO} {L : List (Nat × yS)}
    (hkd : ∀ c i, kd c = true → yokc hp.1 c (hp.2 i) → ∃ (t n : Nat) (f : Nat → Int32), hp.2 i = .inl (t, n, .inl f) ∧ n ≤ 3000 ∧ (c.1 = 1 → n = c.2.2.1) ∧ c.1 ≠ 7 ∧ (∀ j, j < n → (yel c.2.2.2.1 j).1 ≤ (f j).toInt ∧ (f j).toInt ≤ (yel c.2.2.2.1 j).2) ∧ ∀ (j : Int32) (m : List Value), i < hp.1 → ¬ (j < 0 ∨ n ≤ j.toNatClampNeg) → T (pc, lv, .int j :: .ref i :: m) hp = zn (pc + 1) lv (.int (f j.toNatClampNeg) :: m) hp)
    (h7 : ∀ c, kd c = true → c.1 ≠ 7)
    (htb : ∀ (i n : Nat) (f : Nat → Int32) (j : Int32) (m : List Value), ¬ i < 1000 → ztb none (i - 1000) = some (tk, n, f) → ¬ (j < 0 ∨ n ≤ j.toNatClampNeg) → T (pc, lv, .int j :: .ref i :: m) hp = zn (pc + 1) lv (.int (f j.toNatClampNeg) :: m) hp)
    (h : aIld kd tk pc S = some L) : yD hp r S.1 L (T (pc, lv, st) hp) := by
  unfold aIld at h
  split at h
  · next j v s hs =>
    have g5 := g.2.2.2.2
    rw [hs] at g5
    obtain ⟨v1, m1, rfl, ⟨w1, hv1⟩, g6⟩ := ystk_cons g5
    obtain ⟨v2, m, rfl, ⟨w2, hv2⟩, g7⟩ := ystk_cons g6
    split at h
    · next hj =>
      obtain ⟨x, rfl, hx⟩ := yvI' hj hv1
      split at h
      · next q hq =>
        cases h
        obtain ⟨i, n, f, rfl, h1, h2, h3, h4⟩ := ytbl_ok g hv2 hq
        obtain ⟨i1, i2⟩ := yix hx h3
        rw [htb i n f x m h1 h2 i1, i2]
        obtain ⟨r2, a1, a2, a3, a4, a5, a6⟩ := yput_ok g (t := (q, none)) (z := (f (yev r j.2.1).toNat).toInt) ⟨h4, fun l hl => by cases hl⟩
        exact yD1 rfl a1 a2 (yG_st a4 ⟨⟨ywI a5, yvI a6.symm⟩, ystk_ag a2 a1 g7⟩)
      · split at h
        · next q hq =>
          split at h
          · next c =>
            obtain ⟨i, rfl, hi, ei, wq, hok, -, -⟩ := ycel_ok g.1 H w2 hv2 hq
            obtain ⟨t, n, f, hc, hn, hn1, -, hty, hT⟩ := hkd q.2 i c.1 (hok (h7 _ c.1))
            have nm := ynm_ok g.1 w1.1
            have bd := ybnd_ok g c.2 ei hc hn1 hn
            have hx2 : x.toInt = yev r (ynm S.2.1 j.2.1) := hx.trans nm.1.symm
            obtain ⟨i1, i2⟩ := yix hx2 bd
            rw [hT x m hi i1, i2]
            have e1 : (yev r q.1).toNat = i := by omega
            split at h
            · next w hw =>
              split at h
              · next hw0 =>
                cases h
                obtain ⟨⟨-, -, wx⟩, k1, k2, k3, k4⟩ := g.2.2.1 _ (ylk_mem hw)
                have k3 : yrd hp (yev r q.1).toNat (yev r (ynm S.2.1 j.2.1)) = some k2 := k3
                rw [e1, yrd_r hc bd.1] at k3
                cases k3
                exact yD1 rfl (yag_refl _ _) (Nat.le_refl _) (yG_st g ⟨⟨wx, k4⟩, g7⟩)
              · cases h
            · cases h
              obtain ⟨r2, a1, a2, a3, a4, a5, a6⟩ := yfrs_ok g (tag := 0) (q := yelr S.2.1 q.2.2.2.2.1 (ynm S.2.1 j.2.1)) (keep := (q.1.1 == 0)) (cl := q.1) (il := ynm S.2.1 j.2.1) (w := .int (f (yev r (ynm S.2.1 j.2.1)).toNat)) (yelr_ok g.1 (hty _ bd.2)) (fun r2 l e => yvI e.symm) wq nm.2 (fun _ => ⟨by omega, by rw [e1, yrd_r hc bd.1]⟩)
              exact yD1 rfl a1 a2 (yG_st a4 ⟨⟨a5, a6⟩, ystk_ag a2 a1 g7⟩)
          · cases h
        · cases h
    · cases h
  · cases h
/-- rows of ints: 1 of a known length, 2 of some length -/
def ykI (c : yC) : Bool := (c.1 == 1 && c.2.1 == 0 && decide (c.2.2.1 ≤ 3000)) || (c.1 == 2 && c.2.2.2.1 == 0)
def ykB (c : yC) : Bool := c.1 == 1 && (c.2.1 == 1 || c.2.1 == 2) && decide (c.2.2.1 ≤ 3000)
theorem yany (x : Int32) : (yel 0 0).1 ≤ x.toInt ∧ x.toInt ≤ (yel 0 0).2 := ⟨(y32 x).1, Int.le_of_lt_add_one (y32 x).2⟩
theorem yel0 (j : Nat) : yel 0 j = yel 0 0 := rfl
theorem ykI_c {c : yC} {i : Nat} (hk : ykI c = true) (hok : yokc hp.1 c (hp.2 i)) : ∃ (n : Nat) (f : Nat → Int32), hp.2 i = .inl (0, n, .inl f) ∧ n ≤ 3000 ∧ (c.1 = 1 → n = c.2.2.1) ∧ c.1 ≠ 7 ∧ ∀ j, j < n → (yel c.2.2.2.1 j).1 ≤ (f j).toInt ∧ (f j).toInt ≤ (yel c.2.2.2.1 j).2 := by
  obtain ⟨c1, c2, c3, c4, c5⟩ := c
  unfold ykI at hk
  simp only [Bool.or_eq_true, Bool.and_eq_true, beq_iff_eq, decide_eq_true_eq] at hk
  rcases hk with ⟨⟨rfl, rfl⟩, h3⟩ | ⟨rfl, rfl⟩
  · obtain ⟨-, f, e, hf⟩ : (0 < 3 ∧ ∃ f : Nat → Int32, hp.2 i = .inl (0, c3, .inl f) ∧ ∀ j, j < c3 → (yel c4 j).1 ≤ (f j).toInt ∧ (f j).toInt ≤ (yel c4 j).2) := hok
    exact ⟨c3, f, e, h3, fun _ => rfl, (show (1 : Nat) ≠ 7 by decide), hf⟩
  · obtain ⟨n, f, h1, e⟩ : ∃ (n : Nat) (f : Nat → Int32), n ≤ 400 ∧ hp.2 i = .inl (0, n, .inl f) := hok
    exact ⟨n, f, e, by omega, (fun z => by cases z), (show (2 : Nat) ≠ 7 by decide), fun j _ => yany _⟩
theorem ykB_c {c : yC} {i : Nat} (hk : ykB c = true) (hok : yokc hp.1 c (hp.2 i)) : ∃ (t n : Nat) (f : Nat → Int32), (t = 1 ∨ t = 2) ∧ t = c.2.1 ∧ hp.2 i = .inl (t, n, .inl f) ∧ n ≤ 3000 ∧ (c.1 = 1 → n = c.2.2.1) ∧ c.1 ≠ 7 ∧ ∀ j, j < n → (yel c.2.2.2.1 j).1 ≤ (f j).toInt ∧ (f j).toInt ≤ (yel c.2.2.2.1 j).2 := by
  obtain ⟨c1, c2, c3, c4, c5⟩ := c
  unfold ykB at hk
  simp only [Bool.or_eq_true, Bool.and_eq_true, beq_iff_eq, decide_eq_true_eq] at hk
  obtain ⟨⟨rfl, rfl | rfl⟩, h3⟩ := hk
  · obtain ⟨-, f, e, hf⟩ : (1 < 3 ∧ ∃ f : Nat → Int32, hp.2 i = .inl (1, c3, .inl f) ∧ ∀ j, j < c3 → (yel c4 j).1 ≤ (f j).toInt ∧ (f j).toInt ≤ (yel c4 j).2) := hok
    exact ⟨1, c3, f, Or.inl rfl, rfl, e, h3, fun _ => rfl, (show (1 : Nat) ≠ 7 by decide), hf⟩
  · obtain ⟨-, f, e, hf⟩ : (2 < 3 ∧ ∃ f : Nat → Int32, hp.2 i = .inl (2, c3, .inl f) ∧ ∀ j, j < c3 → (yel c4 j).1 ≤ (f j).toInt ∧ (f j).toInt ≤ (yel c4 j).2) := hok
    exact ⟨2, c3, f, Or.inr rfl, rfl, e, h3, fun _ => rfl, (show (1 : Nat) ≠ 7 by decide), hf⟩
theorem yk_7 {c : yC} (h : ykI c = true ∨ ykB c = true) : c.1 ≠ 7 := by
  intro e
  unfold ykI ykB at h
  rw [e] at h
  rcases h with h | h <;> simp at h
theorem aIald_ok (g : yG hp r S lv st) (H : yH0 hp) {L : List (Nat × yS)} (h : aIld ykI 0 pc S = some L) : yD hp r S.1 L (zIald ztb none (pc, lv, st) hp) := by
  refine aIld_ok (T := zIald ztb none) g H (fun c i hk hok => ?_) (fun c hc => yk_7 (Or.inl hc)) (fun i n f j m h1 h2 h3 => ?_) h
  · obtain ⟨n, f, e, h1, h2, h3, h4⟩ := ykI_c hk hok
    refine ⟨0, n, f, e, h1, h2, h3, h4, fun j m hi hj => ?_⟩
    unfold zIald
    dsimp only
    rw [if_pos (show i < zSC from Nat.lt_of_lt_of_le hi H.2.1), if_pos hi, e]
    show (if ¬ (j < 0 ∨ n ≤ j.toNatClampNeg) then zn (pc + 1) lv (.int (f j.toNatClampNeg) :: m) hp else none) = _
    rw [if_pos hj]
  · unfold zIald
    dsimp only
    rw [if_neg (show ¬ i < zSC from h1), show i - zSC = i - 1000 from rfl, h2]
    show (if ¬ (j < 0 ∨ n ≤ j.toNatClampNeg) then zn (pc + 1) lv (.int (f j.toNatClampNeg) :: m) hp else none) = _
    rw [if_pos h3]
theorem aBald_ok (g : yG hp r S lv st) (H : yH0 hp) {L : List (Nat × yS)} (h : aIld ykB 1 pc S = some L) : yD hp r S.1 L (zBald ztb none (pc, lv, st) hp) := by
  refine aIld_ok (T := zBald ztb none) g H (fun c i hk hok => ?_) (fun c hc => yk_7 (Or.inr hc)) (fun i n f j m h1 h2 h3 => ?_) h
  · obtain ⟨t, n, f, ht, -, e, h1, h2, h3, h4⟩ := ykB_c hk hok
    refine ⟨t, n, f, e, h1, h2, h3, h4, fun j m hi hj => ?_⟩
    unfold zBald
    dsimp only
    rw [if_pos (show i < zSC from Nat.lt_of_lt_of_le hi H.2.1), if_pos hi, e]
    rcases ht with rfl | rfl
    · show (if ¬ (j < 0 ∨ n ≤ j.toNatClampNeg) then zn (pc + 1) lv (.int (f j.toNatClampNeg) :: m) hp else none) = _
      rw [if_pos hj]
    · show (if ¬ (j < 0 ∨ n ≤ j.toNatClampNeg) then zn (pc + 1) lv (.int (f j.toNatClampNeg) :: m) hp else none) = _
      rw [if_pos hj]
  · unfold zBald
    dsimp only
    rw [if_neg (show ¬ i < zSC from h1), show i - zSC = i - 1000 from rfl, h2]
    show (if ¬ (j < 0 ∨ n ≤ j.toNatClampNeg) then zn (pc + 1) lv (.int (f j.toNatClampNeg) :: m) hp else none) = _
    rw [if_pos h3]
/-- rows of longs -/
def ykL (c : yC) : Bool := c.1 == 1 && c.2.1 == 3 && decide (c.2.2.1 ≤ 3000)
theorem ykL_c {c : yC} {i : Nat} (hk : ykL c = true) (hok : c.1 ≠ 7 → yokc hp.1 c (hp.2 i)) : ∃ f : Nat → Int64, hp.2 i = .inl (3, c.2.2.1, .inr (.inl f)) ∧ c.2.2.1 ≤ 3000 ∧ c.1 = 1 := by
  obtain ⟨c1, c2, c3, c4, c5⟩ := c
  unfold ykL at hk
  simp only [Bool.and_eq_true, beq_iff_eq, decide_eq_true_eq] at hk
  obtain ⟨⟨rfl, rfl⟩, h3⟩ := hk
  obtain ⟨f, e⟩ : ∃ f : Nat → Int64, hp.2 i = .inl (3, c3, .inr (.inl f)) := hok (show (1 : Nat) ≠ 7 by decide)
  exact ⟨f, e, h3, rfl⟩
def aLald (pc : Nat) (S : yS) : yO := match S.2.2.2.2.2 with
  | j :: v :: s => if j.1 = 0 then (match ycel S.2.1 v with
      | some q => if ykL q.2 = true ∧ ybnd S q.1 (ynm S.2.1 j.2.1) q.2 = true then some [(pc + 1, yst (yput S ((-9223372036854775808, 9223372036854775807), none)).1 ((1, (yput S ((-9223372036854775808, 9223372036854775807), none)).2, yc 0) :: s))] else none
      | none => none) else none
  | _ => none
theorem aLald_ok (g : yG hp r S lv st) (H : yH0 hp) {L : List (Nat × yS)} (h : aLald pc S = some L) : yD hp r S.1 L (zLald (pc, lv, st) hp) := by
  unfold aLald at h
  split at h
  · next j v s hs =>
    have g5 := g.2.2.2.2
    rw [hs] at g5
    obtain ⟨v1, m1, rfl, ⟨w1, hv1⟩, g6⟩ := ystk_cons g5
    obtain ⟨v2, m, rfl, ⟨w2, hv2⟩, g7⟩ := ystk_cons g6
    split at h
    · next hj =>
      obtain ⟨x, rfl, hx⟩ := yvI' hj hv1
      split at h
      · next q hq =>
        split at h
        · next c =>
          cases h
          obtain ⟨i, rfl, hi, ei, wq, hok, -, -⟩ := ycel_ok g.1 H w2 hv2 hq
          obtain ⟨f, hc, hn, hn1⟩ := ykL_c c.1 hok
          have nm := ynm_ok g.1 w1.1
          have bd := ybnd_ok g c.2 ei hc (fun _ => rfl) hn
          obtain ⟨i1, i2⟩ := yix (hx.trans nm.1.symm) bd
          have e : zLald (pc, lv, .int x :: .ref i :: m) hp = zn (pc + 1) lv (.long (f x.toNatClampNeg) :: m) hp := by
            unfold zLald
            dsimp only
            rw [if_pos (show i < hp.1 ∧ i < zSC from ⟨hi, Nat.lt_of_lt_of_le hi H.2.1⟩), hc]
            show (if ¬ (x < 0 ∨ q.2.2.2.1 ≤ x.toNatClampNeg) then zn (pc + 1) lv (.long (f x.toNatClampNeg) :: m) hp else none) = _
            rw [if_pos i1]
          rw [e]
          have := y64 (f x.toNatClampNeg)
          obtain ⟨r2, a1, a2, a3, a4, a5, a6⟩ := yput_ok g (t := ((-9223372036854775808, 9223372036854775807), none)) (z := (f x.toNatClampNeg).toInt) ⟨⟨this.1, Int.le_of_lt_add_one this.2⟩, fun l hl => by cases hl⟩
          exact yD1 rfl a1 a2 (yG_st a4 ⟨⟨⟨a5, Or.inl rfl⟩, yvL a6.symm⟩, ystk_ag a2 a1 g7⟩)
        · cases h
      · cases h
    · cases h
  · cases h
def ykA (c : yC) : Bool := c.1 == 1 && (c.2.1 == 4 || c.2.1 == 5) && decide (c.2.2.1 ≤ 3000)
def aAald (pc : Nat) (S : yS) : yO := match S.2.2.2.2.2 with
  | j :: v :: s => if j.1 = 0 then (match ycel S.2.1 v with
      | some q => if ykA q.2 = true ∧ ybnd S q.1 (ynm S.2.1 j.2.1) q.2 = true then (if q.2.2.1 = 5 then some [(pc + 1, yst S ((2, ((ynm S.2.1 j.2.1).1, (ynm S.2.1 j.2.1).2.1, (ynm S.2.1 j.2.1).2.2 + (q.2.2.2.2.1 : Int)), yc 0) :: s))] else (match ylk S.2.2.2.1 q.1 (ynm S.2.1 j.2.1) with
        | some w => if w.1 = 3 then some [(pc + 1, yst S (w :: s))] else none
        | none => some [(pc + 1, yst (yfrs S 3 (-1, 303) (q.1.1 == 0) q.1 (ynm S.2.1 j.2.1)).1 ((yfrs S 3 (-1, 303) (q.1.1 == 0) q.1 (ynm S.2.1 j.2.1)).2 :: s))])) else none
      | none => none) else none
  | _ => none
theorem yrd_f {i t n : Nat} {f : Nat → Option Nat} (h : hp.2 i = .inl (t, n, .inr (.inr (.inr (.inr f))))) {j : Int} (hj : 0 ≤ j) : yrd hp i j = some (va_rf (f j.toNat)) := by
  unfold yrd
  rw [h]
  dsimp only
  rw [if_neg (by omega)]
theorem aAald_ok (g : yG hp r S lv st) (H : yH0 hp) {L : List (Nat × yS)} (h : aAald pc S = some L) : yD hp r S.1 L (zAald (pc, lv, st) hp) := by
  unfold aAald at h
  split at h
  · next j v s hs =>
    have g5 := g.2.2.2.2
    rw [hs] at g5
    obtain ⟨v1, m1, rfl, ⟨w1, hv1⟩, g6⟩ := ystk_cons g5
    obtain ⟨v2, m, rfl, ⟨w2, hv2⟩, g7⟩ := ystk_cons g6
    split at h
    · next hj =>
      obtain ⟨x, rfl, hx⟩ := yvI' hj hv1
      split at h
      · next q hq =>
        split at h
        · next c =>
          obtain ⟨i, rfl, hi, ei, wq, hok, -, -⟩ := ycel_ok g.1 H w2 hv2 hq
          have nm := ynm_ok g.1 w1.1
          obtain ⟨cl, c1, c2, c3, c4, c5⟩ := q
          have hk := c.1
          unfold ykA at hk
          simp only [Bool.or_eq_true, Bool.and_eq_true, beq_iff_eq, decide_eq_true_eq] at hk
          obtain ⟨⟨rfl, hk2⟩, hk3⟩ := hk
          have hok := hok (show (1 : Nat) ≠ 7 by decide)
          have go : ∀ (t : Nat) (f : Nat → Option Nat), (t = 4 ∨ t = 5) → hp.2 i = .inl (t, c3, .inr (.inr (.inr (.inr f)))) → (0 ≤ yev r (ynm S.2.1 j.2.1) ∧ (yev r (ynm S.2.1 j.2.1)).toNat < c3) ∧ zAald (pc, lv, .int x :: .ref i :: m) hp = zn (pc + 1) lv (va_rf (f (yev r (ynm S.2.1 j.2.1)).toNat) :: m) hp := by
            intro t f ht hc
            have bd := ybnd_ok g c.2 ei hc (fun _ => rfl) hk3
            obtain ⟨i1, i2⟩ := yix (hx.trans nm.1.symm) bd
            refine ⟨bd, ?_⟩
            unfold zAald
            dsimp only
            rw [if_pos (show i < hp.1 ∧ i < zSC from ⟨hi, Nat.lt_of_lt_of_le hi H.2.1⟩), hc, ← i2]
            rcases ht with rfl | rfl
            · show (if ¬ (x < 0 ∨ c3 ≤ x.toNatClampNeg) then zn (pc + 1) lv (va_rf (f x.toNatClampNeg) :: m) hp else none) = _
              rw [if_pos i1]
            · show (if ¬ (x < 0 ∨ c3 ≤ x.toNatClampNeg) then zn (pc + 1) lv (va_rf (f x.toNatClampNeg) :: m) hp else none) = _
              rw [if_pos i1]
          split at h
          · next h5 =>
            have h5 : c2 = 5 := h5
            subst h5
            cases h
            obtain ⟨f, e, hf⟩ : ∃ f : Nat → Option Nat, hp.2 i = .inl (5, c3, .inr (.inr (.inr (.inr f)))) ∧ ∀ j, j < c3 → f j = some (c4 + j) := hok
            obtain ⟨bd, hz⟩ := go 5 f (Or.inr rfl) e
            rw [hz, hf _ bd.2]
            refine yD1 rfl (yag_refl _ _) (Nat.le_refl _) (yG_st g ⟨⟨⟨nm.2, Or.inl rfl⟩, yv_ref ?_⟩, g7⟩)
            show (ynm S.2.1 j.2.1).1 * r (ynm S.2.1 j.2.1).2.1 + ((ynm S.2.1 j.2.1).2.2 + (c4 : Int)) = ((c4 + (yev r (ynm S.2.1 j.2.1)).toNat : Nat) : Int)
            have : yev r (ynm S.2.1 j.2.1) = (ynm S.2.1 j.2.1).1 * r (ynm S.2.1 j.2.1).2.1 + (ynm S.2.1 j.2.1).2.2 := rfl
            omega
          · next h5 =>
            have h5 : ¬ c2 = 5 := h5
            have h4 : c2 = 4 := by omega
            subst h4
            obtain ⟨f, e, hf⟩ : ∃ f : Nat → Option Nat, hp.2 i = .inl (4, c3, .inr (.inr (.inr (.inr f)))) ∧ ∀ j, j < c3 → f j = none ∨ ∃ k : Nat, f j = some (88 + 3 * k) ∧ 88 + 3 * k + 2 < hp.1 := hok
            obtain ⟨bd, hz⟩ := go 4 f (Or.inl rfl) e
            rw [hz]
            have e1 : (yev r cl).toNat = i := by have : (i : Int) = yev r cl := ei; omega
            split at h
            · next w hw =>
              split at h
              · cases h
                obtain ⟨⟨-, -, wx⟩, k1, k2, k3, k4⟩ := g.2.2.1 _ (ylk_mem hw)
                have k3 : yrd hp (yev r cl).toNat (yev r (ynm S.2.1 j.2.1)) = some k2 := k3
                rw [e1, yrd_f e bd.1] at k3
                cases k3
                exact yD1 rfl (yag_refl _ _) (Nat.le_refl _) (yG_st g ⟨⟨wx, k4⟩, g7⟩)
              · cases h
            · cases h
              have hz : ∃ z : Int, (-1 ≤ z ∧ z ≤ 303) ∧ ∀ (r2 : Nat → Int) (l : yL), yev r2 l = z → yv hp.1 r2 (3, l, yc 0) (va_rf (f (yev r (ynm S.2.1 j.2.1)).toNat)) := by
                rcases hf _ bd.2 with h0 | ⟨k, h0, hk⟩
                · rw [h0]
                  refine ⟨-1, by decide, fun r2 l e => ?_⟩
                  exact Or.inl ⟨e, rfl⟩
                · rw [h0]
                  have := H.2.1
                  refine ⟨(k : Int), by omega, fun r2 l e => ?_⟩
                  refine Or.inr ⟨?_, ?_, ?_⟩
                  · show 0 ≤ yev r2 l
                    omega
                  · show 88 + 3 * (yev r2 l).toNat + 2 < hp.1
                    omega
                  · show Value.ref (88 + 3 * k) = .ref (88 + 3 * (yev r2 l).toNat)
                    rw [e, Int.toNat_natCast]
              obtain ⟨z, z1, z2⟩ := hz
              obtain ⟨r2, a1, a2, a3, a4, a5, a6⟩ := yfrs_ok g (tag := 3) (q := (-1, 303)) (keep := (cl.1 == 0)) (cl := cl) (il := ynm S.2.1 j.2.1) z1 z2 wq nm.2 (fun _ => ⟨by have : (i : Int) = yev r cl := ei; omega, by rw [e1, yrd_f e bd.1]⟩)
              exact yD1 rfl a1 a2 (yG_st a4 ⟨⟨a5, a6⟩, ystk_ag a2 a1 g7⟩)
        · cases h
      · cases h
    · cases h
  · cases h
end YROW
