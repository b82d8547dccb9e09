/-! New symbols; what a comparison tells. -/
def yput (S : yS) (t : (Int × Int) × Option yL) : yS × yL := if t.1.1 = t.1.2 then (S, yc t.1.1) else match t.2 with
  | some l => (S, l)
  | none => ((S.1 + 1, (S.1, t.1.1, t.1.2) :: S.2.1, S.2.2), (1, S.1, 0))
def yset (r : Nat → Int) (n : Nat) (z : Int) : Nat → Int := fun s => if s = n then z else r s
theorem yset_ag (r : Nat → Int) (n : Nat) (z : Int) : yag n r (yset r n z) := fun s hs => by
  unfold yset
  rw [if_neg (Nat.ne_of_lt hs)]
theorem yset_n (r : Nat → Int) (n : Nat) (z : Int) : yset r n z n = z := if_pos rfl
section YREF
variable {hp : zHp} {r : Nat → Int} {S : yS} {lv : List (Nat × Value)} {st : List Value}
theorem yG_new (g : yG hp r S lv st) {lo hi z : Int} (h : lo ≤ z ∧ z ≤ hi) : yG hp (yset r S.1 z) (S.1 + 1, (S.1, lo, hi) :: S.2.1, S.2.2) lv st := by
  have a := yset_ag r S.1 z
  refine ⟨fun e he => ?_, yGf_ag (Nat.le_succ _) a g.2.1, yGt_ag (Nat.le_succ _) a g.2.2.1, yGl_ag (Nat.le_succ _) a g.2.2.2.1, ystk_ag (Nat.le_succ _) a g.2.2.2.2⟩
  rcases List.mem_cons.mp he with rfl | he
  · refine ⟨Nat.lt_succ_self _, ?_⟩
    show lo ≤ yset r S.1 z S.1 ∧ yset r S.1 z S.1 ≤ hi
    rw [yset_n]
    exact h
  · exact yGe_ag (Nat.le_succ _) a g.1 e he
theorem yput_ok (g : yG hp r S lv st) {t : (Int × Int) × Option yL} {z : Int} (h : (t.1.1 ≤ z ∧ z ≤ t.1.2) ∧ ∀ l, t.2 = some l → yw S.1 l ∧ yev r l = z) :
    ∃ r2, yag S.1 r r2 ∧ S.1 ≤ (yput S t).1.1 ∧ (yput S t).1.2.2 = S.2.2 ∧ yG hp r2 (yput S t).1 lv st ∧ yw (yput S t).1.1 (yput S t).2 ∧ yev r2 (yput S t).2 = z := by
  unfold yput
  split
  · next e =>
    refine ⟨r, fun _ _ => rfl, Nat.le_refl _, rfl, g, Or.inl rfl, ?_⟩
    rw [yev_c]
    omega
  · split
    · next l hl => exact ⟨r, fun _ _ => rfl, Nat.le_refl _, rfl, g, h.2 l hl⟩
    · refine ⟨yset r S.1 z, yset_ag _ _ _, Nat.le_succ _, rfl, yG_new g h.1, Or.inr (Nat.lt_succ_self _), ?_⟩
      show 1 * yset r S.1 z S.1 + 0 = z
      rw [yset_n]
      omega
/-- the greatest of the lower bounds of x that the facts give -/
def ylow (b : yB) (x : yX) (z : Int) : List yX → Int
  | [] => z
  | g :: l => ylow b x (match ylbs b (yadd (-1) g x).1 with
    | some u => ymax z (u + (yadd (-1) g x).2)
    | none => z) l
theorem ylow_ok {n : Nat} {b : yB} (gb : yGe r n b) {x : yX} : ∀ {f : List yX} {z : Int}, yGf r n f → z ≤ yex r x → ylow b x z f ≤ yex r x
  | [], z, _, h => h
  | g :: l, z, gf, h => by
    unfold ylow
    refine ylow_ok gb (fun y hy => gf y (List.mem_cons_of_mem _ hy)) ?_
    split
    · next u hu =>
      have h1 := ylbs_ok gb hu
      have h2 := (gf g List.mem_cons_self).2
      have h3 := yadd_ok r (-1) g x
      have h4 : yex r (yadd (-1) g x) = yxs r (yadd (-1) g x).1 + (yadd (-1) g x).2 := rfl
      unfold ymax
      split <;> omega
    · exact h
def yneg (x : yX) : yX := yadd (-1) x ([], 0)
theorem yneg_ok (r : Nat → Int) (x : yX) : yex r (yneg x) = - yex r x := by
  unfold yneg
  rw [yadd_ok]
  show -1 * yex r x + (0 + 0) = _
  omega
/-- the sum of two forms of different symbols: a new symbol, and what it is -/
def ysum (S : yS) (l1 l2 : yL) (p : Int × Int) : yS × yL :=
  ((S.1 + 1, (S.1, ylow S.2.1 (yadd 1 (yxl l1) (yxl l2)) p.1 S.2.2.1, - ylow S.2.1 (yneg (yadd 1 (yxl l1) (yxl l2))) (-p.2) S.2.2.1) :: S.2.1, yadd (-1) (yxl (1, S.1, 0)) (yadd 1 (yxl l1) (yxl l2)) :: yneg (yadd (-1) (yxl (1, S.1, 0)) (yadd 1 (yxl l1) (yxl l2))) :: S.2.2.1, S.2.2.2), (1, S.1, 0))
theorem yin1_w {n : Nat} {k : Int} {s : Nat} (hs : s < n) : ∀ {l : List (Int × Nat)}, (∀ t ∈ l, t.2 < n) → ∀ t ∈ yin1 k s l, t.2 < n
  | [], _, t, ht => by
    rcases List.mem_cons.mp ht with rfl | ht
    · exact hs
    · cases ht
  | q :: l, h, t, ht => by
    unfold yin1 at ht
    split at ht
    · rcases List.mem_cons.mp ht with rfl | ht
      · exact hs
      · exact h t (List.mem_cons_of_mem _ ht)
    · rcases List.mem_cons.mp ht with rfl | ht
      · exact h _ List.mem_cons_self
      · exact yin1_w hs (fun t ht => h t (List.mem_cons_of_mem _ ht)) t ht
theorem yaddl_w {n : Nat} {k : Int} : ∀ {l m : List (Int × Nat)}, (∀ t ∈ l, t.2 < n) → (∀ t ∈ m, t.2 < n) → ∀ t ∈ yaddl k l m, t.2 < n
  | [], m, _, h => h
  | q :: l, m, h1, h2 => by
    unfold yaddl
    exact yaddl_w (fun t ht => h1 t (List.mem_cons_of_mem _ ht)) (yin1_w (h1 q List.mem_cons_self) h2)
theorem yxl_w {n : Nat} {l : yL} (w : yw n l) : ∀ t ∈ (yxl l).1, t.2 < n := by
  unfold yxl
  split
  · intro t ht; cases ht
  · next h =>
    intro t ht
    rcases List.mem_cons.mp ht with rfl | ht
    · exact w.resolve_left h
    · cases ht
theorem ysum_ok (g : yG hp r S lv st) {l1 l2 : yL} (w1 : yw S.1 l1) (w2 : yw S.1 l2) {p : Int × Int} (h : p.1 ≤ yev r l1 + yev r l2 ∧ yev r l1 + yev r l2 ≤ p.2) :
    ∃ r2, yag S.1 r r2 ∧ S.1 ≤ (ysum S l1 l2 p).1.1 ∧ (ysum S l1 l2 p).1.2.2.2 = S.2.2.2 ∧ yG hp r2 (ysum S l1 l2 p).1 lv st ∧ yw (ysum S l1 l2 p).1.1 (ysum S l1 l2 p).2 ∧ yev r2 (ysum S l1 l2 p).2 = yev r l1 + yev r l2 := by
  have ex : yex r (yadd 1 (yxl l1) (yxl l2)) = yev r l1 + yev r l2 := by rw [yadd_ok, yxl_ok, yxl_ok]; omega
  have lo := ylow_ok (r := r) g.1 (x := yadd 1 (yxl l1) (yxl l2)) (z := p.1) g.2.1 (by omega)
  have hi := ylow_ok (r := r) g.1 (x := yneg (yadd 1 (yxl l1) (yxl l2))) (z := -p.2) g.2.1 (by rw [yneg_ok]; omega)
  rw [yneg_ok] at hi
  have g2 := yG_new g (z := yev r l1 + yev r l2) (lo := ylow S.2.1 (yadd 1 (yxl l1) (yxl l2)) p.1 S.2.2.1) (hi := - ylow S.2.1 (yneg (yadd 1 (yxl l1) (yxl l2))) (-p.2) S.2.2.1) (by omega)
  have a := yset_ag r S.1 (yev r l1 + yev r l2)
  have ev : yev (yset r S.1 (yev r l1 + yev r l2)) (1, S.1, 0) = yev r l1 + yev r l2 := by
    show 1 * yset r S.1 _ S.1 + 0 = _
    rw [yset_n]
    omega
  have wn : yw (S.1 + 1) (1, S.1, 0) := Or.inr (Nat.lt_succ_self _)
  have e0 : yex (yset r S.1 (yev r l1 + yev r l2)) (yadd (-1) (yxl (1, S.1, 0)) (yadd 1 (yxl l1) (yxl l2))) = 0 := by
    rw [yadd_ok, yxl_ok, ev, yadd_ok, yxl_ok, yxl_ok, yev_ag a w1, yev_ag a w2]
    omega
  have ww : ∀ t ∈ (yadd (-1) (yxl (1, S.1, 0)) (yadd 1 (yxl l1) (yxl l2))).1, t.2 < S.1 + 1 := yaddl_w (yxl_w wn) (yaddl_w (yxl_w (yw_le (Nat.le_succ _) w1)) (yxl_w (yw_le (Nat.le_succ _) w2)))
  refine ⟨yset r S.1 (yev r l1 + yev r l2), a, Nat.le_succ _, rfl, ⟨g2.1, fun x hx => ?_, g2.2.2⟩, wn, ev⟩
  rcases List.mem_cons.mp hx with rfl | hx
  · exact ⟨ww, by rw [e0]; exact Int.le_refl _⟩
  · rcases List.mem_cons.mp hx with rfl | hx
    · exact ⟨yaddl_w ww (fun t ht => by cases ht), by rw [yneg_ok, e0]; exact Int.le_refl _⟩
    · exact g2.2.1 x hx
/-- two ints by an operation -/
def ybi (S : yS) (o : Nat) (l1 l2 : yL) : Option (yS × yL) := match yrg S.2.1 l1, yrg S.2.1 l2 with
  | some p, some q =>
    if (yoI o p q l1 l2).2 = none ∧ ¬ (yoI o p q l1 l2).1.1 = (yoI o p q l1 l2).1.2 ∧ o = 0 ∧ -1000 ≤ p.1 + q.1 ∧ p.2 + q.2 ≤ 1000 then some (ysum S l1 l2 (p.1 + q.1, p.2 + q.2)) else
    if (yoI o p q l1 l2).2 = none ∧ ¬ (yoI o p q l1 l2).1.1 = (yoI o p q l1 l2).1.2 ∧ o = 1 ∧ -1000 ≤ p.1 - q.2 ∧ p.2 - q.1 ≤ 1000 then some (ysum S l1 (ylneg l2) (p.1 - q.2, p.2 - q.1)) else
    some (yput S (yoI o p q l1 l2))
  | _, _ => none
theorem ybi_ok (g : yG hp r S lv st) {o : Nat} {l1 l2 : yL} (w1 : yw S.1 l1) (w2 : yw S.1 l2) {x y : Int32} (hx : x.toInt = yev r l1) (hy : y.toInt = yev r l2) {T : yS × yL} (h : ybi S o l1 l2 = some T) :
    ∃ r2, yag S.1 r r2 ∧ S.1 ≤ T.1.1 ∧ T.1.2.2.2 = S.2.2.2 ∧ yG hp r2 T.1 lv st ∧ yw T.1.1 T.2 ∧ (yfI o x y).toInt = yev r2 T.2 := by
  unfold ybi at h
  split at h
  · next p q hp1 hq1 =>
    have b1 := yrg_ok g.1 hp1
    have b2 := yrg_ok g.1 hq1
    split at h
    · next c =>
      cases h
      obtain ⟨r2, a1, a2, a3, a4, a5, a6⟩ := ysum_ok g w1 w2 (p := (p.1 + q.1, p.2 + q.2)) (by show p.1 + q.1 ≤ _ ∧ _ ≤ p.2 + q.2; omega)
      refine ⟨r2, a1, a2, a3, a4, a5, ?_⟩
      rw [a6, c.2.2.1]
      show (x + y).toInt = _
      rw [Int32.toInt_add, hx, hy]
      exact Int.bmod_eq_of_le_mul_two (by omega) (by omega)
    · split at h
      · next c =>
        cases h
        have n2 := ylneg_ok (r := r) w2
        obtain ⟨r2, a1, a2, a3, a4, a5, a6⟩ := ysum_ok g w1 n2.1 (p := (p.1 - q.2, p.2 - q.1)) (by rw [n2.2]; show p.1 - q.2 ≤ _ ∧ _ ≤ p.2 - q.1; omega)
        refine ⟨r2, a1, a2, a3, a4, a5, ?_⟩
        rw [a6, n2.2, c.2.2.1]
        show (x - y).toInt = _
        rw [Int32.toInt_sub, hx, hy]
        have := Int.bmod_eq_of_le_mul_two (x := yev r l1 - yev r l2) (y := 2 ^ 32) (by omega) (by omega)
        omega
      · cases h
        obtain ⟨r2, a1, a2, a3, a4, a5, a6⟩ := yput_ok g (yoI_ok (o := o) w1 w2 hx hy b1 b2)
        exact ⟨r2, a1, a2, congrArg (fun z => z.2) a3, a4, a5, a6.symm⟩
  · cases h
def ybl (S : yS) (o : Nat) (l1 l2 : yL) : Option (yS × yL) := match yrg S.2.1 l1, yrg S.2.1 l2 with
  | some p, some q => some (yput S (yoL o p q l1 l2))
  | _, _ => none
theorem ybl_ok (g : yG hp r S lv st) {o : Nat} {l1 l2 : yL} (w1 : yw S.1 l1) (w2 : yw S.1 l2) {x y : Int64} (hx : x.toInt = yev r l1) (hy : y.toInt = yev r l2) {T : yS × yL} (h : ybl S o l1 l2 = some T) :
    ∃ r2, yag S.1 r r2 ∧ S.1 ≤ T.1.1 ∧ T.1.2.2.2 = S.2.2.2 ∧ yG hp r2 T.1 lv st ∧ yw T.1.1 T.2 ∧ (yfL o x y).toInt = yev r2 T.2 := by
  unfold ybl at h
  split at h
  · next p q hp1 hq1 =>
    cases h
    obtain ⟨r2, a1, a2, a3, a4, a5, a6⟩ := yput_ok g (yoL_ok (o := o) w1 w2 hx hy (yrg_ok g.1 hp1) (yrg_ok g.1 hq1))
    exact ⟨r2, a1, a2, congrArg (fun z => z.2) a3, a4, a5, a6.symm⟩
  · cases h
/-- l1 is at most l2; none: that can't be -/
def yup (b : yB) (l : yL) (z : Int) : yB := if l.1 = 1 then (match ybd b l.2.1 with
  | some e => if z - l.2.2 < e.2 then (l.2.1, e.1, z - l.2.2) :: b else b
  | none => b) else b
def ydn (b : yB) (l : yL) (z : Int) : yB := if l.1 = 1 then (match ybd b l.2.1 with
  | some e => if e.1 < z - l.2.2 then (l.2.1, z - l.2.2, e.2) :: b else b
  | none => b) else b
theorem yup_ok {n : Nat} {b : yB} (g : yGe r n b) {l : yL} {z : Int} (h : yev r l ≤ z) : yGe r n (yup b l z) := by
  unfold yup
  split
  · next h1 =>
    split
    · next e he =>
      split
      · intro q hq
        have m := g _ (ybd_mem he)
        rcases List.mem_cons.mp hq with rfl | hq
        · refine ⟨m.1, m.2.1, ?_⟩
          show r l.2.1 ≤ z - l.2.2
          have : l.1 * r l.2.1 + l.2.2 ≤ z := h
          rw [h1] at this
          omega
        · exact g q hq
      · exact g
    · exact g
  · exact g
theorem ydn_ok {n : Nat} {b : yB} (g : yGe r n b) {l : yL} {z : Int} (h : z ≤ yev r l) : yGe r n (ydn b l z) := by
  unfold ydn
  split
  · next h1 =>
    split
    · next e he =>
      split
      · intro q hq
        have m := g _ (ybd_mem he)
        rcases List.mem_cons.mp hq with rfl | hq
        · refine ⟨m.1, ?_, m.2.2⟩
          show z - l.2.2 ≤ r l.2.1
          have : z ≤ l.1 * r l.2.1 + l.2.2 := h
          rw [h1] at this
          omega
        · exact g q hq
      · exact g
    · exact g
  · exact g
def yle (S : yS) (l1 l2 : yL) (fact : Bool) : Option yS := match yrg S.2.1 l1, yrg S.2.1 l2 with
  | some p, some q => if q.2 < p.1 then none else some (S.1, ydn (yup S.2.1 l1 q.2) l2 p.1, (if fact && !(l1.1 == 0) && !(l2.1 == 0) && !(l1.2.1 == l2.2.1) && decide (q.1 < p.2) then yadd (-1) (yxl l1) (yxl l2) :: S.2.2.1 else S.2.2.1), S.2.2.2)
  | _, _ => some S
theorem yle_ok (g : yG hp r S lv st) {l1 l2 : yL} (w1 : yw S.1 l1) (w2 : yw S.1 l2) (fact : Bool) (h : yev r l1 ≤ yev r l2) : ∃ T, yle S l1 l2 fact = some T ∧ T.1 = S.1 ∧ T.2.2.2 = S.2.2.2 ∧ yG hp r T lv st := by
  unfold yle
  split
  · next p q hp1 hq1 =>
    have b1 := yrg_ok g.1 hp1
    have b2 := yrg_ok g.1 hq1
    rw [if_neg (by omega)]
    refine ⟨_, rfl, rfl, rfl, ydn_ok (yup_ok g.1 (by omega)) (by omega), ?_, g.2.2⟩
    split
    · intro x hx
      rcases List.mem_cons.mp hx with rfl | hx
      · refine ⟨yaddl_w (yxl_w w1) (yxl_w w2), ?_⟩
        rw [yadd_ok, yxl_ok, yxl_ok]
        omega
      · exact g.2.1 x hx
    · exact g.2.1
  · exact ⟨S, rfl, rfl, rfl, g⟩
def yp1 (l : yL) : yL := (l.1, l.2.1, l.2.2 + 1)
theorem yp1_ev (l : yL) : yev r (yp1 l) = yev r l + 1 := by
  show l.1 * r l.2.1 + (l.2.2 + 1) = l.1 * r l.2.1 + l.2.2 + 1
  omega
/-- l1 is not l2 -/
def yne (S : yS) (l1 l2 : yL) : Option yS := match yrg S.2.1 l1, yrg S.2.1 l2 with
  | some p, some q => if (p.1 = p.2 ∧ q.1 = q.2 ∧ p.1 = q.1) ∨ l1 = l2 then none else
    if q.1 = q.2 ∧ p.1 = q.1 then some (S.1, ydn S.2.1 l1 (p.1 + 1), S.2.2) else
    if q.1 = q.2 ∧ p.2 = q.1 then some (S.1, yup S.2.1 l1 (p.2 - 1), S.2.2) else
    if p.1 = p.2 ∧ q.1 = p.1 then some (S.1, ydn S.2.1 l2 (q.1 + 1), S.2.2) else
    if p.1 = p.2 ∧ q.2 = p.1 then some (S.1, yup S.2.1 l2 (q.2 - 1), S.2.2) else some S
  | _, _ => some S
theorem yne_ok (g : yG hp r S lv st) {l1 l2 : yL} (h : yev r l1 ≠ yev r l2) : ∃ T, yne S l1 l2 = some T ∧ T.1 = S.1 ∧ T.2.2.2 = S.2.2.2 ∧ yG hp r T lv st := by
  unfold yne
  split
  · next p q hp1 hq1 =>
    have b1 := yrg_ok g.1 hp1
    have b2 := yrg_ok g.1 hq1
    rw [if_neg (fun z => by
      rcases z with z | z
      · omega
      · exact h (by rw [z]))]
    split
    · exact ⟨_, rfl, rfl, rfl, ydn_ok g.1 (by omega), g.2⟩
    split
    · exact ⟨_, rfl, rfl, rfl, yup_ok g.1 (by omega), g.2⟩
    split
    · exact ⟨_, rfl, rfl, rfl, ydn_ok g.1 (by omega), g.2⟩
    split
    · exact ⟨_, rfl, rfl, rfl, yup_ok g.1 (by omega), g.2⟩
    · exact ⟨S, rfl, rfl, rfl, g⟩
  · exact ⟨S, rfl, rfl, rfl, g⟩
def yref (c : _root_.Jvm.ClassFile.Cond) (S : yS) (l1 l2 : yL) : Option yS := match c with
  | .le => yle S l1 l2 true
  | .lt => yle S (yp1 l1) l2 true
  | .ge => yle S l2 l1 true
  | .gt => yle S (yp1 l2) l1 true
  | .eq => match yle S l1 l2 false with
    | some T => yle T l2 l1 false
    | none => none
  | .ne => yne S l1 l2
def yhl (c : _root_.Jvm.ClassFile.Cond) (x y : Int) : Prop := match c with
  | .le => x ≤ y
  | .lt => x < y
  | .ge => y ≤ x
  | .gt => y < x
  | .eq => x = y
  | .ne => x ≠ y
theorem yref_ok (g : yG hp r S lv st) {c : _root_.Jvm.ClassFile.Cond} {l1 l2 : yL} (w1 : yw S.1 l1) (w2 : yw S.1 l2) (h : yhl c (yev r l1) (yev r l2)) : ∃ T, yref c S l1 l2 = some T ∧ T.1 = S.1 ∧ T.2.2.2 = S.2.2.2 ∧ yG hp r T lv st := by
  cases c with
  | le => exact yle_ok g w1 w2 true h
  | lt => exact yle_ok g (l1 := yp1 l1) w1 w2 true (by rw [yp1_ev]; have h : yev r l1 < yev r l2 := h; omega)
  | ge => exact yle_ok g w2 w1 true h
  | gt => exact yle_ok g (l1 := yp1 l2) w2 w1 true (by rw [yp1_ev]; have h : yev r l2 < yev r l1 := h; omega)
  | eq =>
    have h : yev r l1 = yev r l2 := h
    obtain ⟨T, e1, e2, e3, g2⟩ := yle_ok g w1 w2 false (by omega)
    obtain ⟨T2, f1, f2, f3, g3⟩ := yle_ok g2 (by rw [e2]; exact w2) (by rw [e2]; exact w1) false (by omega)
    refine ⟨T2, ?_, f2.trans e2, f3.trans e3, g3⟩
    show (match yle S l1 l2 false with
    | some T => yle T l2 l1 false
    | none => none) = some T2
    rw [e1]
    exact f1
  | ne => exact yne_ok g h
theorem yhl_cmp (c : _root_.Jvm.ClassFile.Cond) (x y : Int32) : zcmp c x y = true ↔ yhl c x.toInt y.toInt := by
  cases c with
  | eq => simp [zcmp, yhl, Int32.toInt_inj]
  | ne => simp [zcmp, yhl, Int32.toInt_inj]
  | lt => simp [zcmp, yhl, Int32.lt_iff_toInt_lt]
  | ge => simp [zcmp, yhl, Int32.le_iff_toInt_le]
  | gt => simp [zcmp, yhl, Int32.lt_iff_toInt_lt]
  | le => simp [zcmp, yhl, Int32.le_iff_toInt_le]
def ynot (c : _root_.Jvm.ClassFile.Cond) : _root_.Jvm.ClassFile.Cond := match c with
  | .le => .gt
  | .lt => .ge
  | .ge => .lt
  | .gt => .le
  | .eq => .ne
  | .ne => .eq
theorem yhl_not (c : _root_.Jvm.ClassFile.Cond) (x y : Int) : ¬ yhl c x y ↔ yhl (ynot c) x y := by
  cases c <;> simp only [yhl, ynot] <;> omega
end YREF
