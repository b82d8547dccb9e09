section
/-! Steps of the checker that write cells. -/
section YWR
variable {hp hp' : zHp} {r : Nat → Int} {S : yS} {lv : List (Nat × Value)} {st : List Value} {pc : Nat}
def aAlen (pc : Nat) (S : yS) : yO := match S.2.2.2.2.2 with
  | v :: s => match ycel S.2.1 v with
    | some q => if (ykI q.2 || ykB q.2) = true then (if q.2.1 = 1 then some [(pc + 1, yst S (yI (yc q.2.2.2.1) :: s))] else match ylk S.2.2.2.1 q.1 (yc (-1)) with
      | some w => if w.1 = 0 then some [(pc + 1, yst S (w :: s))] else none
      | none => some [(pc + 1, yst (yfrs S 0 (0, 400) true q.1 (yc (-1))).1 ((yfrs S 0 (0, 400) true q.1 (yc (-1))).2 :: s))]) else none
    | none => if v.1 = 2 then (match yrg S.2.1 v.2.1 with
      | some p => if p.1 = p.2 ∧ 1020 ≤ p.1 then (match ztb none (p.1.toNat - 1000) with
        | some t => if t.2.1 ≤ 3000 then some [(pc + 1, yst S (yI (yc t.2.1) :: s))] else none
        | none => none) else none
      | none => none) else none
  | _ => none
theorem aAlen_ok (g : yG hp r S lv st) (H : yH0 hp) {L : List (Nat × yS)} (h : aAlen pc S = some L) : yD hp r S.1 L (zAlen ztb none (pc, lv, st) hp) := by
  unfold aAlen at h
  split at h
  · next v s hs =>
    have g5 := g.2.2.2.2
    rw [hs] at g5
    obtain ⟨u, m, rfl, ⟨w, hv⟩, gm⟩ := ystk_cons g5
    split at h
    · next q hq =>
      split at h
      · next c =>
        rw [Bool.or_eq_true] at c
        obtain ⟨i, rfl, hi, ei, wq, hok, -, -⟩ := ycel_ok g.1 H w hv hq
        have hok := hok (yk_7 c)
        have row : ∃ (t n : Nat) (f : Nat → Int32), t < 6 ∧ hp.2 i = .inl (t, n, .inl f) ∧ n ≤ 3000 ∧ (q.2.1 = 1 → n = q.2.2.2.1) ∧ (¬ q.2.1 = 1 → n ≤ 400) := by
          rcases c with c | c
          · obtain ⟨n, f, e, h1, h2, h3, h4⟩ := ykI_c c hok
            refine ⟨0, n, f, by decide, e, h1, h2, fun z => ?_⟩
            unfold ykI at c
            simp only [Bool.or_eq_true, Bool.and_eq_true, beq_iff_eq, decide_eq_true_eq] at c
            rcases c with c | c
            · exact (z c.1.1).elim
            · unfold yokc at hok
              rw [c.1] at hok
              obtain ⟨n2, f2, e1, e2⟩ := hok
              rw [e] at e2
              cases e2
              exact e1
          · obtain ⟨t, n, f, ht, -, e, h1, h2, h3, h4⟩ := ykB_c c hok
            refine ⟨t, n, f, by omega, e, h1, h2, fun z => ?_⟩
            unfold ykB at c
            simp only [Bool.and_eq_true, beq_iff_eq] at c
            exact (z c.1.1).elim
        obtain ⟨t, n, f, ht, e, hn, hn1, hn2⟩ := row
        have ez : zAlen ztb none (pc, lv, .ref i :: m) hp = zn (pc + 1) lv (.int (Int32.ofNat n) :: m) hp := by
          unfold zAlen
          dsimp only
          rw [if_pos (show i < zSC from Nat.lt_of_lt_of_le hi H.2.1), if_pos hi, e]
          dsimp only
          rw [if_pos ht]
        have en : (Int32.ofNat n).toInt = (n : Int) := Int32.toInt_ofNat_of_lt (by omega)
        have er : yrd hp (yev r q.1).toNat (yev r (yc (-1))) = some (.int (Int32.ofNat n)) := by
          rw [show (yev r q.1).toNat = i by omega, yev_c]
          unfold yrd
          rw [e]
          dsimp only
          rw [if_pos (by decide)]
          exact if_pos hi
        rw [ez]
        split at h
        · next c1 =>
          cases h
          exact yD1 rfl (yag_refl _ _) (Nat.le_refl _) (yG_st g ⟨⟨ywI (ywc _ _), yvI (by rw [yev_c, en, hn1 c1])⟩, gm⟩)
        · next c1 =>
          split at h
          · next x hx =>
            split at h
            · cases h
              obtain ⟨⟨-, -, wx⟩, k1, k2, k3, k4⟩ := g.2.2.1 _ (ylk_mem hx)
              have k3 : yrd hp (yev r q.1).toNat (yev r (yc (-1))) = some k2 := k3
              rw [er] at k3
              cases k3
              exact yD1 rfl (yag_refl _ _) (Nat.le_refl _) (yG_st g ⟨⟨wx, k4⟩, gm⟩)
            · cases h
          · cases h
            have := hn2 c1
            obtain ⟨r2, a1, a2, a3, a4, a5, a6⟩ := yfrs_ok g (tag := 0) (q := (0, 400)) (keep := true) (cl := q.1) (il := yc (-1)) (z := (Int32.ofNat n).toInt) (w := .int (Int32.ofNat n)) (by rw [en]; show 0 ≤ (n : Int) ∧ (n : Int) ≤ 400; omega) (fun r2 l e => yvI e.symm) wq (ywc _ _) (fun _ => ⟨by omega, er⟩)
            exact yD1 rfl a1 a2 (yG_st a4 ⟨⟨a5, a6⟩, ystk_ag a2 a1 gm⟩)
      · cases h
    · split at h
      · next h2 =>
        split at h
        · next p hp1 =>
          split at h
          · next c =>
            split at h
            · next t ht =>
              split at h
              · next c2 =>
                cases h
                have bb := yrg_ok g.1 hp1
                unfold yv at hv
                rw [h2] at hv
                rcases hv with ⟨hv, -⟩ | ⟨hv, rfl⟩
                · omega
                · have e : (yev r v.2.1).toNat = p.1.toNat := by omega
                  have ez : zAlen ztb none (pc, lv, .ref (yev r v.2.1).toNat :: m) hp = zn (pc + 1) lv (.int (Int32.ofNat t.2.1) :: m) hp := by
                    unfold zAlen
                    dsimp only
                    rw [if_neg (show ¬ (yev r v.2.1).toNat < zSC by show ¬ _ < 1000; omega), show (yev r v.2.1).toNat - zSC = p.1.toNat - 1000 by show _ - 1000 = _; omega, ht]
                  rw [ez]
                  exact yD1 rfl (yag_refl _ _) (Nat.le_refl _) (yG_st g ⟨⟨ywI (ywc _ _), yvI (by rw [yev_c]; exact Int32.toInt_ofNat_of_lt (by omega))⟩, gm⟩)
              · cases h
            · cases h
          · cases h
        · cases h
      · cases h
  · cases h
/-- the cells change, the places that are kept don't -/
theorem yG_hp (g : yG hp r S lv st) (e : hp'.1 = hp.1) {tr : List yK} (h : ∀ t ∈ tr, t ∈ S.2.2.2.1 ∧ (0 ≤ yev r t.1 → yrd hp' (yev r t.1).toNat (yev r t.2.1) = yrd hp (yev r t.1).toNat (yev r t.2.1))) : yG hp' r (S.1, S.2.1, S.2.2.1, tr, S.2.2.2.2) lv st := by
  refine ⟨g.1, g.2.1, fun t ht => ?_, by show yGl hp'.1 _ _ _ _; rw [e]; exact g.2.2.2.1, by show ystk hp'.1 _ _ _ _; rw [e]; exact g.2.2.2.2⟩
  obtain ⟨h1, h2⟩ := h t ht
  obtain ⟨w, k1, k2, k3, k4⟩ := g.2.2.1 t h1
  exact ⟨w, k1, k2, by rw [h2 k1]; exact k3, by rw [e]; exact k4⟩
theorem ykill_ok (g : yG hp r S lv st) {cl il : yL} {i : Nat} {j : Int} (hi : (i : Int) = yev r cl) (hj : j = yev r il) (e : hp'.1 = hp.1) (h : ∀ a b, ¬ (a = i ∧ b = j) → yrd hp' a b = yrd hp a b) : yG hp' r (S.1, S.2.1, S.2.2.1, ykill S.2.1 cl il S.2.2.2.1, S.2.2.2.2) lv st := by
  refine yG_hp g e (fun t ht => ?_)
  unfold ykill at ht
  rw [List.mem_filter, Bool.or_eq_true] at ht
  refine ⟨ht.1, fun h0 => h _ _ (fun z => ?_)⟩
  rcases ht.2 with k | k
  · have := yap_ok g.1 k
    omega
  · have := yap_ok g.1 k
    omega
/-- a cell of ours is set, at one place -/
theorem yset_H (H : yH0 hp) {i : Nat} {c : zCl} (h : i < hp.1 → yokc hp.1 (yty i) c) : yH0 (hp.1, zup hp.2 i c) := by
  refine ⟨H.1, H.2.1, fun k hk => ?_⟩
  show yokc hp.1 (yty k) (zup hp.2 i c k)
  unfold zup
  split
  · next e =>
    subst e
    exact h hk
  · exact H.2.2 k hk
theorem yrd_ne {i k : Nat} {c : zCl} (h : ¬ k = i) (j : Int) : yrd (hp.1, zup hp.2 i c) k j = yrd hp k j := by
  unfold yrd
  have e : zup hp.2 i c k = hp.2 k := if_neg h
  show (match zup hp.2 i c k with | .inr (_, fs) => _ | .inl (_, n, x) => _) = _
  rw [e]
  rfl
theorem yrd_at {i : Nat} {c : zCl} : (hp.1, zup hp.2 i c).2 i = c := if_pos rfl
/-- where a write goes, the mask lets it -/
def ymok (M : yM) (lo hi : Int) (il : yL) : Bool := M.any (fun m => decide ((m.1 : Int) ≤ lo) && decide (hi ≤ (m.2.1 : Int)) && (m.2.2 == 1000 || (il.1 == 0 && decide ((m.2.2 : Int) = il.2.2))))
theorem ymok_ok {M : yM} {lo hi : Int} {il : yL} (h : ymok M lo hi il = true) {i : Nat} (h1 : lo ≤ (i : Int)) (h2 : (i : Int) ≤ hi) : yinM M i (yev r il) = true := by
  unfold ymok at h
  rw [List.any_eq_true] at h
  obtain ⟨m, hm, h⟩ := h
  unfold yinM
  rw [List.any_eq_true]
  refine ⟨m, hm, ?_⟩
  simp only [Bool.and_eq_true, Bool.or_eq_true, decide_eq_true_eq, beq_iff_eq] at h ⊢
  obtain ⟨⟨a1, a2⟩, a3⟩ := h
  refine ⟨⟨by omega, by omega⟩, ?_⟩
  rcases a3 with a3 | ⟨a3, a4⟩
  · exact Or.inl a3
  · rw [yev_0 a3]
    exact Or.inr a4
/-- where a write goes, nothing of this lies -/
def ynof (b : yB) (F : yM) (lo hi : Int) (il : yL) : Bool := F.all (fun m => decide (hi < (m.1 : Int)) || decide ((m.2.1 : Int) < lo) || (!(m.2.2 == 1000) && yap b il (yc m.2.2)))
theorem ynof_ok {n : Nat} {b : yB} (g : yGe r n b) {F : yM} {lo hi : Int} {il : yL} (h : ynof b F lo hi il = true) {i : Nat} (h1 : lo ≤ (i : Int)) (h2 : (i : Int) ≤ hi) : yinM F i (yev r il) = false := by
  cases e : yinM F i (yev r il) with
  | false => rfl
  | true =>
    exfalso
    unfold yinM at e
    rw [List.any_eq_true] at e
    obtain ⟨m, hm, e⟩ := e
    have k := List.all_eq_true.mp h m hm
    simp only [Bool.and_eq_true, Bool.or_eq_true, decide_eq_true_eq, beq_iff_eq, Bool.not_eq_true', beq_eq_false_iff_ne] at e k
    obtain ⟨⟨a1, a2⟩, a3⟩ := e
    rcases k with (k | k) | ⟨k1, k2⟩
    · omega
    · omega
    · have := yap_ok g k2
      rw [yev_c] at this
      rcases a3 with a3 | a3
      · exact k1 a3
      · exact this a3.symm
/-- one of the states holds behind the step, the cells are as they should be, nothing but M has changed -/
def yW (E : zHp → Prop) (M : yM) (hp : zHp) (r : Nat → Int) (n : Nat) (L : List (Nat × yS)) (o : zO) : Prop := ∃ (fr' : zFr) (hp' : zHp), o = some (.inl (fr', hp')) ∧ (yH0 hp' ∧ E hp') ∧ yF M hp hp' ∧ ∃ q ∈ L, q.1 = fr'.1 ∧ ∃ r2, yag n r r2 ∧ n ≤ q.2.1 ∧ yG hp' r2 q.2 fr'.2.1 fr'.2.2
theorem yW_D {E : zHp → Prop} {M : yM} {n : Nat} {L : List (Nat × yS)} {o : zO} (H : yH0 hp ∧ E hp) (h : yD hp r n L o) : yW E M hp r n L o := by
  obtain ⟨fr', h1, h2⟩ := h
  exact ⟨fr', hp, h1, H, yF_refl _ _, h2⟩
/-- what E says lies in F alone -/
def yEF (E : zHp → Prop) (F : yM) : Prop := ∀ a b : zHp, E a → b.1 = a.1 → (∀ i j, yinM F i j = true → yrd b i j = yrd a i j) → E b
theorem yF_set {M : yM} {i : Nat} {j0 : Int} (e : hp'.1 = hp.1) (h : ∀ a b, ¬ (a = i ∧ b = j0) → yrd hp' a b = yrd hp a b) (hm : yinM M i j0 = true) (h0 : 0 ≤ j0) : yF M hp hp' := by
  refine ⟨Nat.le_of_eq e.symm, fun _ => e, fun a b k => h a b (fun z => ?_)⟩
  obtain ⟨rfl, rfl⟩ := z
  rcases k with k | k
  · omega
  · rw [hm] at k
    cases k
theorem yE_set {E : zHp → Prop} {F : yM} (hE : yEF E F) {i : Nat} {j0 : Int} (e : hp'.1 = hp.1) (h : ∀ a b, ¬ (a = i ∧ b = j0) → yrd hp' a b = yrd hp a b) (hf : yinM F i j0 = false) (h1 : E hp) : E hp' := by
  refine hE hp hp' h1 e (fun a b k => h a b (fun z => ?_))
  obtain ⟨rfl, rfl⟩ := z
  rw [hf] at k
  cases k
def aPutf (M F : yM) (a b : Nat) (pc : Nat) (S : yS) : yO := match S.2.2.2.2.2 with
  | x :: v :: s => (match ycel S.2.1 v, yrg S.2.1 x.2.1 with
    | some q, some p => if v.1 = 2 ∧ q.2.1 = 0 ∧ q.2.2.1 = a ∧ q.1.1 = 0 then (match q.2.2.2.2.2[b]? with
      | some t => if x.1 = t.1 ∧ t.1 < 3 ∧ t.2.1 ≤ p.1 ∧ p.2 ≤ t.2.2 ∧ (t.1 = 2 → 0 ≤ t.2.1) ∧ (t.1 = 0 → zfit (ztyp a b) (.int 0) = true) ∧ (t.1 = 1 → zfit (ztyp a b) (.long 0) = true) ∧ (t.1 = 2 → zfit (ztyp a b) .null = true) ∧ ymok M q.1.2.2 q.1.2.2 (yc b) = true ∧ ynof S.2.1 F q.1.2.2 q.1.2.2 (yc b) = true then
          some [(pc + 3, (S.1, S.2.1, S.2.2.1, (q.1, yc b, x) :: ykill S.2.1 q.1 (yc b) S.2.2.2.1, S.2.2.2.2.1, s))] else none
      | none => none) else none
    | _, _ => none)
  | _ => none
theorem zfit_i {ty : FieldType} (x : Int32) (h : zfit ty (.int 0) = true) : zfit ty (.int x) = true := by cases ty <;> first | exact h | (cases h; done)
theorem zfit_l {ty : FieldType} (x : Int64) (h : zfit ty (.long 0) = true) : zfit ty (.long x) = true := by cases ty <;> first | exact h | (cases h; done)
theorem zfit_r {ty : FieldType} (x : Nat) (h : zfit ty .null = true) : zfit ty (.ref x) = true := by cases ty <;> first | exact h | rfl | (cases h; done)
theorem aPutf_ok {E : zHp → Prop} {M F : yM} (hE : yEF E F) (g : yG hp r S lv st) (H : yH0 hp ∧ E hp) {a b : Nat} {L : List (Nat × yS)} (h : aPutf M F a b pc S = some L) : yW E M hp r S.1 L (zPutf (ztyp a b) a b (pc, lv, st) hp) := by
  unfold aPutf at h
  split at h
  · next x v s hs =>
    have g5 := g.2.2.2.2
    rw [hs] at g5
    obtain ⟨u, m1, rfl, ⟨wu, hu⟩, g6⟩ := ystk_cons g5
    obtain ⟨v2, m, rfl, ⟨w2, hv2⟩, g7⟩ := ystk_cons g6
    split at h
    · next q p hq hp1 =>
      have bb := yrg_ok g.1 hp1
      split at h
      · next c =>
        obtain ⟨c1, c2, c3, c4⟩ := c
        split at h
        · next t ht =>
          split at h
          · next d =>
            obtain ⟨d1, d2, d3, d4, d5, d6, d7, d8, d9, d10⟩ := d
            cases h
            obtain ⟨i, rfl, hi, ei, wq, hok, hty, -⟩ := ycel_ok g.1 H.1 w2 hv2 hq
            obtain ⟨-, hty⟩ := hty c1
            have hc := hok (by rw [c2]; decide)
            unfold yokc at hc
            rw [c2] at hc
            obtain ⟨fs, hc1, hc2, hc3⟩ := hc
            rw [c3] at hc1
            have hb : b < fs.length := by
              rw [hc2]
              exact (List.getElem?_eq_some_iff.mp ht).1
            -- the new value fits
            have fit : zfit (ztyp a b) u = true ∧ yft t u := by
              obtain ⟨t1, lo, hi2⟩ := t
              have d1 : x.1 = t1 := d1
              have d3 : lo ≤ p.1 := d3
              have d4 : p.2 ≤ hi2 := d4
              match t1, d2 with
              | 0, _ =>
                obtain ⟨y, rfl, hy⟩ := yvI' d1 hu
                exact ⟨zfit_i y (d6 rfl), y, rfl, by show lo ≤ _; omega, by show _ ≤ hi2; omega⟩
              | 1, _ =>
                obtain ⟨y, rfl, hy⟩ := yvL' d1 hu
                exact ⟨zfit_l y (d7 rfl), y, rfl, by show lo ≤ _; omega, by show _ ≤ hi2; omega⟩
              | 2, _ =>
                have d5 : 0 ≤ lo := d5 rfl
                unfold yv at hu
                rw [d1] at hu
                rcases hu with ⟨hu, -⟩ | ⟨hu, rfl⟩
                · omega
                · exact ⟨zfit_r _ (d8 rfl), _, rfl, by show lo ≤ _; omega, by show _ ≤ hi2; omega⟩
            have e1 : q.1.2.2 = (i : Int) := by rw [ei, yev_0 c4]
            have ez : zPutf (ztyp a b) a b (pc, lv, u :: .ref i :: m) hp = zn (pc + 3) lv m (hp.1, zup hp.2 i (.inr (a, fs.set b u))) := by
              unfold zPutf
              dsimp only
              rw [if_pos (show i < hp.1 ∧ i < zSC ∧ zfit (ztyp a b) u = true from ⟨hi, Nat.lt_of_lt_of_le hi H.1.2.1, fit.1⟩), hc1]
              dsimp only
              rw [if_pos ⟨rfl, hb⟩]
            have nr : ∀ k l, ¬ (k = i ∧ l = (b : Int)) → yrd (hp.1, zup hp.2 i (.inr (a, fs.set b u))) k l = yrd hp k l := by
              intro k l hkl
              by_cases e : k = i
              · subst e
                unfold yrd
                rw [yrd_at, hc1]
                dsimp only
                split
                · rfl
                · rw [List.getElem?_set]
                  rw [if_neg (fun z => hkl ⟨rfl, by omega⟩)]
              · exact yrd_ne e l
            have mk := ymok_ok (r := r) d9 (i := i) (by omega) (by omega)
            have nf := ynof_ok g.1 d10 (i := i) (by omega) (by omega)
            rw [yev_c] at mk nf
            refine ⟨(pc + 3, lv, m), _, ez, ⟨yset_H H.1 (fun _ => ?_), yE_set (hp := hp) hE rfl nr nf H.2⟩, yF_set rfl nr mk (by omega), _, List.mem_cons_self, rfl, r, yag_refl _ _, Nat.le_refl _, ?_⟩
            · rw [← hty]
              unfold yokc
              rw [c2]
              refine ⟨fs.set b u, by rw [c3], by rw [List.length_set]; exact hc2, fun j t2 ht2 => ?_⟩
              rw [List.getElem?_set]
              by_cases ej : b = j
              · subst ej
                rw [if_pos rfl, if_pos hb]
                rw [ht] at ht2
                cases ht2
                exact ⟨u, rfl, fit.2⟩
              · rw [if_neg ej]
                exact hc3 j t2 ht2
            · have g8 := ykill_ok (S := S) (hp' := (hp.1, zup hp.2 i (.inr (a, fs.set b u)))) g ei (il := yc b) (j := (b : Int)) (yev_c r _).symm rfl nr
              have g9 := yG_tr (t := (q.1, yc b, x)) g8 ⟨wq, Or.inl rfl, wu⟩ (by
                refine ⟨by show 0 ≤ yev r q.1; omega, u, ?_, hu⟩
                show yrd _ (yev r q.1).toNat (yev r (yc b)) = some u
                rw [show (yev r q.1).toNat = i by omega, yev_c]
                unfold yrd
                rw [yrd_at]
                dsimp only
                rw [if_neg (by omega), Int.toNat_natCast, List.getElem?_set, if_pos rfl, if_pos hb])
              exact yG_st g9 g7
          · cases h
        · cases h
      · cases h
    · cases h
  · cases h
/-- the bounds of a new element fit at all places that the form can name -/
def yew (ec : Nat) (a c lo hi : Int) : Nat → Int → Bool
  | 0, s => decide ((yel ec (a * s + c).toNat).1 ≤ lo) && decide (hi ≤ (yel ec (a * s + c).toNat).2)
  | n + 1, s => (decide ((yel ec (a * s + c).toNat).1 ≤ lo) && decide (hi ≤ (yel ec (a * s + c).toNat).2)) && yew ec a c lo hi n (s + 1)
theorem yew_ok {ec : Nat} {a c lo hi : Int} : ∀ {n : Nat} {s x : Int}, yew ec a c lo hi n s = true → s ≤ x → x ≤ s + (n : Int) → (yel ec (a * x + c).toNat).1 ≤ lo ∧ hi ≤ (yel ec (a * x + c).toNat).2
  | 0, s, x, h, h1, h2 => by
    have e : x = s := by omega
    subst e
    unfold yew at h
    simpa using h
  | n + 1, s, x, h, h1, h2 => by
    unfold yew at h
    rw [Bool.and_eq_true] at h
    by_cases e : x = s
    · subst e
      simpa using h.1
    · exact yew_ok h.2 (by omega) (by omega)
def yelw (b : yB) (ec : Nat) (il : yL) (lo hi : Int) : Bool := if yed ec = false then decide ((yel ec 0).1 ≤ lo) && decide (hi ≤ (yel ec 0).2) else if il.1 = 0 then decide ((yel ec il.2.2.toNat).1 ≤ lo) && decide (hi ≤ (yel ec il.2.2.toNat).2) else match ybd b il.2.1 with
  | some e => decide (e.2 - e.1 ≤ 400) && yew ec il.1 il.2.2 lo hi (e.2 - e.1).toNat e.1
  | none => false
theorem yelw_ok {n : Nat} {b : yB} (g : yGe r n b) {ec : Nat} {il : yL} {lo hi : Int} (h : yelw b ec il lo hi = true) : (yel ec (yev r il).toNat).1 ≤ lo ∧ hi ≤ (yel ec (yev r il).toNat).2 := by
  unfold yelw at h
  split at h
  · next e =>
    rw [yel_same e]
    simpa using h
  · split at h
    · next e =>
      rw [yev_0 e]
      simpa using h
    · split at h
      · next e he =>
        have hb := g _ (ybd_mem he)
        have b1 : e.1 ≤ r il.2.1 := hb.2.1
        have b2 : r il.2.1 ≤ e.2 := hb.2.2
        rw [Bool.and_eq_true] at h
        exact yew_ok (x := r il.2.1) h.2 b1 (by omega)
      · cases h
/-- what is put into a row of bytes or booleans -/
def ynar (S : yS) (t : Nat) (x : yV) : Option (yS × yL × Int × Int) := match yrg S.2.1 x.2.1 with
  | some p => if t = 0 then some (S, x.2.1, p.1, p.2) else
    if t = 1 then (if -128 ≤ p.1 ∧ p.2 ≤ 127 then some (S, x.2.1, p.1, p.2) else some ((yput S ((-128, 127), none)).1, (yput S ((-128, 127), none)).2, -128, 127)) else
    if 0 ≤ p.1 ∧ p.2 ≤ 1 then some (S, x.2.1, p.1, p.2) else some ((yput S ((0, 1), none)).1, (yput S ((0, 1), none)).2, 0, 1)
  | none => none
def ynv (t : Nat) (x : Int32) : Int32 := if t = 0 then x else if t = 1 then vp_nar .byte x else vp_nar .boolean x
theorem ynv_b (x : Int32) : (ynv 1 x).toInt = x.toInt.bmod 256 ∧ -128 ≤ (ynv 1 x).toInt ∧ (ynv 1 x).toInt ≤ 127 := by
  have e : (ynv 1 x).toInt = x.toInt8.toInt := by
    show (vp_nar .byte x).toInt = _
    rw [vp_nar_byte]
    exact Int8.toInt_toInt32 _
  have b1 : -128 ≤ x.toInt8.toInt := x.toInt8.le_toInt
  have b2 : x.toInt8.toInt < 128 := x.toInt8.toInt_lt
  exact ⟨by rw [e, Int32.toInt_toInt8], by omega, by omega⟩
theorem ynv_z (x : Int32) : 0 ≤ (ynv 2 x).toInt ∧ (ynv 2 x).toInt ≤ 1 := by
  have e : ynv 2 x = x &&& 1 := rfl
  rw [e]
  exact yand_r (x := x) (y := 1) (by decide)
theorem ynv_z2 {x : Int32} (h : 0 ≤ x.toInt) (h2 : x.toInt ≤ 1) : ynv 2 x = x := by
  have e : ynv 2 x = x &&& 1 := rfl
  rw [e]
  by_cases h0 : x.toInt = 0
  · rw [yofI h0]
    rfl
  · rw [yofI (show x.toInt = 1 by omega)]
    rfl
theorem ynar_ok (g : yG hp r S lv st) {t : Nat} (ht : t < 3) {x : yV} {y : Int32} (w : ywv S.1 x) (hy : y.toInt = yev r x.2.1) {q : yS × yL × Int × Int} (h : ynar S t x = some q) : ∃ r2, yag S.1 r r2 ∧ S.1 ≤ q.1.1 ∧ q.1.2.2.2 = S.2.2.2 ∧ yG hp r2 q.1 lv st ∧ yw q.1.1 q.2.1 ∧ (ynv t y).toInt = yev r2 q.2.1 ∧ q.2.2.1 ≤ (ynv t y).toInt ∧ (ynv t y).toInt ≤ q.2.2.2 := by
  unfold ynar at h
  split at h
  · next p hp1 =>
    have bb := yrg_ok g.1 hp1
    have same : ynv t y = y → ∃ r2, yag S.1 r r2 ∧ S.1 ≤ S.1 ∧ S.2.2.2 = S.2.2.2 ∧ yG hp r2 S lv st ∧ yw S.1 x.2.1 ∧ (ynv t y).toInt = yev r2 x.2.1 ∧ p.1 ≤ (ynv t y).toInt ∧ (ynv t y).toInt ≤ p.2 := by
      intro e
      rw [e]
      exact ⟨r, yag_refl _ _, Nat.le_refl _, rfl, g, w.1, hy, by omega, by omega⟩
    match t, ht with
    | 0, _ =>
      cases h
      exact same rfl
    | 1, _ =>
      have h : (if -128 ≤ p.1 ∧ p.2 ≤ 127 then some (S, x.2.1, p.1, p.2) else some ((yput S ((-128, 127), none)).1, (yput S ((-128, 127), none)).2, -128, 127)) = some q := h
      have nb := ynv_b y
      split at h
      · next c =>
        cases h
        refine same (Int32.toInt_inj.mp ?_)
        rw [nb.1]
        exact Int.bmod_eq_of_le_mul_two (by omega) (by omega)
      · cases h
        obtain ⟨r2, a1, a2, a3, a4, a5, a6⟩ := yput_ok g (t := ((-128, 127), none)) (z := (ynv 1 y).toInt) ⟨nb.2, fun l hl => by cases hl⟩
        exact ⟨r2, a1, a2, congrArg (fun z => z.2) a3, a4, a5, a6.symm, nb.2⟩
    | 2, _ =>
      have h : (if 0 ≤ p.1 ∧ p.2 ≤ 1 then some (S, x.2.1, p.1, p.2) else some ((yput S ((0, 1), none)).1, (yput S ((0, 1), none)).2, 0, 1)) = some q := h
      have nb := ynv_z y
      split at h
      · next c =>
        cases h
        exact same (ynv_z2 (by omega) (by omega))
      · cases h
        obtain ⟨r2, a1, a2, a3, a4, a5, a6⟩ := yput_ok g (t := ((0, 1), none)) (z := (ynv 2 y).toInt) ⟨nb, fun l hl => by cases hl⟩
        exact ⟨r2, a1, a2, congrArg (fun z => z.2) a3, a4, a5, a6.symm, nb⟩
  · cases h
def ykW (b : Bool) (c : yC) : Bool := c.1 == 1 && (if b then c.2.1 == 1 || c.2.1 == 2 else c.2.1 == 0) && decide (c.2.2.1 ≤ 3000)
theorem ykW_c {b : Bool} {c : yC} {i : Nat} (hk : ykW b c = true) (hok : c.1 ≠ 7 → yokc hp.1 c (hp.2 i)) : ∃ f : Nat → Int32, c.1 = 1 ∧ c.2.1 < 3 ∧ (b = true → c.2.1 = 1 ∨ c.2.1 = 2) ∧ (b = false → c.2.1 = 0) ∧ c.2.2.1 ≤ 3000 ∧ hp.2 i = .inl (c.2.1, c.2.2.1, .inl f) ∧ ∀ j, j < c.2.2.1 → (yel c.2.2.2.1 j).1 ≤ (f j).toInt ∧ (f j).toInt ≤ (yel c.2.2.2.1 j).2 := by
  obtain ⟨c1, c2, c3, c4, c5⟩ := c
  unfold ykW at hk
  simp only [Bool.and_eq_true, beq_iff_eq, decide_eq_true_eq] at hk
  obtain ⟨⟨rfl, h2⟩, h3⟩ := hk
  have hok := hok (show (1 : Nat) ≠ 7 by decide)
  have cases3 : c2 = 0 ∨ c2 = 1 ∨ c2 = 2 := by
    cases b
    · exact Or.inl (by simpa using h2)
    · right; simpa using h2
  rcases cases3 with rfl | rfl | rfl
  · obtain ⟨-, f, e, hf⟩ : (0 < 3 ∧ ∃ f : Nat → Int32, hp.2 i = .inl (0, c3, .inl f) ∧ ∀ j, j < c3 → (yel c4 j).1 ≤ (f j).toInt ∧ (f j).toInt ≤ (yel c4 j).2) := hok
    exact ⟨f, rfl, (show (0 : Nat) < 3 by decide), (fun hb => by subst hb; simp at h2), fun _ => rfl, h3, e, hf⟩
  · obtain ⟨-, f, e, hf⟩ : (1 < 3 ∧ ∃ f : Nat → Int32, hp.2 i = .inl (1, c3, .inl f) ∧ ∀ j, j < c3 → (yel c4 j).1 ≤ (f j).toInt ∧ (f j).toInt ≤ (yel c4 j).2) := hok
    exact ⟨f, rfl, (show (1 : Nat) < 3 by decide), fun _ => Or.inl rfl, (fun hb => by subst hb; simp at h2), h3, e, hf⟩
  · obtain ⟨-, f, e, hf⟩ : (2 < 3 ∧ ∃ f : Nat → Int32, hp.2 i = .inl (2, c3, .inl f) ∧ ∀ j, j < c3 → (yel c4 j).1 ≤ (f j).toInt ∧ (f j).toInt ≤ (yel c4 j).2) := hok
    exact ⟨f, rfl, (show (2 : Nat) < 3 by decide), fun _ => Or.inr rfl, (fun hb => by subst hb; simp at h2), h3, e, hf⟩
def aIst (b : Bool) (M F : yM) (pc : Nat) (S : yS) : yO := match S.2.2.2.2.2 with
  | x :: j :: v :: s => if x.1 = 0 ∧ j.1 = 0 ∧ v.1 = 2 then (match ycel S.2.1 v, yrg S.2.1 v.2.1 with
    | some q, some p => if ykW b q.2 = true ∧ ybnd S q.1 (ynm S.2.1 j.2.1) q.2 = true ∧ ymok M p.1 p.2 (ynm S.2.1 j.2.1) = true ∧ ynof S.2.1 F p.1 p.2 (ynm S.2.1 j.2.1) = true then (match ynar S q.2.2.1 x with
      | some z => if yelw S.2.1 q.2.2.2.2.1 (ynm S.2.1 j.2.1) z.2.2.1 z.2.2.2 = true then
          some [(pc + 1, (z.1.1, z.1.2.1, z.1.2.2.1, (if q.1.1 = 0 then [(q.1, ynm S.2.1 j.2.1, yI z.2.1)] else []) ++ ykill z.1.2.1 q.1 (ynm S.2.1 j.2.1) S.2.2.2.1, S.2.2.2.2.1, s))] else none
      | none => none) else none
    | _, _ => none) else none
  | _ => none
theorem aIst_ok {E : zHp → Prop} {M F : yM} (hE : yEF E F) (g : yG hp r S lv st) (H : yH0 hp ∧ E hp) {b : Bool} {L : List (Nat × yS)} (h : aIst b M F pc S = some L) : yW E M hp r S.1 L (if b = true then zBast (pc, lv, st) hp else zIast (pc, lv, st) hp) := by
  unfold aIst at h
  split at h
  · next x j v s hs =>
    have g5 := g.2.2.2.2
    rw [hs] at g5
    obtain ⟨u1, m1, rfl, ⟨w1, hu1⟩, g6⟩ := ystk_cons g5
    obtain ⟨u2, m2, rfl, ⟨w2, hu2⟩, g7⟩ := ystk_cons g6
    obtain ⟨u3, m, rfl, ⟨w3, hu3⟩, g8⟩ := ystk_cons g7
    split at h
    · next k =>
      obtain ⟨y, rfl, hy⟩ := yvI' k.1 hu1
      obtain ⟨jx, rfl, hj⟩ := yvI' k.2.1 hu2
      split at h
      · next q p hq hp1 =>
        split at h
        · next d =>
          obtain ⟨d1, d2, d3, d4⟩ := d
          split at h
          · next z hz =>
            split at h
            · next d5 =>
              cases h
              obtain ⟨i, rfl, hi, ei, wq, hok, hty, -⟩ := ycel_ok g.1 H.1 w3 hu3 hq
              obtain ⟨hi88, hty⟩ := hty k.2.2
              obtain ⟨f, k1, k2, k3, k4, k5, hc, hf⟩ := ykW_c d1 hok
              have nm := ynm_ok g.1 w2.1
              have bd := ybnd_ok g d2 ei hc (fun _ => rfl) k5
              obtain ⟨i1, i2⟩ := yix (hj.trans nm.1.symm) bd
              obtain ⟨r2, a1, a2, a3, a4, a5, a6, a7, a8⟩ := ynar_ok g k2 w1 hy hz
              have ev := yelw_ok g.1 d5
              have er : (i : Int) = yev r v.2.1 := by
                unfold yv at hu3
                rw [k.2.2] at hu3
                rcases hu3 with ⟨-, hu3⟩ | ⟨hu3, hu4⟩
                · cases hu3
                · cases hu4
                  show (((yev r v.2.1).toNat : Nat) : Int) = _
                  omega
              have bp := yrg_ok g.1 hp1
              generalize hjn : (yev r (ynm S.2.1 j.2.1)).toNat = jn at *
              have ez : (if b = true then zBast (pc, lv, .int y :: .int jx :: .ref i :: m) hp else zIast (pc, lv, .int y :: .int jx :: .ref i :: m) hp) = zn (pc + 1) lv m (hp.1, zup hp.2 i (.inl (q.2.2.1, q.2.2.2.1, .inl (upd f jn (ynv q.2.2.1 y))))) := by
                have hlt : i < hp.1 ∧ i < zSC := ⟨hi, Nat.lt_of_lt_of_le hi H.1.2.1⟩
                cases b with
                | false =>
                  rw [if_neg (by decide)]
                  unfold zIast
                  dsimp only
                  rw [if_pos hlt, hc, k4 rfl, ← i2]
                  show (if ¬ (jx < 0 ∨ q.2.2.2.1 ≤ jx.toNatClampNeg) then zn (pc + 1) lv m (hp.1, zup hp.2 i (.inl (0, q.2.2.2.1, .inl (upd f jx.toNatClampNeg y)))) else none) = _
                  rw [if_pos i1]
                  rfl
                | true =>
                  rw [if_pos rfl]
                  unfold zBast
                  dsimp only
                  rw [if_pos hlt, hc, ← i2]
                  rcases k3 rfl with e | e
                  · rw [e]
                    show (if ¬ (jx < 0 ∨ q.2.2.2.1 ≤ jx.toNatClampNeg) then zn (pc + 1) lv m (hp.1, zup hp.2 i (.inl (1, q.2.2.2.1, .inl (upd f jx.toNatClampNeg (vp_nar .byte y))))) else none) = _
                    rw [if_pos i1]
                    rfl
                  · rw [e]
                    show (if ¬ (jx < 0 ∨ q.2.2.2.1 ≤ jx.toNatClampNeg) then zn (pc + 1) lv m (hp.1, zup hp.2 i (.inl (2, q.2.2.2.1, .inl (upd f jx.toNatClampNeg (vp_nar .boolean y))))) else none) = _
                    rw [if_pos i1]
                    rfl
              have ejn : yev r (ynm S.2.1 j.2.1) = (jn : Int) := by omega
              have nr : ∀ c l, ¬ (c = i ∧ l = (jn : Int)) → yrd (hp.1, zup hp.2 i (.inl (q.2.2.1, q.2.2.2.1, .inl (upd f jn (ynv q.2.2.1 y))))) c l = yrd hp c l := by
                intro c l hcl
                by_cases e : c = i
                · subst e
                  unfold yrd
                  rw [yrd_at, hc]
                  dsimp only
                  split
                  · rfl
                  · show some (Value.int (upd f jn _ l.toNat)) = some (Value.int (f l.toNat))
                    unfold upd
                    rw [if_neg (fun z => hcl ⟨rfl, by omega⟩)]
                · exact yrd_ne e l
              have mk := ymok_ok (r := r) d3 (i := i) (by omega) (by omega)
              have nf := ynof_ok g.1 d4 (i := i) (by omega) (by omega)
              rw [ejn] at mk nf
              refine ⟨(pc + 1, lv, m), _, ez, ⟨yset_H H.1 (fun _ => ?_), yE_set (hp := hp) hE rfl nr nf H.2⟩, yF_set rfl nr mk (by omega), _, List.mem_cons_self, rfl, r2, a1, a2, ?_⟩
              · rw [← hty]
                have ty : ∀ l, l < q.2.2.2.1 → (yel q.2.2.2.2.1 l).1 ≤ (upd f jn (ynv q.2.2.1 y) l).toInt ∧ (upd f jn (ynv q.2.2.1 y) l).toInt ≤ (yel q.2.2.2.2.1 l).2 := by
                  intro l hl
                  unfold upd
                  split
                  · next e =>
                    subst e
                    omega
                  · exact hf l hl
                unfold yokc
                rw [k1]
                have c3 : q.2.2.1 = 0 ∨ q.2.2.1 = 1 ∨ q.2.2.1 = 2 := by omega
                rcases c3 with e | e | e
                · rw [e] at ty ⊢
                  exact ⟨by decide, _, rfl, ty⟩
                · rw [e] at ty ⊢
                  exact ⟨by decide, _, rfl, ty⟩
                · rw [e] at ty ⊢
                  exact ⟨by decide, _, rfl, ty⟩
              · have et : z.1.2.2.2.1 = S.2.2.2.1 := congrArg (fun t => t.1) a3
                have el : z.1.2.2.2.2 = S.2.2.2.2 := congrArg (fun t => t.2) a3
                have ea : yev r2 q.1 = yev r q.1 := yev_ag a1 wq
                have eb : yev r2 (ynm S.2.1 j.2.1) = yev r (ynm S.2.1 j.2.1) := yev_ag a1 nm.2
                have g9 := ykill_ok (S := z.1) (hp' := (hp.1, zup hp.2 i (.inl (q.2.2.1, q.2.2.2.1, .inl (upd f jn (ynv q.2.2.1 y)))))) a4 (cl := q.1) (i := i) (by rw [ea]; exact ei) (il := ynm S.2.1 j.2.1) (j := (jn : Int)) (by rw [eb, ejn]) rfl nr
                rw [et, el] at g9
                have g10 : ystk hp.1 r2 z.1.1 s m := ystk_ag a2 a1 g8
                by_cases ec : q.1.1 = 0
                · rw [if_pos ec]
                  have g11 := yG_tr (t := (q.1, ynm S.2.1 j.2.1, yI z.2.1)) g9 ⟨yw_le a2 wq, yw_le a2 nm.2, ywI a5⟩ (by
                    refine ⟨by show 0 ≤ yev r2 q.1; omega, .int (ynv q.2.2.1 y), ?_, yvI a6⟩
                    show yrd _ (yev r2 q.1).toNat (yev r2 (ynm S.2.1 j.2.1)) = some _
                    rw [show (yev r2 q.1).toNat = i by omega, eb, ejn]
                    unfold yrd
                    rw [yrd_at]
                    dsimp only
                    rw [if_neg (by omega)]
                    show some (Value.int (upd f jn _ (jn : Int).toNat)) = _
                    unfold upd
                    rw [if_pos (by omega)])
                  exact yG_st g11 g10
                · rw [if_neg ec]
                  exact yG_st g9 g10
            · cases h
          · cases h
        · cases h
      · cases h
    · cases h
  · cases h
end YWR
end
section
/-! Steps of the checker that write longs, and copy rows. -/
section YCP
variable {hp hp' : zHp} {r : Nat → Int} {S : yS} {lv : List (Nat × Value)} {st : List Value} {pc : Nat}
theorem yokc_L {h : Nat} {c : yC} {n : Nat} {f f2 : Nat → Int64} (k : yokc h c (.inl (3, n, .inr (.inl f)))) : yokc h c (.inl (3, n, .inr (.inl f2))) := by
  obtain ⟨c1, c2, c3, c4, c5⟩ := c
  match c1, k with
  | 0, k =>
    obtain ⟨fs, e, -⟩ := k
    cases e
  | 1, k =>
    match c2, k with
    | 0, k =>
      obtain ⟨-, f3, e, -⟩ := k
      cases e
    | 1, k =>
      obtain ⟨-, f3, e, -⟩ := k
      cases e
    | 2, k =>
      obtain ⟨-, f3, e, -⟩ := k
      cases e
    | 3, k =>
      obtain ⟨f3, e⟩ := k
      cases e
      exact ⟨f2, rfl⟩
    | 4, k =>
      obtain ⟨f3, e, -⟩ := k
      cases e
    | 5, k =>
      obtain ⟨f3, e, -⟩ := k
      cases e
    | n2 + 6, k =>
      obtain ⟨f3, -⟩ := k
      have f3 : n2 + 6 < 3 := f3
      omega
  | n2 + 2, k =>
    obtain ⟨n3, f3, -, e⟩ := k
    cases e
def aLst (M F : yM) (pc : Nat) (S : yS) : yO := match S.2.2.2.2.2 with
  | x :: j :: v :: s => if x.1 = 1 ∧ j.1 = 0 then (match ycel S.2.1 v with
    | some q => (match yrg S.2.1 q.1 with
      | some p => if ykL q.2 = true ∧ ybnd S q.1 (ynm S.2.1 j.2.1) q.2 = true ∧ ymok M p.1 p.2 (ynm S.2.1 j.2.1) = true ∧ ynof S.2.1 F p.1 p.2 (ynm S.2.1 j.2.1) = true then some [(pc + 1, (S.1, S.2.1, S.2.2.1, ykill S.2.1 q.1 (ynm S.2.1 j.2.1) S.2.2.2.1, S.2.2.2.2.1, s))] else none
      | none => none)
    | none => none) else none
  | _ => none
theorem aLst_ok {E : zHp → Prop} {M F : yM} (hE : yEF E F) (g : yG hp r S lv st) (H : yH0 hp ∧ E hp) {L : List (Nat × yS)} (h : aLst M F pc S = some L) : yW E M hp r S.1 L (zLast (pc, lv, st) hp) := by
  unfold aLst at h
  split at h
  · next x j v s hs =>
    have g5 := g.2.2.2.2
    rw [hs] at g5
    obtain ⟨u1, m1, rfl, ⟨w1, hu1⟩, g6⟩ := ystk_cons g5
    obtain ⟨u2, m2, rfl, ⟨w2, hu2⟩, g7⟩ := ystk_cons g6
    obtain ⟨u3, m, rfl, ⟨w3, hu3⟩, g8⟩ := ystk_cons g7
    split at h
    · next k =>
      obtain ⟨y, rfl, hy⟩ := yvL' k.1 hu1
      obtain ⟨jx, rfl, hj⟩ := yvI' k.2 hu2
      split at h
      · next q hq =>
        split at h
        · next p hp1 =>
          split at h
          · next d =>
            obtain ⟨d1, d2, d3, d4⟩ := d
            cases h
            obtain ⟨i, rfl, hi, ei, wq, hok, -, -⟩ := ycel_ok g.1 H.1 w3 hu3 hq
            obtain ⟨f, hc, k5, -⟩ := ykL_c d1 hok
            have nm := ynm_ok g.1 w2.1
            have bd := ybnd_ok g d2 ei hc (fun _ => rfl) k5
            obtain ⟨i1, i2⟩ := yix (hj.trans nm.1.symm) bd
            have bp := yrg_ok g.1 hp1
            generalize hjn : (yev r (ynm S.2.1 j.2.1)).toNat = jn at *
            have ez : zLast (pc, lv, .long y :: .int jx :: .ref i :: m) hp = zn (pc + 1) lv m (hp.1, zup hp.2 i (.inl (3, q.2.2.2.1, .inr (.inl (vp_updL f jn y))))) := by
              unfold zLast
              dsimp only
              rw [if_pos (show i < hp.1 ∧ i < zSC from ⟨hi, Nat.lt_of_lt_of_le hi H.1.2.1⟩), hc, ← i2]
              show (if ¬ (jx < 0 ∨ q.2.2.2.1 ≤ jx.toNatClampNeg) then zn (pc + 1) lv m (hp.1, zup hp.2 i (.inl (3, q.2.2.2.1, .inr (.inl (vp_updL f jx.toNatClampNeg y))))) else none) = _
              rw [if_pos i1]
            have ejn : yev r (ynm S.2.1 j.2.1) = (jn : Int) := by omega
            have nr : ∀ c l, ¬ (c = i ∧ l = (jn : Int)) → yrd (hp.1, zup hp.2 i (.inl (3, q.2.2.2.1, .inr (.inl (vp_updL f jn y))))) c l = yrd hp c l := by
              intro c l hcl
              by_cases e : c = i
              · subst e
                unfold yrd
                rw [yrd_at, hc]
                dsimp only
                split
                · rfl
                · show some (Value.long (vp_updL f jn _ l.toNat)) = some (Value.long (f l.toNat))
                  unfold vp_updL
                  rw [if_neg (fun z => hcl ⟨rfl, by omega⟩)]
              · exact yrd_ne e l
            have mk := ymok_ok (r := r) d3 (i := i) (by omega) (by omega)
            have nf := ynof_ok g.1 d4 (i := i) (by omega) (by omega)
            rw [ejn] at mk nf
            refine ⟨(pc + 1, lv, m), _, ez, ⟨yset_H H.1 (fun hl => ?_), yE_set (hp := hp) hE rfl nr nf H.2⟩, yF_set rfl nr mk (by omega), _, List.mem_cons_self, rfl, r, yag_refl _ _, Nat.le_refl _, ?_⟩
            · have := H.1.2.2 i hl
              rw [hc] at this
              exact yokc_L this
            · have g9 := ykill_ok (S := S) (hp' := (hp.1, zup hp.2 i (.inl (3, q.2.2.2.1, .inr (.inl (vp_updL f jn y)))))) g (cl := q.1) (i := i) ei (il := ynm S.2.1 j.2.1) (j := (jn : Int)) ejn.symm rfl nr
              exact yG_st g9 g8
          · cases h
        · cases h
      · cases h
    · cases h
  · cases h
def yis0 (b : yB) (v : yV) : Bool := v.1 == 0 && (match yrg b v.2.1 with
  | some p => decide (p.1 = 0) && decide (p.2 = 0)
  | none => false)
theorem yis0_ok {h n : Nat} {b : yB} (g : yGe r n b) {v : yV} {w : Value} (hv : yv h r v w) (k : yis0 b v = true) : w = .int 0 := by
  unfold yis0 at k
  rw [Bool.and_eq_true] at k
  obtain ⟨x, rfl, hx⟩ := yvI' (by simpa using k.1) hv
  have k2 := k.2
  split at k2
  · next p hp1 =>
    have := yrg_ok g hp1
    simp only [Bool.and_eq_true, decide_eq_true_eq] at k2
    rw [yofI (show x.toInt = 0 by omega)]
    rfl
  · cases k2
def aCpy (M F : yM) (pc : Nat) (S : yS) : yO := match S.2.2.2.2.2 with
  | n :: dp :: d :: sp :: c :: s => if n.1 = 0 ∧ yis0 S.2.1 dp = true ∧ yis0 S.2.1 sp = true ∧ d.1 = 2 ∧ ysl s ≤ 8 then (match ycel S.2.1 c, ycel S.2.1 d, yrg S.2.1 n.2.1, yrg S.2.1 d.2.1 with
    | some qc, some qd, some p, some pd => if ykW false qc.2 = true ∧ ykW false qd.2 = true ∧ yap S.2.1 qc.1 qd.1 = true ∧ 0 ≤ p.1 ∧ p.2 ≤ (qc.2.2.2.1 : Int) ∧ p.2 ≤ (qd.2.2.2.1 : Int) ∧ (qd.2.2.2.2.1 = 0 ∨ qd.2.2.2.2.1 = qc.2.2.2.2.1) ∧ ymok M pd.1 pd.2 (1, 0, 0) = true ∧ F.all (fun m => decide (pd.2 < (m.1 : Int)) || decide ((m.2.1 : Int) < pd.1)) = true then
        some [(pc + 3, (S.1, S.2.1, S.2.2.1, S.2.2.2.1.filter (fun t => yap S.2.1 qd.1 t.1), S.2.2.2.2.1, s))] else none
    | _, _, _, _ => none) else none
  | _ => none
theorem aCpy_ok {E : zHp → Prop} {M F : yM} (hE : yEF E F) (g : yG hp r S lv st) (H : yH0 hp ∧ E hp) {L : List (Nat × yS)} (h : aCpy M F pc S = some L) : yW E M hp r S.1 L (zCpy (pc, lv, st) hp) := by
  unfold aCpy at h
  split at h
  · next n dp d sp c s hs =>
    have g5 := g.2.2.2.2
    rw [hs] at g5
    obtain ⟨u1, m1, rfl, ⟨w1, hu1⟩, g6⟩ := ystk_cons g5
    obtain ⟨u2, m2, rfl, ⟨w2, hu2⟩, g7⟩ := ystk_cons g6
    obtain ⟨u3, m3, rfl, ⟨w3, hu3⟩, g8⟩ := ystk_cons g7
    obtain ⟨u4, m4, rfl, ⟨w4, hu4⟩, g9⟩ := ystk_cons g8
    obtain ⟨u5, m, rfl, ⟨w5, hu5⟩, g10⟩ := ystk_cons g9
    split at h
    · next k =>
      obtain ⟨k1, k2, k3, k4, k5⟩ := k
      obtain ⟨x, rfl, hx⟩ := yvI' k1 hu1
      have e2 := yis0_ok g.1 hu2 k2
      have e4 := yis0_ok g.1 hu4 k3
      subst e2
      subst e4
      split at h
      · next qc qd p pd hc hd hp1 hpd =>
        split at h
        · next a =>
          obtain ⟨a1, a2, a3, a4, a5, a6, a7, a8, a9⟩ := a
          cases h
          obtain ⟨ic, rfl, hic, eic, wqc, okc, -, -⟩ := ycel_ok g.1 H.1 w5 hu5 hc
          obtain ⟨jd, rfl, hid, eid, wqd, okd, htd, -⟩ := ycel_ok g.1 H.1 w3 hu3 hd
          obtain ⟨-, htd⟩ := htd k4
          obtain ⟨f, b1, b2, b3, b4, b5, bc, bf⟩ := ykW_c a1 okc
          obtain ⟨f2, c1, c2, c3, c4, c5, cc, cf⟩ := ykW_c a2 okd
          have bp := yrg_ok g.1 hp1
          have bpd := yrg_ok g.1 hpd
          have ne := yap_ok g.1 a3
          have hne : ic ≠ jd := fun z => ne (by rw [← eic, ← eid, z])
          have er : (jd : Int) = yev r d.2.1 := by
            unfold yv at hu3
            rw [k4] at hu3
            rcases hu3 with ⟨-, hu3⟩ | ⟨hu3, hu4⟩
            · cases hu3
            · cases hu4
              show (((yev r d.2.1).toNat : Nat) : Int) = _
              omega
          have xn : x.toNatClampNeg = (yev r n.2.1).toNat := by rw [← hx]; rfl
          have ez : zCpy (pc, lv, .int x :: .int 0 :: .ref jd :: .int 0 :: .ref ic :: m) hp = zn (pc + 3) lv m (hp.1, zup hp.2 jd (.inl (0, qd.2.2.2.1, .inl (va_cpy f f2 0 0 x.toNatClampNeg)))) := by
            unfold zCpy
            dsimp only
            rw [if_pos (show ic < hp.1 ∧ ic < zSC ∧ jd < hp.1 ∧ jd < zSC ∧ ic ≠ jd ∧ ¬ (0 : Int32) < 0 ∧ ¬ (0 : Int32) < 0 ∧ ¬ x < 0 from ⟨hic, Nat.lt_of_lt_of_le hic H.1.2.1, hid, Nat.lt_of_lt_of_le hid H.1.2.1, hne, by decide, by decide, fun z => by
              have := Int32.lt_iff_toInt_lt.mp z
              have e0 : (0 : Int32).toInt = 0 := rfl
              omega⟩), bc, cc, b4 rfl, c4 rfl]
            show (if (0 : Int32).toNatClampNeg + x.toNatClampNeg ≤ qc.2.2.2.1 ∧ (0 : Int32).toNatClampNeg + x.toNatClampNeg ≤ qd.2.2.2.1 ∧ (m.map fun v => v.category).sum ≤ 8 then zn (pc + 3) lv m (hp.1, zup hp.2 jd (.inl (0, qd.2.2.2.1, .inl (va_cpy f f2 (0 : Int32).toNatClampNeg (0 : Int32).toNatClampNeg x.toNatClampNeg)))) else none) = _
            have z0 : (0 : Int32).toNatClampNeg = 0 := rfl
            rw [z0, if_pos ⟨by omega, by omega, by rw [ysl_ok g10]; exact k5⟩]
          have nr : ∀ a l, ¬ a = jd → yrd (hp.1, zup hp.2 jd (.inl (0, qd.2.2.2.1, .inl (va_cpy f f2 0 0 x.toNatClampNeg)))) a l = yrd hp a l := fun a l e => yrd_ne e l
          have mk : ∀ l : Int, yinM M jd l = true := fun l => by
            have := ymok_ok (r := fun _ => l) a8 (i := jd) (by omega) (by omega)
            rw [show yev (fun _ => l) (1, 0, 0) = l by show 1 * l + 0 = l; omega] at this
            exact this
          have nf : ∀ l : Int, yinM F jd l = false := fun l => by
            cases e : yinM F jd l with
            | false => rfl
            | true =>
              exfalso
              unfold yinM at e
              rw [List.any_eq_true] at e
              obtain ⟨m, hm, e⟩ := e
              have k := List.all_eq_true.mp a9 m hm
              simp only [Bool.and_eq_true, Bool.or_eq_true, decide_eq_true_eq] at e k
              omega
          have ln : ∀ l : Int, l < 0 → yrd (hp.1, zup hp.2 jd (.inl (0, qd.2.2.2.1, .inl (va_cpy f f2 0 0 x.toNatClampNeg)))) jd l = yrd hp jd l := by
            intro l hl
            unfold yrd
            rw [yrd_at, cc, c4 rfl]
            dsimp only
            rw [if_pos hl, if_pos hl]
          refine ⟨(pc + 3, lv, m), _, ez, ⟨yset_H H.1 (fun _ => ?_), ?_⟩, ⟨Nat.le_refl _, fun _ => rfl, fun a l q => ?_⟩, _, List.mem_cons_self, rfl, r, yag_refl _ _, Nat.le_refl _, ?_⟩
          · rw [← htd]
            unfold yokc
            rw [c1, c4 rfl]
            refine ⟨by decide, _, rfl, fun l hl => ?_⟩
            unfold va_cpy
            split
            · next e =>
              rcases a7 with a7 | a7
              · rw [a7]
                exact yany _
              · rw [a7]
                have := bf (0 + (l - 0)) (by omega)
                rw [show 0 + (l - 0) = l by omega] at this ⊢
                exact this
            · exact cf l hl
          · refine hE hp _ H.2 rfl (fun a l q => nr a l (fun z => ?_))
            subst z
            rw [nf l] at q
            cases q
          · by_cases e : a = jd
            · subst e
              rcases q with q | q
              · exact ln l q.1
              · rw [mk l] at q
                cases q
            · exact nr a l e
          · refine yG_st (yG_hp (S := S) (hp' := (hp.1, zup hp.2 jd (.inl (0, qd.2.2.2.1, .inl (va_cpy f f2 0 0 x.toNatClampNeg))))) g rfl (tr := S.2.2.2.1.filter (fun t => yap S.2.1 qd.1 t.1)) (fun t ht => ?_)) g10
            rw [List.mem_filter] at ht
            refine ⟨ht.1, fun h0 => nr _ _ (fun z => ?_)⟩
            have := yap_ok g.1 ht.2
            omega
        · cases h
      · cases h
    · cases h
  · cases h
end YCP
end
section
/-! Patterns: one state of the checker as a case of another. -/
abbrev yU : Type := List (Nat × yL)
def ylu : yU → Nat → yL
  | [], _ => yc 0
  | q :: l, s => if q.1 = s then q.2 else ylu l s
/-- symbols below p stay, the others are put in -/
def ysub (p : Nat) (u : yU) (l : yL) : yL := if l.1 = 0 then l else if l.2.1 < p then l else (l.1 * (ylu u l.2.1).1, (ylu u l.2.1).2.1, l.1 * (ylu u l.2.1).2.2 + l.2.2)
def yrs (p : Nat) (u : yU) (r : Nat → Int) : Nat → Int := fun s => if s < p then r s else yev r (ylu u s)
theorem ysub_ok (p : Nat) (u : yU) (r : Nat → Int) (l : yL) : yev r (ysub p u l) = yev (yrs p u r) l := by
  unfold ysub
  split
  · next h => rw [yev_0 h, yev_0 h]
  · split
    · next h =>
      show l.1 * r l.2.1 + l.2.2 = l.1 * yrs p u r l.2.1 + l.2.2
      unfold yrs
      rw [if_pos h]
    · next h =>
      show l.1 * (ylu u l.2.1).1 * r (ylu u l.2.1).2.1 + (l.1 * (ylu u l.2.1).2.2 + l.2.2) = l.1 * yrs p u r l.2.1 + l.2.2
      unfold yrs
      rw [if_neg h]
      show _ = l.1 * ((ylu u l.2.1).1 * r (ylu u l.2.1).2.1 + (ylu u l.2.1).2.2) + l.2.2
      rw [Int.mul_add, Int.mul_assoc]
      omega
theorem yrs_ag (p : Nat) (u : yU) (r : Nat → Int) : yag p r (yrs p u r) := fun s hs => if_pos hs
def ysubx (p : Nat) (u : yU) : List (Int × Nat) → Int → yX
  | [], c => ([], c)
  | q :: l, c => yadd q.1 (yxl (ysub p u (1, q.2, 0))) (ysubx p u l c)
theorem ysubx_ok (p : Nat) (u : yU) (r : Nat → Int) : ∀ (l : List (Int × Nat)) (c : Int), yex r (ysubx p u l c) = yxs (yrs p u r) l + c
  | [], c => rfl
  | q :: l, c => by
    unfold ysubx
    rw [yadd_ok, yxl_ok, ysub_ok, ysubx_ok p u r l c]
    show q.1 * (1 * yrs p u r q.2 + 0) + _ = q.1 * yrs p u r q.2 + yxs (yrs p u r) l + c
    rw [show 1 * yrs p u r q.2 + 0 = yrs p u r q.2 by omega]
    omega
/-- two forms have one value -/
def ysm (b : yB) (x y : yL) : Bool := yeq x y || (match yrg b x, yrg b y with
  | some p, some q => decide (p.1 = p.2) && decide (q.1 = q.2) && decide (p.1 = q.1)
  | _, _ => false)
theorem ysm_ok {r : Nat → Int} {n : Nat} {b : yB} (g : yGe r n b) {x y : yL} (h : ysm b x y = true) : yev r x = yev r y := by
  unfold ysm at h
  rw [Bool.or_eq_true] at h
  rcases h with h | h
  · rw [yeq_ok h]
  · split at h
    · next p q h1 h2 =>
      have a := yrg_ok g h1
      have c := yrg_ok g h2
      simp only [Bool.and_eq_true, decide_eq_true_eq] at h
      omega
    · cases h
/-- the value a (of the pattern) is the value v -/
def ysv (p : Nat) (u : yU) (b : yB) (a v : yV) : Bool := a.1 == v.1 && !(a.1 == 4) && ysm b (ysub p u a.2.1) v.2.1
theorem ysv_ok {p : Nat} {u : yU} {r : Nat → Int} {n h : Nat} {b : yB} (g : yGe r n b) {a v : yV} (k : ysv p u b a v = true) {w : Value} (hv : yv h r v w) : yv h (yrs p u r) a w := by
  unfold ysv at k
  simp only [Bool.and_eq_true, beq_iff_eq, Bool.not_eq_true', beq_eq_false_iff_ne] at k
  obtain ⟨⟨k1, k2⟩, k3⟩ := k
  have e := ysm_ok g k3
  rw [ysub_ok] at e
  obtain ⟨t, l, l2⟩ := a
  obtain ⟨t', m, m2⟩ := v
  have k1 : t = t' := k1
  subst k1
  have e : yev (yrs p u r) l = yev r m := e
  have k2 : ¬ t = 4 := k2
  unfold yv at hv ⊢
  dsimp only at hv ⊢
  split at hv
  · rw [e]; exact hv
  · rw [e]; exact hv
  · rw [e]; exact hv
  · rw [e]; exact hv
  · exact (k2 rfl).elim
  · rw [e]; exact hv
  · rw [e]; exact hv
  · exact hv
  · exact hv.elim
/-- forms with symbols below n -/
def ywb (n : Nat) (l : yL) : Bool := l.1 == 0 || decide (l.2.1 < n)
theorem ywb_ok {n : Nat} {l : yL} (h : ywb n l = true) : yw n l := by
  unfold ywb at h
  simp only [Bool.or_eq_true, beq_iff_eq, decide_eq_true_eq] at h
  exact h
def ywvb (n : Nat) (a : yV) : Bool := ywb n a.2.1 && ywb n a.2.2
theorem ywvb_ok {n : Nat} {a : yV} (h : ywvb n a = true) : ywv n a := by
  unfold ywvb at h
  rw [Bool.and_eq_true] at h
  exact ⟨ywb_ok h.1, ywb_ok h.2⟩
def ywf (P : yS) : Bool := P.2.1.all (fun e => decide (e.1 < P.1)) && (P.2.2.1.all (fun x => x.1.all (fun t => decide (t.2 < P.1))) && (P.2.2.2.1.all (fun t => ywb P.1 t.1 && (ywb P.1 t.2.1 && ywvb P.1 t.2.2)) && (P.2.2.2.2.1.all (fun q => ywvb P.1 q.2) && P.2.2.2.2.2.all (ywvb P.1))))
def ystm (p : Nat) (u : yU) (b : yB) : List yV → List yV → Bool
  | [], [] => true
  | a :: l, v :: m => ysv p u b a v && ystm p u b l m
  | _, _ => false
/-- the state A is a case of the pattern P -/
def ymt (p : Nat) (u : yU) (P A : yS) : Bool :=
  P.2.1.all (fun e => (match yrg A.2.1 (ysub p u (1, e.1, 0)) with
    | some q => decide (e.2.1 ≤ q.1) && decide (q.2 ≤ e.2.2)
    | none => false) || (yprv A.2.1 A.2.2.1 (yadd 1 (yxl (ysub p u (1, e.1, 0))) ([], -e.2.1)) && yprv A.2.1 A.2.2.1 (yadd (-1) (yxl (ysub p u (1, e.1, 0))) ([], e.2.2)))) &&
  (P.2.2.1.all (fun x => yprv A.2.1 A.2.2.1 (ysubx p u x.1 x.2)) &&
  (P.2.2.2.1.all (fun t => match ylk A.2.2.2.1 (ysub p u t.1) (ysub p u t.2.1) with
    | some v => ysv p u A.2.1 t.2.2 v
    | none => false) &&
  (P.2.2.2.2.1.all (fun q => match yld A.2.2.2.2.1 q.1 with
    | some v => ysv p u A.2.1 q.2 v
    | none => false) &&
  ystm p u A.2.1 P.2.2.2.2.2 A.2.2.2.2.2)))
theorem yld_mem : ∀ {l : List (Nat × yV)} {i : Nat} {a : yV}, yld l i = some a → (i, a) ∈ l
  | [], _, _, h => by cases h
  | q :: l, i, a, h => by
    unfold yld at h
    split at h
    · next e =>
      cases h
      cases e
      exact List.mem_cons_self
    · exact List.mem_cons_of_mem _ (yld_mem h)
section YMAT
variable {hp : zHp} {r : Nat → Int} {S : yS} {lv : List (Nat × Value)} {st : List Value}
theorem ystm_ok {p : Nat} {u : yU} {n n2 h : Nat} {b : yB} (g : yGe r n b) : ∀ {l m : List yV} {st : List Value}, ystm p u b l m = true → l.all (ywvb n2) = true → ystk h r n m st → ystk h (yrs p u r) n2 l st
  | [], [], [], _, _, _ => trivial
  | [], [], _ :: _, _, _, k => k.elim
  | [], _ :: _, _, e, _, _ => by cases e
  | _ :: _, [], _, e, _, _ => by cases e
  | a :: l, v :: m, [], _, _, k => k.elim
  | a :: l, v :: m, w :: st, e, e2, k => by
    unfold ystm at e
    rw [Bool.and_eq_true] at e
    rw [List.all_cons, Bool.and_eq_true] at e2
    exact ⟨⟨ywvb_ok e2.1, ysv_ok g e.1 k.1.2⟩, ystm_ok g e.2 e2.2 k.2⟩
theorem ymt_ok {p : Nat} {u : yU} {P A : yS} (g : yG hp r A lv st) (hw : ywf P = true) (h : ymt p u P A = true) : yG hp (yrs p u r) P lv st := by
  unfold ymt at h
  unfold ywf at hw
  simp only [Bool.and_eq_true] at h hw
  obtain ⟨h1, h2, h3, h4, h5⟩ := h
  obtain ⟨w1, w2, w3, w4, w5⟩ := hw
  refine ⟨fun e he => ?_, fun x hx => ?_, fun t ht => ?_, fun i a ha => ?_, ystm_ok g.1 h5 w5 g.2.2.2.2⟩
  · have k := List.all_eq_true.mp h1 e he
    refine ⟨of_decide_eq_true (List.all_eq_true.mp w1 e he), ?_⟩
    have es := ysub_ok p u r (1, e.1, 0)
    rw [show yev (yrs p u r) (1, e.1, 0) = yrs p u r e.1 by show 1 * yrs p u r e.1 + 0 = _; omega] at es
    rw [← es]
    rw [Bool.or_eq_true] at k
    rcases k with k | k
    · split at k
      · next q hq =>
        have := yrg_ok g.1 hq
        simp only [Bool.and_eq_true, decide_eq_true_eq] at k
        omega
      · cases k
    · rw [Bool.and_eq_true] at k
      have a := yprv_ok g.1 g.2.1 k.1
      have b := yprv_ok g.1 g.2.1 k.2
      rw [yadd_ok, yxl_ok] at a b
      have e1 : yex r (([] : List (Int × Nat)), -e.2.1) = -e.2.1 := by show 0 + _ = _; omega
      have e2 : yex r (([] : List (Int × Nat)), e.2.2) = e.2.2 := by show 0 + _ = _; omega
      rw [e1] at a
      rw [e2] at b
      omega
  · have k := List.all_eq_true.mp h2 x hx
    have kw := List.all_eq_true.mp w2 x hx
    refine ⟨fun t ht => of_decide_eq_true (List.all_eq_true.mp kw t ht), ?_⟩
    have := yprv_ok g.1 g.2.1 k
    rw [ysubx_ok] at this
    exact this
  · have k := List.all_eq_true.mp h3 t ht
    have kw := List.all_eq_true.mp w3 t ht
    simp only [Bool.and_eq_true] at kw
    refine ⟨⟨ywb_ok kw.1, ywb_ok kw.2.1, ywvb_ok kw.2.2⟩, ?_⟩
    split at k
    · next v hv =>
      obtain ⟨-, k1, k2, k3, k4⟩ := g.2.2.1 _ (ylk_mem hv)
      have k1 : 0 ≤ yev r (ysub p u t.1) := k1
      have k3 : yrd hp (yev r (ysub p u t.1)).toNat (yev r (ysub p u t.2.1)) = some k2 := k3
      rw [ysub_ok] at k1
      rw [ysub_ok, ysub_ok] at k3
      exact ⟨k1, k2, k3, ysv_ok g.1 k k4⟩
    · cases k
  · have m := yld_mem ha
    have k := List.all_eq_true.mp h4 _ m
    have kw := List.all_eq_true.mp w4 _ m
    dsimp only at k
    split at k
    · next v hv =>
      obtain ⟨w, x, hx, hxv⟩ := g.2.2.2.1 i v hv
      exact ⟨ywvb_ok kw, x, hx, ysv_ok g.1 k hxv⟩
    · cases k
/-- which symbol of the pattern is which form -/
def yb1 (p : Nat) (u : yU) (a v : yV) : yU := if a.2.1.1 = 1 ∧ a.2.1.2.2 = 0 ∧ p ≤ a.2.1.2.1 ∧ (u.any (fun q => q.1 == a.2.1.2.1)) = false then (a.2.1.2.1, v.2.1) :: u else u
def ybst (p : Nat) (u : yU) : List yV → List yV → yU
  | a :: l, v :: m => ybst p (yb1 p u a v) l m
  | _, _ => u
def ybn (p : Nat) (P A : yS) : yU :=
  let u1 := P.2.2.2.2.1.foldl (fun u q => match yld A.2.2.2.2.1 q.1 with
    | some v => yb1 p u q.2 v
    | none => u) []
  let u2 := ybst p u1 P.2.2.2.2.2 A.2.2.2.2.2
  P.2.2.2.1.foldl (fun u t => match ylk A.2.2.2.1 (ysub p u t.1) (ysub p u t.2.1) with
    | some v => yb1 p u t.2.2 v
    | none => u) u2
/-- the places that a pattern names are known, or get known by their kinds -/
def yplc (S : yS) (cl il : yL) : yS := if (ylk S.2.2.2.1 cl il).isSome = true then S else
  if cl.1 = 0 ∧ 0 ≤ cl.2.2 ∧ cl.2.2 < 88 ∧ il.1 = 0 ∧ 0 ≤ il.2.2 then (
    if (yty cl.2.2.toNat).1 = 0 then (match (yty cl.2.2.toNat).2.2.2.2[il.2.2.toNat]? with
      | some t => if t.1 < 3 then (yfrs S t.1 t.2 true cl il).1 else S
      | none => S) else
    if ykI (yty cl.2.2.toNat) = true ∧ (yty cl.2.2.toNat).1 = 1 ∧ il.2.2 < ((yty cl.2.2.toNat).2.2.1 : Int) then (yfrs S 0 (yelr S.2.1 (yty cl.2.2.toNat).2.2.2.1 il) true cl il).1 else S) else S
theorem yplc_ok (g : yG hp r S lv st) (H : yH0 hp) (cl il : yL) : ∃ r2, yag S.1 r r2 ∧ S.1 ≤ (yplc S cl il).1 ∧ (yplc S cl il).2.2.2.2 = S.2.2.2.2 ∧ yG hp r2 (yplc S cl il) lv st := by
  have same : ∃ r2, yag S.1 r r2 ∧ S.1 ≤ S.1 ∧ S.2.2.2.2 = S.2.2.2.2 ∧ yG hp r2 S lv st := ⟨r, yag_refl _ _, Nat.le_refl _, rfl, g⟩
  unfold yplc
  split
  · exact same
  · split
    · next c =>
      obtain ⟨c1, c2, c3, c4, c5⟩ := c
      have hi : cl.2.2.toNat < hp.1 := by have := H.1; omega
      have hok := H.2.2 _ hi
      have e1 : yev r cl = cl.2.2 := yev_0 c1
      have e2 : yev r il = il.2.2 := yev_0 c4
      split
      · next o =>
        unfold yokc at hok
        rw [o] at hok
        obtain ⟨fs, hc1, hc2, hc3⟩ := hok
        split
        · next t ht =>
          split
          · next ct =>
            obtain ⟨x, x1, x2⟩ := hc3 _ t ht
            obtain ⟨z, z1, z2⟩ := yft_v (h := hp.1) ct x2
            obtain ⟨r2, a1, a2, a3, a4, -, -⟩ := yfrs_ok g (tag := t.1) (q := t.2) (keep := true) (cl := cl) (il := il) z1 z2 (Or.inl c1) (Or.inl c4) (fun _ => ⟨by omega, by
              rw [e1, e2]
              have := yrd_o hc1 il.2.2.toNat
              rw [show ((il.2.2.toNat : Nat) : Int) = il.2.2 by omega] at this
              rw [this]
              exact x1⟩)
            exact ⟨r2, a1, a2, a3, a4⟩
          · exact same
        · exact same
      · split
        · next k =>
          obtain ⟨n, f, e, h1, h2, h3, h4⟩ := ykI_c k.1 hok
          have hn := h2 k.2.1
          have lt : il.2.2.toNat < n := by have := k.2.2; omega
          obtain ⟨r2, a1, a2, a3, a4, -, -⟩ := yfrs_ok g (tag := 0) (q := yelr S.2.1 (yty cl.2.2.toNat).2.2.2.1 il) (keep := true) (cl := cl) (il := il) (w := .int (f il.2.2.toNat)) (yelr_ok g.1 (by rw [e2]; exact h4 _ lt)) (fun r2 l e => yvI e.symm) (Or.inl c1) (Or.inl c4) (fun _ => ⟨by omega, by rw [e1, e2, yrd_r e c5]⟩)
          exact ⟨r2, a1, a2, a3, a4⟩
        · exact same
    · exact same
def yplcs (S : yS) : List yK → yS
  | [] => S
  | t :: l => yplcs (yplc S t.1 t.2.1) l
theorem yplcs_ok (H : yH0 hp) : ∀ {l : List yK} {S : yS} {r : Nat → Int}, yG hp r S lv st → ∃ r2, yag S.1 r r2 ∧ S.1 ≤ (yplcs S l).1 ∧ (yplcs S l).2.2.2.2 = S.2.2.2.2 ∧ yG hp r2 (yplcs S l) lv st
  | [], S, r, g => ⟨r, yag_refl _ _, Nat.le_refl _, rfl, g⟩
  | t :: l, S, r, g => by
    obtain ⟨r2, a1, a2, a3, a4⟩ := yplc_ok g H t.1 t.2.1
    obtain ⟨r3, b1, b2, b3, b4⟩ := yplcs_ok H (l := l) a4
    exact ⟨r3, fun s hs => (b1 s (Nat.lt_of_lt_of_le hs a2)).trans (a1 s hs), Nat.le_trans a2 b2, b3.trans a3, b4⟩
end YMAT
end
section
/-! Specs of methods, and calls. -/
/-- a spec: method, most locals, entry state (locals: the arguments), states behind (operand: the answer), what may change -/
abbrev ySp : Type := Nat × Nat × yS × List yS × yM
/-- what a spec says -/
def yPo (E : zHp → Prop) (M : yM) (hp : zHp) (r : Nat → Int) (n : Nat) (Q : List yS) (x : zRe) : Prop := (yH0 x.2 ∧ E x.2) ∧ yF M hp x.2 ∧ ∃ q ∈ Q, ∃ r2, yag n r r2 ∧ n ≤ q.1 ∧ yG x.2 r2 q [] x.1.toList
def yTr (E : zHp → Prop) (d : Nat) (sp : ySp) : Prop := ∀ (hp : zHp) (r : Nat → Int) (as : List Value), (yH0 hp ∧ E hp) → yG hp r sp.2.2.1 (lv_args 0 as) [] → (as.map fun v => v.category).sum ≤ sp.2.1 → as.length = sp.2.2.1.2.2.2.2.1.length → ∃ x : zRe, zCan d sp.1 as hp x ∧ yPo E sp.2.2.2.2 hp r sp.2.2.1.1 sp.2.2.2.1 x
def yargs : Nat → List yV → List (Nat × yV)
  | _, [] => []
  | i, a :: l => (i, a) :: yargs (if a.1 = 1 then i + 2 else i + 1) l
/-- symbols of a spec's end, in the caller's state: those of its entry are put in, new ones come behind n -/
def ytau (p n : Nat) (u : yU) (l : yL) : yL := if l.1 = 0 then l else if l.2.1 < p then ysub 0 u l else (l.1, l.2.1 - p + n, l.2.2)
def ytav (p n : Nat) (u : yU) (a : yV) : yV := (a.1, ytau p n u a.2.1, ytau p n u a.2.2)
def ytax (p n : Nat) (u : yU) : List (Int × Nat) → Int → yX
  | [], c => ([], c)
  | q :: l, c => yadd q.1 (yxl (ytau p n u (1, q.2, 0))) (ytax p n u l c)
def ytab2 (p n : Nat) (u : yU) : yB → yB → yB
  | [], b => b
  | e :: l, b => ytab2 p n u l (if e.1 < p then (if (ylu u e.1).1 = 1 then (match ybd b (ylu u e.1).2.1 with
      | some q => ((ylu u e.1).2.1, ymax q.1 (e.2.1 - (ylu u e.1).2.2), ymin q.2 (e.2.2 - (ylu u e.1).2.2)) :: b
      | none => b) else b) else (e.1 - p + n, e.2) :: b)
/-- not touched by what may change -/
def yunt (M : yM) (b : yB) (t : yK) : Bool := (match yrg b t.2.1 with
    | some p => decide (p.2 < 0)
    | none => false) || (match yrg b t.1 with
    | some p => M.all (fun m => decide (p.2 < (m.1 : Int)) || decide ((m.2.1 : Int) < p.1) || (!(m.2.2 == 1000) && yap b t.2.1 (yc m.2.2)))
    | none => false)
def yfea (p : Nat) (u : yU) (b : yB) (Q : yB) : Bool := Q.all (fun e => if e.1 < p then (match yrg b (ysub 0 u (1, e.1, 0)) with
  | some q => !(decide (q.2 < e.2.1) || decide (e.2.2 < q.1))
  | none => true) else true)
/-- the caller's state behind a call, for one end Q of the spec; A: the caller's state ahead of it, rest: its operands below the arguments -/
def yaft (p : Nat) (u : yU) (M : yM) (A Q : yS) (lv : List (Nat × yV)) (rest : List yV) : yS :=
  (A.1 + (Q.1 - p), ytab2 p A.1 u Q.2.1 A.2.1, Q.2.2.1.map (fun x => ytax p A.1 u x.1 x.2) ++ A.2.2.1, Q.2.2.2.1.map (fun t => (ytau p A.1 u t.1, ytau p A.1 u t.2.1, ytav p A.1 u t.2.2)) ++ A.2.2.2.1.filter (yunt M A.2.1), lv, Q.2.2.2.2.2.map (ytav p A.1 u) ++ rest)
/-- quick: where the pattern has a number, the state has no other -/
def yqk (pl al : List (Nat × yV)) : Bool := pl.all (fun q => if q.2.2.1.1 = 0 then (match yld al q.1 with
  | some v => !(v.2.1.1 == 0) || v.2.1.2.2 == q.2.2.1.2.2
  | none => false) else true)
/-- does the spec fit; the states behind -/
def yapp (sp : ySp) (M : yM) (S : yS) (args rest : List yV) : Option (List yS) := if yqk sp.2.2.1.2.2.2.2.1 (yargs 0 args) = false then none else
  let A := yplcs (S.1, S.2.1, S.2.2.1, S.2.2.2.1, yargs 0 args, []) sp.2.2.1.2.2.2.1
  let u := ybn 0 sp.2.2.1 A
  if ymt 0 u sp.2.2.1 A = true ∧ u.all (fun q => ywb A.1 q.2) = true ∧ yleM sp.2.2.2.2 M = true ∧ ysl args ≤ sp.2.1 ∧ args.length = sp.2.2.1.2.2.2.2.1.length then
    some ((sp.2.2.2.1.filter (fun Q => yfea sp.2.2.1.1 u A.2.1 Q.2.1)).map (fun Q => yaft sp.2.2.1.1 u sp.2.2.2.2 A Q S.2.2.2.2.1 rest)) else none
def ytry2 (sps : List ySp) (k : Nat) (M : yM) (S : yS) (args rest : List yV) : Option (List yS) := match sps with
  | [] => none
  | sp :: l => if sp.1 = k then (match yapp sp M S args rest with
    | some R => some R
    | none => ytry2 l k M S args rest) else ytry2 l k M S args rest
section YCAL
variable {hp hp' : zHp} {r : Nat → Int} {S : yS} {lv : List (Nat × Value)} {st : List Value}
theorem yv_le {h h2 : Nat} (e : h ≤ h2) {a : yV} {w : Value} (k : yv h r a w) : yv h2 r a w := by
  unfold yv at k ⊢
  split at k
  · exact k
  · exact k
  · exact k
  · rcases k with k | ⟨k1, k2, k3⟩
    · exact Or.inl k
    · exact Or.inr ⟨k1, Nat.lt_of_lt_of_le k2 e, k3⟩
  · exact k
  · exact ⟨k.1, Nat.lt_of_lt_of_le k.2.1 e, k.2.2⟩
  · exact ⟨k.1, Nat.lt_of_lt_of_le k.2.1 e, k.2.2⟩
  · exact k
  · exact k
theorem yGl_le {h h2 n : Nat} (e : h ≤ h2) {l : List (Nat × yV)} (k : yGl h r n l lv) : yGl h2 r n l lv := fun i a ha => by
  obtain ⟨w, v, k1, k2⟩ := k i a ha
  exact ⟨w, v, k1, yv_le e k2⟩
theorem ystk_le {h h2 n : Nat} (e : h ≤ h2) : ∀ {l : List yV} {s : List Value}, ystk h r n l s → ystk h2 r n l s
  | [], [], _ => trivial
  | [], _ :: _, g => g.elim
  | _ :: _, [], g => g.elim
  | _ :: _, _ :: _, g => ⟨⟨g.1.1, yv_le e g.1.2⟩, ystk_le e g.2⟩
theorem ystk_len {h n : Nat} : ∀ {l : List yV} {s : List Value}, ystk h r n l s → s.length = l.length
  | [], [], _ => rfl
  | [], _ :: _, g => g.elim
  | _ :: _, [], g => g.elim
  | _ :: _, _ :: _, g => congrArg (· + 1) (ystk_len g.2)
theorem yargs_ok {h n : Nat} : ∀ {l : List yV} {as : List Value} {k : Nat}, ystk h r n l as → yGl h r n (yargs k l) (lv_args k as)
  | [], [], _, _ => fun i a e => by cases e
  | [], _ :: _, _, g => g.elim
  | _ :: _, [], _, g => g.elim
  | a :: l, w :: as, k, g => by
    intro i b e
    unfold yargs at e
    unfold yld at e
    show ywv n b ∧ ∃ v, zld ((k, w) :: lv_args (if w.category = 2 then k + 2 else k + 1) as) i = some v ∧ yv h r b v
    unfold zld
    split at e
    · next ek =>
      cases e
      rw [if_pos ek]
      exact ⟨g.1.1, w, rfl, g.1.2⟩
    · next ek =>
      rw [if_neg ek, ycat g.1.2]
      have := yargs_ok g.2 i b e
      by_cases c : a.1 = 1
      · rw [if_pos c] at this
        rw [if_pos (by rw [if_pos c])]
        exact this
      · rw [if_neg c] at this
        rw [if_neg (by rw [if_neg c]; decide)]
        exact this
theorem ylu_w {n : Nat} {u : yU} (h : u.all (fun q => ywb n q.2) = true) (s : Nat) : yw n (ylu u s) := by
  induction u with
  | nil => exact Or.inl rfl
  | cons q l ih =>
    rw [List.all_cons, Bool.and_eq_true] at h
    unfold ylu
    split
    · exact ywb_ok h.1
    · exact ih h.2
/-- the caller's symbols, and the new ones of the spec's end -/
def yr3 (p n : Nat) (r r2 : Nat → Int) : Nat → Int := fun t => if t < n then r t else r2 (t - n + p)
theorem yr3_ag (p n : Nat) (r r2 : Nat → Int) : yag n r (yr3 p n r r2) := fun s hs => if_pos hs
theorem ysub_w {n : Nat} {u : yU} (h : u.all (fun q => ywb n q.2) = true) (l : yL) : yw n (ysub 0 u l) := by
  unfold ysub
  split
  · next e => exact Or.inl e
  · rw [if_neg (Nat.not_lt_zero _)]
    rcases ylu_w h l.2.1 with k | k
    · exact Or.inl (by show l.1 * (ylu u l.2.1).1 = 0; rw [k]; omega)
    · exact Or.inr k
theorem ytau_ok {p n m : Nat} {u : yU} {r r2 : Nat → Int} (hu : u.all (fun q => ywb n q.2) = true) (ha : yag p (yrs 0 u r) r2) {l : yL} (w : yw m l) (hm : p ≤ m) : yev (yr3 p n r r2) (ytau p n u l) = yev r2 l ∧ yw (n + (m - p)) (ytau p n u l) := by
  unfold ytau
  split
  · next e => exact ⟨by rw [yev_0 e, yev_0 e], Or.inl e⟩
  · next e =>
    have w := w.resolve_left e
    split
    · next c =>
      have wl : yw p l := Or.inr c
      refine ⟨?_, yw_le (Nat.le_add_right _ _) (ysub_w hu l)⟩
      rw [yev_ag (yr3_ag p n r r2) (ysub_w hu l), ysub_ok, yev_ag ha wl]
    · next c =>
      refine ⟨?_, Or.inr (by show l.2.1 - p + n < n + (m - p); omega)⟩
      show l.1 * yr3 p n r r2 (l.2.1 - p + n) + l.2.2 = l.1 * r2 l.2.1 + l.2.2
      unfold yr3
      rw [if_neg (by omega), show l.2.1 - p + n - n + p = l.2.1 by omega]
theorem ytav_ok {p n m h : Nat} {u : yU} {r r2 : Nat → Int} (hu : u.all (fun q => ywb n q.2) = true) (ha : yag p (yrs 0 u r) r2) {a : yV} (w : ywv m a) (hm : p ≤ m) {v : Value} (hv : yv h r2 a v) : yv h (yr3 p n r r2) (ytav p n u a) v ∧ ywv (n + (m - p)) (ytav p n u a) := by
  have e1 := ytau_ok hu ha w.1 hm
  have e2 := ytau_ok hu ha w.2 hm
  refine ⟨?_, e1.2, e2.2⟩
  unfold yv ytav
  dsimp only
  rw [e1.1, e2.1]
  exact hv
theorem ytax_ok {p n m : Nat} {u : yU} {r r2 : Nat → Int} (hu : u.all (fun q => ywb n q.2) = true) (ha : yag p (yrs 0 u r) r2) (hm : p ≤ m) : ∀ {l : List (Int × Nat)} {c : Int}, (∀ t ∈ l, t.2 < m) → yex (yr3 p n r r2) (ytax p n u l c) = yxs r2 l + c ∧ ∀ t ∈ (ytax p n u l c).1, t.2 < n + (m - p)
  | [], c, _ => ⟨rfl, fun t ht => by cases ht⟩
  | q :: l, c, w => by
    have ih := ytax_ok hu ha hm (l := l) (c := c) (fun t ht => w t (List.mem_cons_of_mem _ ht))
    have e := ytau_ok (l := (1, q.2, 0)) hu ha (Or.inr (w q List.mem_cons_self)) hm
    unfold ytax
    refine ⟨?_, yaddl_w (yxl_w e.2) ih.2⟩
    rw [yadd_ok, yxl_ok, e.1, ih.1]
    show q.1 * (1 * r2 q.2 + 0) + _ = q.1 * r2 q.2 + yxs r2 l + c
    rw [show 1 * r2 q.2 + 0 = r2 q.2 by omega]
    omega
theorem ytab2_ok {p n m : Nat} {u : yU} {r r2 : Nat → Int} (hu : u.all (fun q => ywb n q.2) = true) (ha : yag p (yrs 0 u r) r2) (hm : p ≤ m) : ∀ {Q b : yB}, yGe r2 m Q → yGe (yr3 p n r r2) (n + (m - p)) b → yGe (yr3 p n r r2) (n + (m - p)) (ytab2 p n u Q b)
  | [], b, _, g => g
  | e :: l, b, gq, g => by
    unfold ytab2
    refine ytab2_ok hu ha hm (fun x hx => gq x (List.mem_cons_of_mem _ hx)) ?_
    have q := gq e List.mem_cons_self
    split
    · next c =>
      split
      · next c1 =>
        split
        · next x hx =>
          intro y hy
          rcases List.mem_cons.mp hy with rfl | hy
          · have gb := g _ (ybd_mem hx)
            refine ⟨gb.1, ?_⟩
            have k1 : r2 e.1 = yrs 0 u r e.1 := ha e.1 c
            have k2 : yrs 0 u r e.1 = yev r (ylu u e.1) := if_neg (Nat.not_lt_zero _)
            have k3 := yev_ag (yr3_ag p n r r2) (ylu_w hu e.1)
            have k4 : yev (yr3 p n r r2) (ylu u e.1) = 1 * yr3 p n r r2 (ylu u e.1).2.1 + (ylu u e.1).2.2 := by
              show (ylu u e.1).1 * _ + _ = _
              rw [c1]
            have gb2 : x.1 ≤ yr3 p n r r2 (ylu u e.1).2.1 := gb.2.1
            have gb3 : yr3 p n r r2 (ylu u e.1).2.1 ≤ x.2 := gb.2.2
            show ymax x.1 (e.2.1 - (ylu u e.1).2.2) ≤ yr3 p n r r2 (ylu u e.1).2.1 ∧ yr3 p n r r2 (ylu u e.1).2.1 ≤ ymin x.2 (e.2.2 - (ylu u e.1).2.2)
            unfold ymax ymin
            split <;> split <;> omega
          · exact g y hy
        · exact g
      · exact g
    · next c =>
      intro y hy
      rcases List.mem_cons.mp hy with rfl | hy
      · have q1 := q.1
        refine ⟨by show e.1 - p + n < n + (m - p); omega, ?_⟩
        show e.2.1 ≤ yr3 p n r r2 (e.1 - p + n) ∧ yr3 p n r r2 (e.1 - p + n) ≤ e.2.2
        unfold yr3
        rw [if_neg (by omega), show e.1 - p + n - n + p = e.1 by omega]
        exact q.2
      · exact g y hy
theorem yunt_ok {n : Nat} {b : yB} (g : yGe r n b) {M : yM} {t : yK} (h : yunt M b t = true) {i : Nat} (hi : (i : Int) = yev r t.1) : yev r t.2.1 < 0 ∨ yinM M i (yev r t.2.1) = false := by
  unfold yunt at h
  rw [Bool.or_eq_true] at h
  rcases h with h | h
  · split at h
    · next p hp1 =>
      have := yrg_ok g hp1
      have h : p.2 < 0 := of_decide_eq_true h
      exact Or.inl (by omega)
    · cases h
  · split at h
    · next p hp1 =>
      have bb := yrg_ok g hp1
      right
      cases e : yinM M i (yev r t.2.1) with
      | false => rfl
      | true =>
        exfalso
        unfold yinM at e
        rw [List.any_eq_true] at e
        obtain ⟨m, hm, e⟩ := e
        have k := List.all_eq_true.mp h m hm
        simp only [Bool.and_eq_true, Bool.or_eq_true, decide_eq_true_eq, beq_iff_eq, Bool.not_eq_true', beq_eq_false_iff_ne] at e k
        obtain ⟨⟨a1, a2⟩, a3⟩ := e
        rcases k with (k | k) | ⟨k1, k2⟩
        · omega
        · omega
        · have := yap_ok g k2
          rw [yev_c] at this
          rcases a3 with a3 | a3
          · exact k1 a3
          · exact this a3.symm
    · cases h
theorem ystk_app {h n : Nat} : ∀ {l1 l2 : List yV} {m1 m2 : List Value}, ystk h r n l1 m1 → ystk h r n l2 m2 → ystk h r n (l1 ++ l2) (m1 ++ m2)
  | [], l2, [], m2, _, g => g
  | [], _, _ :: _, _, g, _ => g.elim
  | _ :: _, _, [], _, g, _ => g.elim
  | a :: l, l2, w :: m, m2, g1, g2 => ⟨g1.1, ystk_app g1.2 g2⟩
theorem ystk_tav {p n m h : Nat} {u : yU} {r r2 : Nat → Int} (hu : u.all (fun q => ywb n q.2) = true) (ha : yag p (yrs 0 u r) r2) (hm : p ≤ m) : ∀ {l : List yV} {s : List Value}, ystk h r2 m l s → ystk h (yr3 p n r r2) (n + (m - p)) (l.map (ytav p n u)) s
  | [], [], _ => trivial
  | [], _ :: _, g => g.elim
  | _ :: _, [], g => g.elim
  | a :: l, w :: s, g => by
    have k := ytav_ok hu ha g.1.1 hm g.1.2
    exact ⟨⟨k.2, k.1⟩, ystk_tav hu ha hm g.2⟩
/-- a call by a spec -/
theorem yapp_ok {E : zHp → Prop} {d : Nat} {sp : ySp} {M : yM} {args rest : List yV} {as m : List Value} {R : List yS} (hsp : yTr E d sp) (hw : ywf sp.2.2.1 = true) (H : yH0 hp ∧ E hp) (g : yG hp r (yst S []) lv []) (ga : ystk hp.1 r S.1 args as) (gr : ystk hp.1 r S.1 rest m) (h : yapp sp M S args rest = some R) :
    ∃ x : zRe, zCan d sp.1 as hp x ∧ (yH0 x.2 ∧ E x.2) ∧ yF M hp x.2 ∧ ∃ T ∈ R, ∃ r2, yag S.1 r r2 ∧ S.1 ≤ T.1 ∧ yG x.2 r2 T lv (x.1.toList ++ m) := by
  unfold yapp at h
  by_cases cq : yqk sp.2.2.1.2.2.2.2.1 (yargs 0 args) = false
  · rw [if_pos cq] at h
    cases h
  rw [if_neg cq] at h
  dsimp only at h
  have g0 : yG hp r (S.1, S.2.1, S.2.2.1, S.2.2.2.1, yargs 0 args, []) (lv_args 0 as) [] := ⟨g.1, g.2.1, g.2.2.1, yargs_ok ga, trivial⟩
  obtain ⟨rA, a1, a2, a3, gA⟩ := yplcs_ok H.1 (l := sp.2.2.1.2.2.2.1) g0
  generalize hA : yplcs (S.1, S.2.1, S.2.2.1, S.2.2.2.1, yargs 0 args, []) sp.2.2.1.2.2.2.1 = A at *
  generalize hU : ybn 0 sp.2.2.1 A = u at *
  have a2 : S.1 ≤ A.1 := a2
  split at h
  · next c =>
    obtain ⟨c1, c2, c3, c4, c5⟩ := c
    cases h
    have gP := ymt_ok gA hw c1
    obtain ⟨x, x1, xH, xF, Q, hQ, r2, b1, b2, gQ⟩ := hsp hp _ as H gP (by rw [ysl_ok ga]; exact c4) (by rw [ystk_len ga]; exact c5)
    have ag : yag S.1 r (yr3 sp.2.2.1.1 A.1 rA r2) := fun s hs => (yr3_ag _ _ rA r2 s (Nat.lt_of_lt_of_le hs a2)).trans (a1 s hs)
    have feas : yfea sp.2.2.1.1 u A.2.1 Q.2.1 = true := by
      unfold yfea
      rw [List.all_eq_true]
      intro e he
      split
      · next ce =>
        split
        · next q hq =>
          have k1 := yrg_ok gA.1 hq
          have k2 := gQ.1 e he
          rw [ysub_ok] at k1
          have k3 : r2 e.1 = yrs 0 u rA e.1 := b1 e.1 ce
          rw [show yev (yrs 0 u rA) (1, e.1, 0) = yrs 0 u rA e.1 by show 1 * yrs 0 u rA e.1 + 0 = _; omega] at k1
          simp only [Bool.not_eq_true', Bool.or_eq_false_iff, decide_eq_false_iff_not]
          omega
        · rfl
      · rfl
    have e1 : hp.1 ≤ x.2.1 := xF.1
    refine ⟨x, x1, xH, yF_le c3 xF, _, List.mem_map_of_mem (List.mem_filter.mpr ⟨hQ, feas⟩), yr3 sp.2.2.1.1 A.1 rA r2, ag, Nat.le_trans a2 (Nat.le_add_right _ _), ?_⟩
    have n2 : S.1 ≤ A.1 + (Q.1 - sp.2.2.1.1) := Nat.le_trans a2 (Nat.le_add_right _ _)
    have agA := yr3_ag sp.2.2.1.1 A.1 rA r2
    refine ⟨ytab2_ok c2 b1 b2 gQ.1 (yGe_ag (Nat.le_add_right _ _) agA gA.1), ?_, ?_, ?_, ?_⟩
    · intro y hy
      rcases List.mem_append.mp hy with hy | hy
      · obtain ⟨z, hz, rfl⟩ := List.mem_map.mp hy
        have kz := gQ.2.1 z hz
        have k := ytax_ok (n := A.1) c2 b1 b2 (l := z.1) (c := z.2) kz.1
        exact ⟨k.2, by rw [k.1]; exact kz.2⟩
      · exact yGf_ag (Nat.le_add_right _ _) agA gA.2.1 y hy
    · intro y hy
      rcases List.mem_append.mp hy with hy | hy
      · obtain ⟨z, hz, rfl⟩ := List.mem_map.mp hy
        obtain ⟨⟨w1, w2, w3⟩, k1, k2, k3, k4⟩ := gQ.2.2.1 z hz
        have t1 := ytau_ok (n := A.1) c2 b1 w1 b2
        have t2 := ytau_ok (n := A.1) c2 b1 w2 b2
        have t3 := ytav_ok (n := A.1) c2 b1 w3 b2 k4
        refine ⟨⟨t1.2, t2.2, t3.2⟩, ?_, k2, ?_, t3.1⟩
        · show 0 ≤ yev _ (ytau _ _ _ z.1)
          rw [t1.1]
          exact k1
        · show yrd x.2 (yev _ (ytau _ _ _ z.1)).toNat (yev _ (ytau _ _ _ z.2.1)) = some k2
          rw [t1.1, t2.1]
          exact k3
      · rw [List.mem_filter] at hy
        obtain ⟨⟨w1, w2, w3⟩, k1, k2, k3, k4⟩ := gA.2.2.1 y hy.1
        refine ⟨⟨yw_le (Nat.le_add_right _ _) w1, yw_le (Nat.le_add_right _ _) w2, ywv_le (Nat.le_add_right _ _) w3⟩, ?_, k2, ?_, ?_⟩
        · rw [yev_ag agA w1]
          exact k1
        · rw [yev_ag agA w1, yev_ag agA w2]
          rw [xF.2.2 _ _ ((yunt_ok gA.1 hy.2 (i := (yev rA y.1).toNat) (by omega)).imp_left (fun q => ⟨q, yrd_lt k3 q⟩))]
          exact k3
        · exact yv_le e1 (yv_ag agA w3 k4)
    · exact yGl_le e1 (yGl_ag n2 ag g.2.2.2.1)
    · exact ystk_app (ystk_tav c2 b1 b2 gQ.2.2.2.2) (ystk_le e1 (ystk_ag n2 ag gr))
  · cases h
theorem ytry2_ok {E : zHp → Prop} {d k : Nat} {M : yM} {args rest : List yV} {as m : List Value} (H : yH0 hp ∧ E hp) (g : yG hp r (yst S []) lv []) (ga : ystk hp.1 r S.1 args as) (gr : ystk hp.1 r S.1 rest m) : ∀ {sps : List ySp} {R : List yS}, (∀ sp ∈ sps, yTr E d sp ∧ ywf sp.2.2.1 = true) → ytry2 sps k M S args rest = some R →
    ∃ x : zRe, zCan d k as hp x ∧ (yH0 x.2 ∧ E x.2) ∧ yF M hp x.2 ∧ ∃ T ∈ R, ∃ r2, yag S.1 r r2 ∧ S.1 ≤ T.1 ∧ yG x.2 r2 T lv (x.1.toList ++ m)
  | [], _, _, h => by cases h
  | sp :: l, R, hs, h => by
    unfold ytry2 at h
    split at h
    · next e =>
      split at h
      · next R2 hR =>
        cases h
        have k1 := hs sp List.mem_cons_self
        have := yapp_ok k1.1 k1.2 H g ga gr hR
        rw [e] at this
        exact this
      · exact ytry2_ok H g ga gr (fun x hx => hs x (List.mem_cons_of_mem _ hx)) h
    · exact ytry2_ok H g ga gr (fun x hx => hs x (List.mem_cons_of_mem _ hx)) h
end YCAL
end
section
/-! Runs of the checker. -/
def aVal (k : Nat) (v : Value) (pc : Nat) (S : yS) : yO := match v with
  | .int x => aPush k (yI (yc x.toInt)) pc S
  | .long x => aPush k (1, yc x.toInt, yc 0) pc S
  | .ref i => aPush k (2, yc ((i : Nat) : Int), yc 0) pc S
  | .retAddr i => if i = 0 then aPush k (7, yc 0, yc 0) pc S else none
  | _ => none
def ysim (M F : yM) (nL : Nat) (q : zEn) (pc : Nat) (S : yS) : yO := match q.1 with
  | .iconst n => aConst 1 n (-2147483648) 2147483647 pc S
  | .bipush n => aConst 2 n (-128) 127 pc S
  | .sipush n => aConst 3 n (-32768) 32767 pc S
  | .lconst n => aPush 1 (1, yc ((n : Nat) : Int), yc 0) pc S
  | .aconst_null => aPush 1 (2, yc (-1), yc 0) pc S
  | .ldc _ => aVal 2 q.2.2.2.2 pc S
  | .ldc_w _ => aVal 3 q.2.2.2.2 pc S
  | .ldc2_w _ => aVal 3 q.2.2.2.2 pc S
  | .getstatic _ => aVal 3 q.2.2.2.2 pc S
  | .iload_n k => aLoadI 1 k pc S
  | .iload i => aLoadI 2 i pc S
  | .lload_n k => aLoadL 1 k pc S
  | .lload i => aLoadL 2 i pc S
  | .aload_n k => aLoadA 1 k pc S
  | .aload i => aLoadA 2 i pc S
  | .istore_n k => aSto 1 k nL (fun t => t == 0) pc S
  | .istore i => aSto 2 i nL (fun t => t == 0) pc S
  | .lstore_n k => aSto 1 k nL (fun t => t == 1) pc S
  | .lstore i => aSto 2 i nL (fun t => t == 1) pc S
  | .astore_n k => aSto 1 k nL yisR pc S
  | .astore i => aSto 2 i nL yisR pc S
  | .iinc i n => aInc i n nL pc S
  | .iadd => aBin 0 pc S
  | .isub => aBin 1 pc S
  | .imul => aBin 2 pc S
  | .iand => aBin 3 pc S
  | .ior => aBin 4 pc S
  | .ixor => aBin 5 pc S
  | .ishl => aBin 6 pc S
  | .ishr => aBin 7 pc S
  | .iushr => aBin 8 pc S
  | .idiv => if ynz S = true then aBin 9 pc S else none
  | .irem => if ynz S = true then aBin 10 pc S else none
  | .ladd => aBnl 0 pc S
  | .lsub => aBnl 1 pc S
  | .lmul => aBnl 2 pc S
  | .land => aBnl 3 pc S
  | .lor => aBnl 4 pc S
  | .ldiv => if ynz S = true then aBnl 9 pc S else none
  | .lrem => if ynz S = true then aBnl 10 pc S else none
  | .lshl => aLshl pc S
  | .lcmp => aLcmp pc S
  | .i2l => aUn 0 1 (-2147483648) 2147483647 pc S
  | .i2b => aUn 0 0 (-128) 127 pc S
  | .i2c => aUn 0 0 0 65535 pc S
  | .l2i => aUn 1 0 (-2147483648) 2147483647 pc S
  | .dup => aDup pc S
  | .dup2 => aDup2 pc S
  | .pop => aPop pc S
  | .ifCond c _ => aIf c q.2.2.1 pc S
  | .if_icmp c _ => aIfc c q.2.2.1 pc S
  | .goto _ => some [(q.2.2.1, S)]
  | .ifnull _ => aNul true q.2.2.1 pc S
  | .ifnonnull _ => aNul false q.2.2.1 pc S
  | .tableswitch d lo hi offs => aTab d lo hi offs pc S
  | .getfield _ => aGetf q.2.2.1 q.2.2.2.1 pc S
  | .putfield _ => aPutf M F q.2.2.1 q.2.2.2.1 pc S
  | .arraylength => aAlen pc S
  | .iaload => aIld ykI 0 pc S
  | .baload => aIld ykB 1 pc S
  | .laload => aLald pc S
  | .aaload => aAald pc S
  | .iastore => aIst false M F pc S
  | .bastore => aIst true M F pc S
  | .lastore => aLst M F pc S
  | .invokestatic _ => if q.2.2.2.1 = 0 then aCpy M F pc S else if q.2.2.2.1 = 2 then aMm true pc S else if q.2.2.2.1 = 3 then aMm false pc S else none
  | _ => none
section YRUN
variable {hp hp' : zHp} {r : Nat → Int} {S : yS} {lv : List (Nat × Value)} {st : List Value} {pc : Nat}
theorem aVal_ok (g : yG hp r S lv st) {k : Nat} {v : Value} {L : List (Nat × yS)} (h : aVal k v pc S = some L) : yD hp r S.1 L (zPush k v (pc, lv, st) hp) := by
  unfold aVal at h
  split at h
  · exact aPush_ok g (ywI (ywc _ _)) (yvI (by rw [yev_c])) h
  · exact aPush_ok g ⟨Or.inl rfl, Or.inl rfl⟩ (yvL (by rw [yev_c])) h
  · exact aPush_ok g ⟨Or.inl rfl, Or.inl rfl⟩ (yv_ref (by rw [yev_c])) h
  · split at h
    · next e =>
      subst e
      exact aPush_ok g (a := (7, yc 0, yc 0)) ⟨Or.inl rfl, Or.inl rfl⟩ (show yv hp.1 r (7, yc 0, yc 0) (.retAddr 0) from rfl) h
    · cases h
  · cases h
theorem y8 {n : Int} (h1 : -128 ≤ n) (h2 : n ≤ 127) : ((Int8.ofInt n).toInt32).toInt = n := by
  rw [Int8.toInt_toInt32]
  exact Int8.toInt_ofInt_of_le h1 (by omega)
theorem y16 {n : Int} (h1 : -32768 ≤ n) (h2 : n ≤ 32767) : ((Int16.ofInt n).toInt32).toInt = n := by
  rw [Int16.toInt_toInt32]
  exact Int16.toInt_ofInt_of_le h1 (by omega)
theorem ylc (n : Fin 2) : (Int64.ofNat (n : Nat)).toInt = ((n : Nat) : Int) := Int64.toInt_ofNat_of_lt (by have := n.isLt; omega)
theorem ysim_ok {E : zHp → Prop} {M F : yM} (hE : yEF E F) (g : yG hp r S lv st) (H : yH0 hp ∧ E hp) {nL : Nat} {rt : Option FieldType} {q : zEn} {L : List (Nat × yS)} (h : ysim M F nL q pc S = some L) : ∃ o : zO, (∀ call : zCa, zdo zts none call nL rt q (pc, lv, st) hp = o) ∧ yW E M hp r S.1 L o := by
  obtain ⟨ins, len, a, b, v⟩ := q
  have D : ∀ {o : zO}, (∀ call : zCa, zdo zts none call nL rt (ins, len, a, b, v) (pc, lv, st) hp = o) → yD hp r S.1 L o → ∃ o : zO, (∀ call : zCa, zdo zts none call nL rt (ins, len, a, b, v) (pc, lv, st) hp = o) ∧ yW E M hp r S.1 L o := fun e k => ⟨_, e, yW_D H k⟩
  cases ins with
  | iconst n => exact D (fun _ => rfl) (aConst_ok g (fun h1 h2 => Int32.toInt_ofInt_of_le h1 (by omega)) h)
  | bipush n => exact D (fun _ => rfl) (aConst_ok g (fun h1 h2 => y8 h1 h2) h)
  | sipush n => exact D (fun _ => rfl) (aConst_ok g (fun h1 h2 => y16 h1 h2) h)
  | lconst n => exact D (fun _ => rfl) (aPush_ok g ⟨Or.inl rfl, Or.inl rfl⟩ (yvL (by rw [yev_c]; exact ylc n)) h)
  | aconst_null => exact D (fun _ => rfl) (aPush_ok g (a := (2, yc (-1), yc 0)) ⟨Or.inl rfl, Or.inl rfl⟩ (show yv hp.1 r (2, yc (-1), yc 0) .null from Or.inl ⟨yev_c r (-1), rfl⟩) h)
  | ldc i => exact D (fun _ => rfl) (aVal_ok g h)
  | ldc_w i => exact D (fun _ => rfl) (aVal_ok g h)
  | ldc2_w i => exact D (fun _ => rfl) (aVal_ok g h)
  | getstatic i => exact D (fun _ => rfl) (aVal_ok g h)
  | iload_n k => exact D (fun _ => rfl) (aLoadI_ok g h)
  | iload i => exact D (fun _ => rfl) (aLoadI_ok g h)
  | lload_n k => exact D (fun _ => rfl) (aLoadL_ok g h)
  | lload i => exact D (fun _ => rfl) (aLoadL_ok g h)
  | aload_n k => exact D (fun _ => rfl) (aLoadA_ok g h)
  | aload i => exact D (fun _ => rfl) (aLoadA_ok g h)
  | istore_n k => exact D (fun _ => rfl) (aStoI_ok g h)
  | istore i => exact D (fun _ => rfl) (aStoI_ok g h)
  | lstore_n k => exact D (fun _ => rfl) (aStoL_ok g h)
  | lstore i => exact D (fun _ => rfl) (aStoL_ok g h)
  | astore_n k => exact D (fun _ => rfl) (aStoA_ok g h)
  | astore i => exact D (fun _ => rfl) (aStoA_ok g h)
  | iinc i n => exact D (fun _ => rfl) (aInc_ok g h)
  | iadd => exact D (fun _ => rfl) (aBin_ok g h)
  | isub => exact D (fun _ => rfl) (aBin_ok g h)
  | imul => exact D (fun _ => rfl) (aBin_ok g h)
  | iand => exact D (fun _ => rfl) (aBin_ok g h)
  | ior => exact D (fun _ => rfl) (aBin_ok g h)
  | ixor => exact D (fun _ => rfl) (aBin_ok g h)
  | ishl => exact D (fun _ => rfl) (aBin_ok g h)
  | ishr => exact D (fun _ => rfl) (aBin_ok g h)
  | iushr => exact D (fun _ => rfl) (aBin_ok g h)
  | idiv => exact D (fun _ => rfl) (aBinD_ok g h)
  | irem => exact D (fun _ => rfl) (aBinD_ok g h)
  | ladd => exact D (fun _ => rfl) (aBnl_ok g h)
  | lsub => exact D (fun _ => rfl) (aBnl_ok g h)
  | lmul => exact D (fun _ => rfl) (aBnl_ok g h)
  | land => exact D (fun _ => rfl) (aBnl_ok g h)
  | lor => exact D (fun _ => rfl) (aBnl_ok g h)
  | ldiv => exact D (fun _ => rfl) (aBnlD_ok g h)
  | lrem => exact D (fun _ => rfl) (aBnlD_ok g h)
  | lshl => exact D (fun _ => rfl) (aLshl_ok g h)
  | lcmp => exact D (fun _ => rfl) (aLcmp_ok g h)
  | i2l => exact D (fun _ => rfl) (aI2l_ok g h)
  | i2b => exact D (fun _ => rfl) (aI2b_ok g h)
  | i2c => exact D (fun _ => rfl) (aI2c_ok g h)
  | l2i => exact D (fun _ => rfl) (aL2i_ok g h)
  | dup => exact D (fun _ => rfl) (aDup_ok g h)
  | dup2 => exact D (fun _ => rfl) (aDup2_ok g h)
  | pop => exact D (fun _ => rfl) (aPop_ok g h)
  | ifCond c off => exact D (fun _ => rfl) (aIf_ok g h)
  | if_icmp c off => exact D (fun _ => rfl) (aIfc_ok g h)
  | goto off =>
    have h : some [(a, S)] = some L := h
    cases h
    exact D (fun _ => rfl) (yD1 rfl (yag_refl _ _) (Nat.le_refl _) g)
  | ifnull off => exact D (fun _ => rfl) (aNul_ok g (n := true) h)
  | ifnonnull off => exact D (fun _ => rfl) (aNul_ok g (n := false) h)
  | tableswitch d lo hi offs => exact D (fun _ => rfl) (aTab_ok g h)
  | getfield i => exact D (fun _ => rfl) (aGetf_ok g H.1 h)
  | putfield i => exact ⟨_, fun _ => rfl, aPutf_ok hE g H h⟩
  | arraylength => exact D (o := zAlen ztb none (pc, lv, st) hp) (fun _ => rfl) (aAlen_ok g H.1 h)
  | iaload => exact D (o := zIald ztb none (pc, lv, st) hp) (fun _ => rfl) (aIald_ok g H.1 h)
  | baload => exact D (o := zBald ztb none (pc, lv, st) hp) (fun _ => rfl) (aBald_ok g H.1 h)
  | laload => exact D (fun _ => rfl) (aLald_ok g H.1 h)
  | aaload => exact D (fun _ => rfl) (aAald_ok g H.1 h)
  | iastore => exact ⟨_, fun _ => rfl, aIst_ok hE g H (b := false) h⟩
  | bastore => exact ⟨_, fun _ => rfl, aIst_ok hE g H (b := true) h⟩
  | lastore => exact ⟨_, fun _ => rfl, aLst_ok hE g H h⟩
  | invokestatic i =>
    have h : (if b = 0 then aCpy M F pc S else if b = 2 then aMm true pc S else if b = 3 then aMm false pc S else none) = some L := h
    have e : ∀ call : zCa, zdo zts none call nL rt (.invokestatic i, len, a, b, v) (pc, lv, st) hp = (if b = 0 then zCpy (pc, lv, st) hp else if b = 2 then zMax (pc, lv, st) hp else if b = 3 then zMin (pc, lv, st) hp else zCalS call a (zar a).1 (pc, lv, st) hp) := fun _ => rfl
    split at h
    · next c =>
      refine ⟨_, fun call => (e call).trans (if_pos c), aCpy_ok hE g H h⟩
    · next c =>
      split at h
      · next c2 => exact D (fun call => (e call).trans ((if_neg c).trans (if_pos c2))) (aMm_ok g (mx := true) h)
      · next c2 =>
        split at h
        · next c3 => exact D (fun call => (e call).trans ((if_neg c).trans ((if_neg c2).trans (if_pos c3)))) (aMm_ok g (mx := false) h)
        · cases h
  | _ => cases h
end YRUN
end
section
/-! The checker of a method against its spec. -/
/-- a cut: place, state, what falls from cut to cut -/
abbrev yCu : Type := Nat × yS × yX
/-- a method's matter: specs at hand, what may change, what must not, most locals, answer's type, code, entry's symbols, ends, cuts, places where a value is told apart -/
abbrev yCx : Type := List ySp × yM × yM × Nat × Option FieldType × List (Option zEn) × Nat × List yS × List yCu × List (Nat × Nat × Nat × Nat)
def ycut (x : yCx) (R0 : Option yX) (pc : Nat) (S : yS) : Bool := x.2.2.2.2.2.2.2.2.1.any (fun c => (c.1 == pc && yqk c.2.1.2.2.2.2.1 S.2.2.2.2.1) && (
  let A := yplcs S c.2.1.2.2.2.1
  let u := ybn x.2.2.2.2.2.2.1 c.2.1 A
  ymt x.2.2.2.2.2.2.1 u c.2.1 A && (match R0 with
    | none => true
    | some R => yprv A.2.1 A.2.2.1 (yadd (-1) (ysubx x.2.2.2.2.2.2.1 u c.2.2.1 c.2.2.2) (yadd 1 R ([], -1))))))
def yend (x : yCx) (S : yS) : Bool := x.2.2.2.2.2.2.2.1.any (fun q =>
  let A := yplcs (S.1, S.2.1, S.2.2.1, S.2.2.2.1, [], S.2.2.2.2.2) q.2.2.2.1
  ymt x.2.2.2.2.2.2.1 (ybn x.2.2.2.2.2.2.1 q A) q A)
def ynok (ty : FieldType) (p : Int × Int) : Bool := match ty with
  | .int => true
  | .boolean => decide (0 ≤ p.1) && decide (p.2 ≤ 1)
  | ty => decide (p.1 = p.2) && decide (narrow ty (.int (Int32.ofInt p.1)) = .int (Int32.ofInt p.1))
theorem ynok_ok {ty : FieldType} {p : Int × Int} {y : Int32} (h : ynok ty p = true) (h1 : p.1 ≤ y.toInt) (h2 : y.toInt ≤ p.2) : narrow ty (.int y) = .int y := by
  unfold ynok at h
  split at h
  · rfl
  · simp only [Bool.and_eq_true, decide_eq_true_eq] at h
    have e : narrow .boolean (.int y) = .int (ynv 2 y) := rfl
    rw [e, ynv_z2 (by omega) (by omega)]
  · simp only [Bool.and_eq_true, decide_eq_true_eq] at h
    rw [yofI (show y.toInt = p.1 by omega)]
    exact h.2
def yrtI (rt : Option FieldType) (S : yS) : Bool := match rt, S.2.2.2.2.2 with
  | some ty, [v] => v.1 == 0 && (match yrg S.2.1 v.2.1 with
    | some p => ynok ty p
    | none => false)
  | _, _ => false
def yrtL (rt : Option FieldType) (S : yS) : Bool := match rt, S.2.2.2.2.2 with
  | some .long, [v] => v.1 == 1
  | _, _ => false
def yrtV (rt : Option FieldType) (S : yS) : Bool := match rt, S.2.2.2.2.2 with
  | none, [] => true
  | _, _ => false
def yknd (b : yB) (v : yV) (ci : Nat) : Bool := if ci = 100 then v.1 == 2 && (match yrg b v.2.1 with
    | some p => decide (p.1 = p.2) && decide (1001 ≤ p.1) && decide (p.1 < 1007)
    | none => false) else match ycel b v with
  | some q => if v.1 = 3 then ci == 4 else v.1 == 2 && q.2.1 == 0 && q.2.2.1 == ci
  | none => false
/-- the script, where it may be read: its length's form, and elements by their places' forms -/
abbrev yZ : Type := Option (yL × List (yL × yL))
def yzf : List (yL × yL) → yL → Option yL
  | [], _ => none
  | t :: l, i => if yeq t.1 i = true then some t.2 else yzf l i
def ysimL (lz : yZ) (M F : yM) (nL : Nat) (q : zEn) (pc : Nat) (S : yS) : yO := match lz with
  | none => ysim M F nL q pc S
  | some l => match q.1, S.2.2.2.2.2 with
    | .arraylength, v :: s => if v.1 = 2 ∧ yrg S.2.1 v.2.1 = some (1000, 1000) then some [(pc + 1, yst S (yI l.1 :: s))] else ysim M F nL q pc S
    | .iaload, j :: v :: s => if v.1 = 2 ∧ yrg S.2.1 v.2.1 = some (1000, 1000) then (if j.1 = 0 ∧ yprv S.2.1 S.2.2.1 (yxl j.2.1) = true ∧ yprv S.2.1 S.2.2.1 (yadd (-1) (yxl j.2.1) (yadd 1 (yxl l.1) ([], -1))) = true then (match yzf l.2 j.2.1 with
      | some e => some [(pc + 1, yst S (yI e :: s))]
      | none => none) else none) else ysim M F nL q pc S
    | _, _ => ysim M F nL q pc S
def ystp (lz : yZ) (rec : Nat → yS → Bool) (x : yCx) (pc : Nat) (S : yS) : Bool := match zg x.2.2.2.2.2.1 pc with
  | none => false
  | some q => match q.1 with
    | .ireturn => yrtI x.2.2.2.2.1 S && yend x S
    | .lreturn => yrtL x.2.2.2.2.1 S && yend x S
    | .return_ => yrtV x.2.2.2.2.1 S && yend x S
    | .invokevirtual _ => decide (q.2.2.2.1 = 0) && (match S.2.2.2.2.2.drop (zar q.2.2.1).1 with
      | v :: rest => decide ((S.2.2.2.2.2.take (zar q.2.2.1).1).length = (zar q.2.2.1).1) && (yknd S.2.1 v (zar q.2.2.1).2 && (decide (ysl rest ≤ 8) && (match ytry2 x.1 q.2.2.1 x.2.1 S (v :: (S.2.2.2.2.2.take (zar q.2.2.1).1).reverse) rest with
        | some R => R.all (rec (pc + 3))
        | none => false)))
      | [] => false)
    | .invokestatic _ => if q.2.2.2.1 = 1 then decide ((S.2.2.2.2.2.take (zar q.2.2.1).1).length = (zar q.2.2.1).1) && (decide (ysl (S.2.2.2.2.2.drop (zar q.2.2.1).1) ≤ 8) && (match ytry2 x.1 q.2.2.1 x.2.1 S (S.2.2.2.2.2.take (zar q.2.2.1).1).reverse (S.2.2.2.2.2.drop (zar q.2.2.1).1) with
        | some R => R.all (rec (pc + 3))
        | none => false)) else (match ysimL lz x.2.1 x.2.2.1 x.2.2.2.1 q pc S with
      | some L => L.all (fun t => rec t.1 t.2)
      | none => false)
    | _ => match ysimL lz x.2.1 x.2.2.1 x.2.2.2.1 q pc S with
      | some L => L.all (fun t => rec t.1 t.2)
      | none => false
/-- a value is told apart -/
def yspv (S : yS) (s : Nat) : Nat → Int → List yS
  | 0, z => [(S.1, (s, z, z) :: S.2.1, S.2.2)]
  | n + 1, z => (S.1, (s, z, z) :: S.2.1, S.2.2) :: yspv S s n (z + 1)
def ysps (S : yS) (l : yL) : List yS := if l.1 = 1 then (match ybd S.2.1 l.2.1 with
  | some e => if e.1 ≤ e.2 ∧ e.2 - e.1 ≤ 40 then yspv S l.2.1 (e.2 - e.1).toNat e.1 else [S]
  | none => [S]) else [S]
def yspl (x : yCx) (pc : Nat) (S : yS) : List yS := match x.2.2.2.2.2.2.2.2.2.find? (fun q => q.1 == pc) with
  | none => [S]
  | some q => if q.2.1 = 0 then (match yld S.2.2.2.2.1 q.2.2.1 with
      | some a => ysps S a.2.1
      | none => [S]) else
    let A := yplc S (yc q.2.2.1) (yc q.2.2.2)
    (match ylk A.2.2.2.1 (yc q.2.2.1) (yc q.2.2.2) with
      | some a => ysps A a.2.1
      | none => [A])
def yexec (lz : yZ) (x : yCx) (R0 : Option yX) : Nat → Nat → yS → Bool
  | 0, _, _ => false
  | f + 1, pc, S => ycut x R0 pc S || (yspl x pc S).all (ystp lz (yexec lz x R0 f) x pc)
/-- as yexec, with states that are known to be good -/
def yexecO (lz : yZ) (x : yCx) (R0 : Option yX) (O : List (Nat × yS)) : Nat → Nat → yS → Bool
  | 0, _, _ => false
  | f + 1, pc, S => O.any (fun o => o.1 == pc && (o.2.1 == S.1 && ymt S.1 [] o.2 S)) || (ycut x R0 pc S || (yspl x pc S).all (ystp lz (yexecO lz x R0 O f) x pc))
/-- the whole check -/
def yver (x : yCx) (P : yS) (f : Nat) : Bool :=
  decide (x.2.2.2.1 ≤ 41) && (decide (x.2.2.2.2.2.2.1 = P.1) && (P.2.2.2.2.2.isEmpty && (x.2.2.2.2.2.2.2.1.all (fun q => ywf q && (decide (P.1 ≤ q.1) && q.2.2.2.2.1.isEmpty)) && (x.2.2.2.2.2.2.2.2.1.all (fun c => ywf c.2.1 && (decide (P.1 ≤ c.2.1.1) && (yge0 c.2.1.2.1 c.2.2 && (c.2.2.1.all (fun t => decide (t.2 < c.2.1.1)) && (yspl x c.1 c.2.1).all (ystp none (yexec none x (some c.2.2) f) x c.1))))) && yexec none x none f 0 P))))
section YVER
variable {hp hp' : zHp} {r : Nat → Int} {S : yS} {lv : List (Nat × Value)} {st : List Value} {pc : Nat}
theorem yspv_ok (g : yG hp r S lv st) {s : Nat} (hs : s < S.1) : ∀ {n : Nat} {z : Int}, z ≤ r s → r s ≤ z + (n : Int) → ∃ T ∈ yspv S s n z, T.1 = S.1 ∧ yG hp r T lv st
  | 0, z, h1, h2 => by
    refine ⟨_, List.mem_cons_self, rfl, fun e he => ?_, g.2⟩
    rcases List.mem_cons.mp he with rfl | he
    · exact ⟨hs, h1, by show r s ≤ z; omega⟩
    · exact g.1 e he
  | n + 1, z, h1, h2 => by
    by_cases e : r s = z
    · refine ⟨_, List.mem_cons_self, rfl, fun e he => ?_, g.2⟩
      rcases List.mem_cons.mp he with rfl | he
      · exact ⟨hs, h1, by show r s ≤ z; omega⟩
      · exact g.1 e he
    · obtain ⟨T, h3, h4⟩ := yspv_ok g hs (n := n) (z := z + 1) (by omega) (by omega)
      exact ⟨T, List.mem_cons_of_mem _ h3, h4⟩
theorem ysps_ok (g : yG hp r S lv st) (l : yL) : ∃ T ∈ ysps S l, T.1 = S.1 ∧ yG hp r T lv st := by
  unfold ysps
  split
  · split
    · next e he =>
      have m := g.1 _ (ybd_mem he)
      have m2 : e.1 ≤ r l.2.1 := m.2.1
      have m3 : r l.2.1 ≤ e.2 := m.2.2
      split
      · exact yspv_ok (s := l.2.1) g m.1 m2 (by omega)
      · exact ⟨S, List.mem_cons_self, rfl, g⟩
    · exact ⟨S, List.mem_cons_self, rfl, g⟩
  · exact ⟨S, List.mem_cons_self, rfl, g⟩
theorem yspl_ok (g : yG hp r S lv st) (H : yH0 hp) (x : yCx) (pc : Nat) : ∃ T ∈ yspl x pc S, ∃ r2, yag S.1 r r2 ∧ S.1 ≤ T.1 ∧ yG hp r2 T lv st := by
  unfold yspl
  split
  · exact ⟨S, List.mem_cons_self, r, yag_refl _ _, Nat.le_refl _, g⟩
  · next q hq =>
    split
    · split
      · next a ha =>
        obtain ⟨T, h1, h2, h3⟩ := ysps_ok g a.2.1
        exact ⟨T, h1, r, yag_refl _ _, Nat.le_of_eq h2.symm, h3⟩
      · exact ⟨S, List.mem_cons_self, r, yag_refl _ _, Nat.le_refl _, g⟩
    · obtain ⟨r2, a1, a2, a3, a4⟩ := yplc_ok g H (yc q.2.2.1) (yc q.2.2.2)
      dsimp only
      split
      · next a ha =>
        obtain ⟨T, h1, h2, h3⟩ := ysps_ok a4 a.2.1
        exact ⟨T, h1, r2, a1, by rw [h2]; exact a2, h3⟩
      · exact ⟨_, List.mem_cons_self, r2, a1, a2, a4⟩
theorem ystk_take {h n : Nat} : ∀ {k : Nat} {l : List yV} {s : List Value}, ystk h r n l s → ystk h r n (l.take k) (s.take k) ∧ ystk h r n (l.drop k) (s.drop k) ∧ s.length = l.length
  | 0, l, s, g => ⟨trivial, g, ystk_len g⟩
  | k + 1, [], [], g => ⟨trivial, trivial, rfl⟩
  | k + 1, [], _ :: _, g => g.elim
  | k + 1, _ :: _, [], g => g.elim
  | k + 1, a :: l, w :: s, g => by
    obtain ⟨h1, h2, h3⟩ := ystk_take (k := k) g.2
    exact ⟨⟨g.1, h1⟩, h2, congrArg (· + 1) h3⟩
theorem ystk_rev {h n : Nat} {l : List yV} {s : List Value} (g : ystk h r n l s) : ystk h r n l.reverse s.reverse := by
  induction l generalizing s with
  | nil =>
    rw [ystk_nil g]
    exact trivial
  | cons a l ih =>
    obtain ⟨v, m, rfl, h1, h2⟩ := ystk_cons g
    rw [List.reverse_cons, List.reverse_cons]
    exact ystk_app (ih h2) ⟨h1, trivial⟩
theorem yknd_ok (g : yG hp r S lv st) (H : yH0 hp) {v : yV} {w : Value} {ci : Nat} (hw : ywv S.1 v) (hv : yv hp.1 r v w) (h : yknd S.2.1 v ci = true) : ∃ i : Nat, w = .ref i ∧ zKd i hp = some ci := by
  unfold yknd at h
  split at h
  · next hc =>
    rw [Bool.and_eq_true] at h
    have h0 : v.1 = 2 := by simpa using h.1
    have h2 := h.2
    split at h2
    · next p hp1 =>
      have bb := yrg_ok g.1 hp1
      simp only [Bool.and_eq_true, decide_eq_true_eq] at h2
      unfold yv at hv
      rw [h0] at hv
      rcases hv with ⟨hv, -⟩ | ⟨hv, rfl⟩
      · omega
      · refine ⟨_, rfl, ?_⟩
        unfold zKd
        rw [if_neg (show ¬ (yev r v.2.1).toNat < zSC by show ¬ _ < 1000; omega), if_pos (show zSC + 1 ≤ (yev r v.2.1).toNat ∧ (yev r v.2.1).toNat < zSC + 7 from ⟨by show 1001 ≤ _; omega, by show _ < 1007; omega⟩), hc]
    · cases h2
  · split at h
    · next q hq =>
      obtain ⟨i, rfl, hi, ei, wq, hok, h2, h3⟩ := ycel_ok g.1 H hw hv hq
      refine ⟨i, rfl, ?_⟩
      have kd : ∀ ci fs, hp.2 i = .inr (ci, fs) → zKd i hp = some ci := by
        intro ci fs e
        unfold zKd
        rw [if_pos (show i < zSC from Nat.lt_of_lt_of_le hi H.2.1), if_pos hi, e]
      split at h
      · next e3 =>
        obtain ⟨k, rfl, -, -⟩ := h3 e3
        have hc := H.2.2 _ hi
        rw [yty_r0] at hc
        obtain ⟨fs, e, -⟩ := hc
        rw [kd _ _ e]
        have : ci = 4 := by simpa using h
        rw [this]
      · simp only [Bool.and_eq_true, beq_iff_eq] at h
        obtain ⟨⟨a1, a2⟩, a3⟩ := h
        have hc := hok (by rw [a2]; decide)
        unfold yokc at hc
        rw [a2] at hc
        obtain ⟨fs, e, -⟩ := hc
        rw [kd _ _ e, a3]
    · cases h
/-- from here the body comes to an end that the spec tells -/
def yEv (lz : yZ) (ev : zEv) (r : Nat → Int) : Prop := match lz with
  | none => True
  | some q => ∃ (n : Nat) (f : Nat → Int32), ev = some (n, f) ∧ (n : Int) = yev r q.1 ∧ n ≤ 3072 ∧ ∀ t ∈ q.2, (f (yev r t.1).toNat).toInt = yev r t.2
def ywz (n : Nat) (lz : yZ) : Prop := ∀ q, lz = some q → yw n q.1 ∧ ∀ t ∈ q.2, yw n t.1 ∧ yw n t.2
theorem yEv_ag {n : Nat} {lz : yZ} {ev : zEv} {r r2 : Nat → Int} (w : ywz n lz) (ha : yag n r r2) (h : yEv lz ev r) : yEv lz ev r2 := by
  cases lz with
  | none => exact trivial
  | some q =>
    obtain ⟨m, f, e1, e2, e3, e4⟩ := h
    have k := w q rfl
    refine ⟨m, f, e1, by rw [yev_ag ha k.1]; exact e2, e3, fun t ht => ?_⟩
    rw [yev_ag ha (k.2 t ht).1, yev_ag ha (k.2 t ht).2]
    exact e4 t ht
theorem yzf_mem : ∀ {l : List (yL × yL)} {i e : yL}, yzf l i = some e → (i, e) ∈ l
  | [], _, _, h => by cases h
  | t :: l, i, e, h => by
    unfold yzf at h
    split at h
    · next c =>
      cases h
      have := yeq_ok c
      obtain ⟨t1, t2⟩ := t
      cases this
      exact List.mem_cons_self
    · exact List.mem_cons_of_mem _ (yzf_mem h)
theorem zdo_ev {ev : zEv} {nL : Nat} {rt : Option FieldType} {q : zEn} {fr fr' : zFr} {o : zO} (h : ∀ call : zCa, zdo zts none call nL rt q fr hp = o) (e : o = some (.inl (fr', hp'))) (call : zCa) : zdo zts ev call nL rt q fr hp = o := by
  rw [e]
  exact zdo_mono (fun _ _ _ _ k => k) ((h call).trans e)
theorem ysimL_ok {E : zHp → Prop} {M F : yM} {lz : yZ} {ev : zEv} (hE : yEF E F) (g : yG hp r S lv st) (H : yH0 hp ∧ E hp) (hv : yEv lz ev r) (hl : ywz S.1 lz) {nL : Nat} {rt : Option FieldType} {q : zEn} {L : List (Nat × yS)} (h : ysimL lz M F nL q pc S = some L) : ∃ o : zO, (∀ call : zCa, zdo zts ev call nL rt q (pc, lv, st) hp = o) ∧ yW E M hp r S.1 L o := by
  have old : ysim M F nL q pc S = some L → ∃ o : zO, (∀ call : zCa, zdo zts ev call nL rt q (pc, lv, st) hp = o) ∧ yW E M hp r S.1 L o := by
    intro k
    obtain ⟨o, h1, h2⟩ := ysim_ok (rt := rt) hE g H k
    obtain ⟨fr', hp2, e, h3⟩ := h2
    exact ⟨o, fun call => zdo_ev h1 e call, fr', hp2, e, h3⟩
  unfold ysimL at h
  split at h
  · exact old h
  · next l =>
    obtain ⟨n, f, rfl, hn, hn2, hn3⟩ := hv
    have ref : ∀ {v : yV} {w : Value}, v.1 = 2 → yrg S.2.1 v.2.1 = some (1000, 1000) → yv hp.1 r v w → w = .ref (1000 : Nat) := by
      intro v w e1 e2 e3
      have bb := yrg_ok g.1 e2
      have b1 : (1000 : Int) ≤ yev r v.2.1 := bb.1
      have b2 : yev r v.2.1 ≤ 1000 := bb.2
      unfold yv at e3
      rw [e1] at e3
      rcases e3 with ⟨e3, -⟩ | ⟨e3, e4⟩
      · omega
      · rw [e4]
        exact congrArg Value.ref (show (yev r v.2.1).toNat = 1000 by omega)
    split at h
    · next v s hi hs =>
      split at h
      · next c =>
        cases h
        obtain ⟨ins, len, a, b, v0⟩ := q
        have hi : ins = .arraylength := hi
        subst hi
        have g5 := g.2.2.2.2
        rw [hs] at g5
        obtain ⟨w, m, rfl, ⟨ww, hw⟩, gm⟩ := ystk_cons g5
        have e := ref c.1 c.2 hw
        subst e
        refine ⟨zn (pc + 1) lv (.int (Int32.ofNat n) :: m) hp, fun call => rfl, yW_D H (yD1 rfl (yag_refl _ _) (Nat.le_refl _) (yG_st g ⟨⟨ywI (hl l rfl).1, yvI ?_⟩, gm⟩))⟩
        rw [← hn]
        exact Int32.toInt_ofNat_of_lt (by omega)
      · exact old h
    · next j v s hi hs =>
      split at h
      · next c =>
        split at h
        · next k =>
          split at h
          case h_2 => cases h
          next e he =>
          cases h
          obtain ⟨ins, len, a, b, v0⟩ := q
          have hi : ins = .iaload := hi
          subst hi
          have g5 := g.2.2.2.2
          rw [hs] at g5
          obtain ⟨u1, m1, rfl, ⟨w1, hu1⟩, g6⟩ := ystk_cons g5
          obtain ⟨u2, m, rfl, ⟨w2, hu2⟩, g7⟩ := ystk_cons g6
          obtain ⟨x, rfl, hx⟩ := yvI' k.1 hu1
          have er := ref c.1 c.2 hu2
          subst er
          have p1 := yprv_ok g.1 g.2.1 k.2.1
          have p2 := yprv_ok g.1 g.2.1 k.2.2
          rw [yxl_ok] at p1
          rw [yadd_ok, yxl_ok, yadd_ok, yxl_ok] at p2
          have e1 : yex r (([] : List (Int × Nat)), (-1 : Int)) = -1 := rfl
          rw [e1] at p2
          obtain ⟨i1, i2⟩ := yix (n := n) hx (by omega)
          have mem := yzf_mem he
          refine ⟨zn (pc + 1) lv (.int (f x.toNatClampNeg) :: m) hp, fun call => ?_, yW_D H (yD1 rfl (yag_refl _ _) (Nat.le_refl _) (yG_st g ⟨⟨ywI ((hl l rfl).2 _ mem).2, yvI (by rw [i2]; exact hn3 _ mem)⟩, g7⟩))⟩
          show (if ¬ (x < 0 ∨ n ≤ x.toNatClampNeg) then zn (pc + 1) lv (.int (f x.toNatClampNeg) :: m) hp else none) = _
          rw [if_pos i1]
        · cases h
      · exact old h
    · exact old h
def yOt (ev : zEv) (E : zHp → Prop) (d : Nat) (x : yCx) (hp0 : zHp) (r0 : Nat → Int) (fr : zFr) (hp : zHp) : Prop := ∃ z : zRe, zR ev d x.2.2.2.1 x.2.2.2.2.1 x.2.2.2.2.2.1 fr hp z ∧ yPo E x.2.1 hp0 r0 x.2.2.2.2.2.2.1 x.2.2.2.2.2.2.2.1 z
theorem yend_ok {E : zHp → Prop} {x : yCx} {hp0 : zHp} {r0 : Nat → Int} (hQ : ∀ q ∈ x.2.2.2.2.2.2.2.1, ywf q = true ∧ x.2.2.2.2.2.2.1 ≤ q.1) (g : yG hp r S lv st) (H : yH0 hp ∧ E hp) (hf : yF x.2.1 hp0 hp) (ha : yag x.2.2.2.2.2.2.1 r0 r) (hn : x.2.2.2.2.2.2.1 ≤ S.1) (h : yend x S = true) {rv : Option Value} (hrv : rv.toList = st) : yPo E x.2.1 hp0 r0 x.2.2.2.2.2.2.1 x.2.2.2.2.2.2.2.1 (rv, hp) := by
  unfold yend at h
  rw [List.any_eq_true] at h
  obtain ⟨q, hq, h⟩ := h
  dsimp only at h
  have g0 : yG hp r (S.1, S.2.1, S.2.2.1, S.2.2.2.1, [], S.2.2.2.2.2) [] st := ⟨g.1, g.2.1, g.2.2.1, (fun i a e => by cases e), g.2.2.2.2⟩
  obtain ⟨r2, a1, a2, a3, a4⟩ := yplcs_ok H.1 (l := q.2.2.2.1) g0
  have k := hQ q hq
  have g1 := ymt_ok a4 k.1 h
  rw [← hrv] at g1
  exact ⟨H, hf, q, hq, _, fun s hs => by rw [yrs_ag _ _ _ s hs, a1 s (Nat.lt_of_lt_of_le hs hn), ha s hs], k.2, g1⟩
theorem ycut_ok {E : zHp → Prop} {x : yCx} {R0 : Option yX} (hC : ∀ c ∈ x.2.2.2.2.2.2.2.2.1, ywf c.2.1 = true ∧ x.2.2.2.2.2.2.1 ≤ c.2.1.1) (g : yG hp r S lv st) (H : yH0 hp ∧ E hp) {r0 : Nat → Int} (ha : yag x.2.2.2.2.2.2.1 r0 r) (hn : x.2.2.2.2.2.2.1 ≤ S.1) (hR : ∀ R, R0 = some R → ∀ t ∈ R.1, t.2 < S.1) (h : ycut x R0 pc S = true) :
    ∃ c ∈ x.2.2.2.2.2.2.2.2.1, c.1 = pc ∧ ∃ r2, yag x.2.2.2.2.2.2.1 r0 r2 ∧ yG hp r2 c.2.1 lv st ∧ ∀ R, R0 = some R → yex r2 c.2.2 < yex r R := by
  unfold ycut at h
  rw [List.any_eq_true] at h
  obtain ⟨c, hc, h⟩ := h
  rw [Bool.and_eq_true] at h
  obtain ⟨h1, h⟩ := h
  dsimp only at h
  rw [Bool.and_eq_true] at h
  obtain ⟨r2, a1, a2, a3, a4⟩ := yplcs_ok H.1 (l := c.2.1.2.2.2.1) g
  have g1 := ymt_ok a4 (hC c hc).1 h.1
  rw [Bool.and_eq_true] at h1
  refine ⟨c, hc, by simpa using h1.1, _, fun s hs => ?_, g1, fun R hR0 => ?_⟩
  · rw [yrs_ag _ _ _ s hs, a1 s (Nat.lt_of_lt_of_le hs hn), ha s hs]
  · have h2 := h.2
    rw [hR0] at h2
    dsimp only at h2
    have k := yprv_ok a4.1 a4.2.1 h2
    rw [yadd_ok, ysubx_ok, yadd_ok] at k
    have e1 : yex r2 (([] : List (Int × Nat)), (-1 : Int)) = -1 := rfl
    rw [e1] at k
    have e2 : yex r2 R = yex r R := by
      unfold yex
      rw [yxs_ag a1 (hR R hR0)]
    have e3 : yex (yrs x.2.2.2.2.2.2.1 (ybn x.2.2.2.2.2.2.1 c.2.1 (yplcs S c.2.1.2.2.2.1)) r2) c.2.2 = yxs (yrs x.2.2.2.2.2.2.1 (ybn x.2.2.2.2.2.2.1 c.2.1 (yplcs S c.2.1.2.2.2.1)) r2) c.2.2.1 + c.2.2.2 := rfl
    omega
/-- what a check of a method gives: a run from any state that it knows -/
theorem ystp_ok {lz : yZ} {ev : zEv} {E : zHp → Prop} {d : Nat} {x : yCx} (hE : yEF E x.2.2.1) (hs : ∀ sp ∈ x.1, yTr E d sp ∧ ywf sp.2.2.1 = true) (hQ : ∀ q ∈ x.2.2.2.2.2.2.2.1, ywf q = true ∧ x.2.2.2.2.2.2.1 ≤ q.1) {hp0 : zHp} {r0 : Nat → Int} {rec : Nat → yS → Bool} {n0 : Nat}
    (ih : ∀ (pc : Nat) (S : yS) (r : Nat → Int) (hp : zHp) (lv : List (Nat × Value)) (st : List Value), rec pc S = true → yG hp r S lv st → (yH0 hp ∧ E hp) → yF x.2.1 hp0 hp → yag n0 r0 r → n0 ≤ S.1 → yOt ev E d x hp0 r0 (pc, lv, st) hp)
    (g : yG hp r S lv st) (H : yH0 hp ∧ E hp) (hf : yF x.2.1 hp0 hp) (hp0n : x.2.2.2.2.2.2.1 ≤ n0) (ha : yag n0 r0 r) (hlw : ywz n0 lz) (hev : yEv lz ev r0) (hn : n0 ≤ S.1) (h : ystp lz rec x pc S = true) : yOt ev E d x hp0 r0 (pc, lv, st) hp := by
  unfold ystp at h
  split at h
  · cases h
  · next q hq =>
    have hap : yag x.2.2.2.2.2.2.1 r0 r := fun s z => ha s (Nat.lt_of_lt_of_le z hp0n)
    have hnp : x.2.2.2.2.2.2.1 ≤ S.1 := Nat.le_trans hp0n hn
    have hev2 : yEv lz ev r := yEv_ag hlw ha hev
    have hlz : ywz S.1 lz := fun q e => ⟨yw_le hn (hlw q e).1, fun t ht => ⟨yw_le hn ((hlw q e).2 t ht).1, yw_le hn ((hlw q e).2 t ht).2⟩⟩
    have sim : ∀ {L : List (Nat × yS)}, ysimL lz x.2.1 x.2.2.1 x.2.2.2.1 q pc S = some L → L.all (fun t => rec t.1 t.2) = true → yOt ev E d x hp0 r0 (pc, lv, st) hp := by
      intro L hL hA
      obtain ⟨o, ho, fr', hp', e1, H', F', t, ht, et, r2, a1, a2, g2⟩ := ysimL_ok (rt := x.2.2.2.2.1) hE g H hev2 hlz hL
      have k := List.all_eq_true.mp hA t ht
      obtain ⟨z, hz, hz2⟩ := ih t.1 t.2 r2 hp' fr'.2.1 fr'.2.2 k g2 H' (yF_trans hf F') (fun s hs => (a1 s (Nat.lt_of_lt_of_le hs hn)).trans (ha s hs)) (Nat.le_trans hn a2)
      refine ⟨z, r_s (fr' := fr') hq (fun call => (ho call).trans e1) F'.1 ?_, hz2⟩
      rw [et] at hz
      exact hz
    have simd : (match ysimL lz x.2.1 x.2.2.1 x.2.2.2.1 q pc S with
      | some L => L.all (fun t => rec t.1 t.2)
      | none => false) = true → yOt ev E d x hp0 r0 (pc, lv, st) hp := by
      intro k
      split at k
      · next L hL => exact sim hL k
      · cases k
    obtain ⟨ins, len, a, b, v⟩ := q
    dsimp only at h
    split at h
    · rw [Bool.and_eq_true] at h
      have h1 := h.1
      unfold yrtI at h1
      split at h1
      · next ty w hrt hst =>
        rw [Bool.and_eq_true] at h1
        have g5 := g.2.2.2.2
        rw [hst] at g5
        obtain ⟨u, m, rfl, ⟨ww, hu⟩, gm⟩ := ystk_cons g5
        have := ystk_nil gm
        subst this
        obtain ⟨y, rfl, hy⟩ := yvI' (by simpa using h1.1) hu
        have nar : narrow ty (.int y) = .int y := by
          have h2 := h1.2
          split at h2
          · next p hp1 =>
            have bb := yrg_ok g.1 hp1
            exact ynok_ok h2 (by omega) (by omega)
          · cases h2
        refine ⟨(some (.int y), hp), r_ret hq rfl (fun call => ?_), yend_ok hQ g H hf hap hnp h.2 rfl⟩
        show zIret x.2.2.2.2.1 (pc, lv, [.int y]) hp = _
        rw [hrt]
        unfold zIret
        dsimp only
        rw [if_pos nar]
      · cases h1
    · rw [Bool.and_eq_true] at h
      have h1 := h.1
      unfold yrtL at h1
      split at h1
      · next w hrt hst =>
        have g5 := g.2.2.2.2
        rw [hst] at g5
        obtain ⟨u, m, rfl, ⟨ww, hu⟩, gm⟩ := ystk_cons g5
        have := ystk_nil gm
        subst this
        obtain ⟨y, rfl, hy⟩ := yvL' (by simpa using h1) hu
        refine ⟨(some (.long y), hp), r_ret hq rfl (fun call => ?_), yend_ok hQ g H hf hap hnp h.2 rfl⟩
        show zLret x.2.2.2.2.1 (pc, lv, [.long y]) hp = _
        rw [hrt]
        rfl
      · cases h1
    · rw [Bool.and_eq_true] at h
      have h1 := h.1
      unfold yrtV at h1
      split at h1
      · next hrt hst =>
        have g5 := g.2.2.2.2
        rw [hst] at g5
        have := ystk_nil g5
        subst this
        refine ⟨(none, hp), r_ret hq rfl (fun call => ?_), yend_ok hQ g H hf hap hnp h.2 rfl⟩
        show zVret x.2.2.2.2.1 (pc, lv, []) hp = _
        rw [hrt]
        rfl
      · cases h1
    · next i =>
      rw [Bool.and_eq_true] at h
      obtain ⟨hb0, h⟩ := h
      have hb0 : b = 0 := of_decide_eq_true hb0
      subst hb0
      split at h
      · next w rest hd =>
        simp only [Bool.and_eq_true, decide_eq_true_eq] at h
        obtain ⟨h1, h2, h3, h4⟩ := h
        obtain ⟨k1, k2, k3⟩ := ystk_take (k := (zar a).1) g.2.2.2.2
        rw [hd] at k2
        obtain ⟨u, m, em, ⟨ww, hu⟩, gm⟩ := ystk_cons k2
        obtain ⟨ix, rfl, hkd⟩ := yknd_ok g H.1 ww hu h2
        split at h4
        · next R hR =>
          obtain ⟨z, z1, zH, zF, T, hT, r2, a1, a2, g2⟩ := ytry2_ok (lv := lv) H (yG_st g trivial) (args := w :: (S.2.2.2.2.2.take (zar a).1).reverse) (as := .ref ix :: (st.take (zar a).1).reverse) (rest := rest) (m := m) ⟨⟨ww, hu⟩, ystk_rev k1⟩ gm hs hR
          have k := List.all_eq_true.mp h4 T hT
          obtain ⟨y, hy, hy2⟩ := ih (pc + 3) T r2 z.2 lv (z.1.toList ++ m) k g2 zH (yF_trans hf zF) (fun s hs => (a1 s (Nat.lt_of_lt_of_le hs hn)).trans (ha s hs)) (Nat.le_trans hn a2)
          refine ⟨y, r_call (hp' := z.2) (rv := z.1) (n := (zar a).1) (ci := (zar a).2) hq rfl em rfl ?_ hkd ?_ z1 zF.1 hy, hy2⟩
          · rw [List.length_take, k3]
            rw [List.length_take] at h1
            exact h1
          · rw [ysl_ok gm]
            exact h3
        · cases h4
      · cases h
    · next i =>
      split at h
      · next hb =>
        have hb : b = 1 := hb
        subst hb
        simp only [Bool.and_eq_true, decide_eq_true_eq] at h
        obtain ⟨h1, h3, h4⟩ := h
        obtain ⟨k1, k2, k3⟩ := ystk_take (k := (zar a).1) g.2.2.2.2
        split at h4
        · next R hR =>
          obtain ⟨z, z1, zH, zF, T, hT, r2, a1, a2, g2⟩ := ytry2_ok (lv := lv) H (yG_st g trivial) (args := (S.2.2.2.2.2.take (zar a).1).reverse) (as := (st.take (zar a).1).reverse) (rest := S.2.2.2.2.2.drop (zar a).1) (m := st.drop (zar a).1) (ystk_rev k1) k2 hs hR
          have k := List.all_eq_true.mp h4 T hT
          obtain ⟨y, hy, hy2⟩ := ih (pc + 3) T r2 z.2 lv (z.1.toList ++ st.drop (zar a).1) k g2 zH (yF_trans hf zF) (fun s hs => (a1 s (Nat.lt_of_lt_of_le hs hn)).trans (ha s hs)) (Nat.le_trans hn a2)
          refine ⟨y, r_callS (hp' := z.2) (rv := z.1) (n := (zar a).1) (ci := (zar a).2) hq rfl rfl rfl ?_ ?_ z1 zF.1 hy, hy2⟩
          · rw [List.length_take, k3]
            rw [List.length_take] at h1
            exact h1
          · rw [ysl_ok k2]
            exact h3
        · cases h4
      · exact simd h
    · exact simd h
theorem yexec_ok {lz : yZ} {ev : zEv} {E : zHp → Prop} {d : Nat} {x : yCx} (hE : yEF E x.2.2.1) (hs : ∀ sp ∈ x.1, yTr E d sp ∧ ywf sp.2.2.1 = true) (hQ : ∀ q ∈ x.2.2.2.2.2.2.2.1, ywf q = true ∧ x.2.2.2.2.2.2.1 ≤ q.1) (hC : ∀ c ∈ x.2.2.2.2.2.2.2.2.1, ywf c.2.1 = true ∧ x.2.2.2.2.2.2.1 ≤ c.2.1.1) {hp0 : zHp} {r0 : Nat → Int} {rb : Nat → Int} {n0 : Nat} {R0 : Option yX} (hn0 : x.2.2.2.2.2.2.1 ≤ n0) (hR : ∀ R, R0 = some R → ∀ t ∈ R.1, t.2 < n0) (hrb : yag x.2.2.2.2.2.2.1 r0 rb) (hlw : ywz n0 lz) (hev : yEv lz ev rb)
    (hcut : ∀ c ∈ x.2.2.2.2.2.2.2.2.1, ∀ (r2 : Nat → Int) (hp : zHp) (lv : List (Nat × Value)) (st : List Value), yG hp r2 c.2.1 lv st → (yH0 hp ∧ E hp) → yF x.2.1 hp0 hp → yag x.2.2.2.2.2.2.1 r0 r2 → (∀ R, R0 = some R → yex r2 c.2.2 < yex rb R) → yOt ev E d x hp0 r0 (c.1, lv, st) hp) :
    ∀ (f : Nat) (pc : Nat) (S : yS) (r : Nat → Int) (hp : zHp) (lv : List (Nat × Value)) (st : List Value), yexec lz x R0 f pc S = true → yG hp r S lv st → (yH0 hp ∧ E hp) → yF x.2.1 hp0 hp → yag n0 rb r → n0 ≤ S.1 → yOt ev E d x hp0 r0 (pc, lv, st) hp := by
  intro f
  induction f with
  | zero => intro pc S r hp lv st h; cases h
  | succ f ih =>
    intro pc S r hp lv st h g H hf ha hn
    have hap : yag x.2.2.2.2.2.2.1 r0 r := fun s z => (ha s (Nat.lt_of_lt_of_le z hn0)).trans (hrb s z)
    unfold yexec at h
    rw [Bool.or_eq_true] at h
    rcases h with h | h
    · obtain ⟨c, hc, rfl, r2, a1, g2, a2⟩ := ycut_ok (r0 := r0) hC g H hap (Nat.le_trans hn0 hn) (fun R hR0 t ht => Nat.lt_of_lt_of_le (hR R hR0 t ht) hn) h
      refine hcut c hc r2 hp lv st g2 H hf a1 (fun R hR0 => ?_)
      have e : yex r R = yex rb R := by
        unfold yex
        rw [yxs_ag ha (hR R hR0)]
      rw [← e]
      exact a2 R hR0
    · obtain ⟨T, hT, r2, a1, a2, g2⟩ := yspl_ok g H.1 x pc
      have k := List.all_eq_true.mp h T hT
      -- rb stands for the entry's reading here: agreement below the entry's symbols is carried by r0
      have ih2 : ∀ (pc : Nat) (S : yS) (r : Nat → Int) (hp : zHp) (lv : List (Nat × Value)) (st : List Value), yexec lz x R0 f pc S = true → yG hp r S lv st → (yH0 hp ∧ E hp) → yF x.2.1 hp0 hp → yag n0 (fun s => if s < x.2.2.2.2.2.2.1 then r0 s else rb s) r → n0 ≤ S.1 → yOt ev E d x hp0 r0 (pc, lv, st) hp := by
        intro pc S r hp lv st q1 q2 q3 q4 q5 q6
        refine ih pc S r hp lv st q1 q2 q3 q4 (fun s hs => ?_) q6
        rw [q5 s hs]
        by_cases c : s < x.2.2.2.2.2.2.1
        · show (if s < x.2.2.2.2.2.2.1 then r0 s else rb s) = rb s
          rw [if_pos c, hrb s c]
        · show (if s < x.2.2.2.2.2.2.1 then r0 s else rb s) = rb s
          rw [if_neg c]
      have hev3 : yEv lz ev (fun s => if s < x.2.2.2.2.2.2.1 then r0 s else rb s) := yEv_ag hlw (fun s hs => by
        by_cases c : s < x.2.2.2.2.2.2.1
        · show (if s < x.2.2.2.2.2.2.1 then r0 s else rb s) = rb s
          rw [if_pos c, hrb s c]
        · show (if s < x.2.2.2.2.2.2.1 then r0 s else rb s) = rb s
          rw [if_neg c]) hev
      have := ystp_ok (r0 := fun s => if s < x.2.2.2.2.2.2.1 then r0 s else rb s) (n0 := n0) hE hs hQ (hp0 := hp0) (rec := yexec lz x R0 f) (fun pc S r hp lv st q1 q2 q3 q4 q5 q6 => by
        obtain ⟨z, z1, z2, z3, q, z4, r3, z5, z6⟩ := ih2 pc S r hp lv st q1 q2 q3 q4 q5 q6
        exact ⟨z, z1, z2, z3, q, z4, r3, fun s hs => by rw [z5 s hs]; exact (if_pos hs).symm, z6⟩) g2 H hf hn0 (fun s hs => by
          rw [a1 s (Nat.lt_of_lt_of_le hs hn), ha s hs]
          by_cases c : s < x.2.2.2.2.2.2.1
          · show rb s = (if s < x.2.2.2.2.2.2.1 then r0 s else rb s)
            rw [if_pos c, hrb s c]
          · show rb s = (if s < x.2.2.2.2.2.2.1 then r0 s else rb s)
            rw [if_neg c]) hlw hev3 (Nat.le_trans hn a2) k
      obtain ⟨z, z1, z2, z3, q, z4, r3, z5, z6⟩ := this
      exact ⟨z, z1, z2, z3, q, z4, r3, fun s hs => by rw [z5 s hs]; exact if_pos hs, z6⟩
theorem yexecO_ok {O : List (Nat × yS)} {lz : yZ} {ev : zEv} {E : zHp → Prop} {d : Nat} {x : yCx} (hE : yEF E x.2.2.1) (hs : ∀ sp ∈ x.1, yTr E d sp ∧ ywf sp.2.2.1 = true) (hQ : ∀ q ∈ x.2.2.2.2.2.2.2.1, ywf q = true ∧ x.2.2.2.2.2.2.1 ≤ q.1) (hC : ∀ c ∈ x.2.2.2.2.2.2.2.2.1, ywf c.2.1 = true ∧ x.2.2.2.2.2.2.1 ≤ c.2.1.1) {hp0 : zHp} {r0 : Nat → Int} {rb : Nat → Int} {n0 : Nat} {R0 : Option yX} (hn0 : x.2.2.2.2.2.2.1 ≤ n0) (hR : ∀ R, R0 = some R → ∀ t ∈ R.1, t.2 < n0) (hrb : yag x.2.2.2.2.2.2.1 r0 rb) (hlw : ywz n0 lz) (hev : yEv lz ev rb)
    (hcut : ∀ c ∈ x.2.2.2.2.2.2.2.2.1, ∀ (r2 : Nat → Int) (hp : zHp) (lv : List (Nat × Value)) (st : List Value), yG hp r2 c.2.1 lv st → (yH0 hp ∧ E hp) → yF x.2.1 hp0 hp → yag x.2.2.2.2.2.2.1 r0 r2 → (∀ R, R0 = some R → yex r2 c.2.2 < yex rb R) → yOt ev E d x hp0 r0 (c.1, lv, st) hp) :
    (∀ o ∈ O, ywf o.2 = true ∧ ∀ (r : Nat → Int) (hp : zHp) (lv : List (Nat × Value)) (st : List Value), yG hp r o.2 lv st → (yH0 hp ∧ E hp) → yF x.2.1 hp0 hp → yag n0 rb r → n0 ≤ o.2.1 → yOt ev E d x hp0 r0 (o.1, lv, st) hp) → ∀ (f : Nat) (pc : Nat) (S : yS) (r : Nat → Int) (hp : zHp) (lv : List (Nat × Value)) (st : List Value), yexecO lz x R0 O f pc S = true → yG hp r S lv st → (yH0 hp ∧ E hp) → yF x.2.1 hp0 hp → yag n0 rb r → n0 ≤ S.1 → yOt ev E d x hp0 r0 (pc, lv, st) hp := by
  intro hO f
  induction f with
  | zero => intro pc S r hp lv st h; cases h
  | succ f ih =>
    intro pc S r hp lv st h g H hf ha hn
    have hap : yag x.2.2.2.2.2.2.1 r0 r := fun s z => (ha s (Nat.lt_of_lt_of_le z hn0)).trans (hrb s z)
    unfold yexecO at h
    rw [Bool.or_eq_true, Bool.or_eq_true] at h
    rcases h with h | h | h
    · rw [List.any_eq_true] at h
      obtain ⟨o, ho, h⟩ := h
      simp only [Bool.and_eq_true, beq_iff_eq] at h
      obtain ⟨h1, h2, h3⟩ := h
      subst h1
      obtain ⟨k1, k2⟩ := hO o ho
      have g1 := ymt_ok g k1 h3
      exact k2 _ hp lv st g1 H hf (fun s hs => (yrs_ag S.1 [] r s (Nat.lt_of_lt_of_le hs hn)).trans (ha s hs)) (by rw [h2]; exact hn)
    · obtain ⟨c, hc, rfl, r2, a1, g2, a2⟩ := ycut_ok (r0 := r0) hC g H hap (Nat.le_trans hn0 hn) (fun R hR0 t ht => Nat.lt_of_lt_of_le (hR R hR0 t ht) hn) h
      refine hcut c hc r2 hp lv st g2 H hf a1 (fun R hR0 => ?_)
      have e : yex r R = yex rb R := by
        unfold yex
        rw [yxs_ag ha (hR R hR0)]
      rw [← e]
      exact a2 R hR0
    · obtain ⟨T, hT, r2, a1, a2, g2⟩ := yspl_ok g H.1 x pc
      have k := List.all_eq_true.mp h T hT
      -- rb stands for the entry's reading here: agreement below the entry's symbols is carried by r0
      have ih2 : ∀ (pc : Nat) (S : yS) (r : Nat → Int) (hp : zHp) (lv : List (Nat × Value)) (st : List Value), yexecO lz x R0 O f pc S = true → yG hp r S lv st → (yH0 hp ∧ E hp) → yF x.2.1 hp0 hp → yag n0 (fun s => if s < x.2.2.2.2.2.2.1 then r0 s else rb s) r → n0 ≤ S.1 → yOt ev E d x hp0 r0 (pc, lv, st) hp := by
        intro pc S r hp lv st q1 q2 q3 q4 q5 q6
        refine ih pc S r hp lv st q1 q2 q3 q4 (fun s hs => ?_) q6
        rw [q5 s hs]
        by_cases c : s < x.2.2.2.2.2.2.1
        · show (if s < x.2.2.2.2.2.2.1 then r0 s else rb s) = rb s
          rw [if_pos c, hrb s c]
        · show (if s < x.2.2.2.2.2.2.1 then r0 s else rb s) = rb s
          rw [if_neg c]
      have hev3 : yEv lz ev (fun s => if s < x.2.2.2.2.2.2.1 then r0 s else rb s) := yEv_ag hlw (fun s hs => by
        by_cases c : s < x.2.2.2.2.2.2.1
        · show (if s < x.2.2.2.2.2.2.1 then r0 s else rb s) = rb s
          rw [if_pos c, hrb s c]
        · show (if s < x.2.2.2.2.2.2.1 then r0 s else rb s) = rb s
          rw [if_neg c]) hev
      have := ystp_ok (r0 := fun s => if s < x.2.2.2.2.2.2.1 then r0 s else rb s) (n0 := n0) hE hs hQ (hp0 := hp0) (rec := yexecO lz x R0 O f) (fun pc S r hp lv st q1 q2 q3 q4 q5 q6 => by
        obtain ⟨z, z1, z2, z3, q, z4, r3, z5, z6⟩ := ih2 pc S r hp lv st q1 q2 q3 q4 q5 q6
        exact ⟨z, z1, z2, z3, q, z4, r3, fun s hs => by rw [z5 s hs]; exact (if_pos hs).symm, z6⟩) g2 H hf hn0 (fun s hs => by
          rw [a1 s (Nat.lt_of_lt_of_le hs hn), ha s hs]
          by_cases c : s < x.2.2.2.2.2.2.1
          · show rb s = (if s < x.2.2.2.2.2.2.1 then r0 s else rb s)
            rw [if_pos c, hrb s c]
          · show rb s = (if s < x.2.2.2.2.2.2.1 then r0 s else rb s)
            rw [if_neg c]) hlw hev3 (Nat.le_trans hn a2) k
      obtain ⟨z, z1, z2, z3, q, z4, r3, z5, z6⟩ := this
      exact ⟨z, z1, z2, z3, q, z4, r3, fun s hs => by rw [z5 s hs]; exact if_pos hs, z6⟩
theorem ylg_len (as : List Value) : (lg_sl as).length = (as.map fun v => v.category).sum := by
  induction as with
  | nil => rfl
  | cons v t ih =>
    have e : lg_sl (v :: t) = (if v.category = 2 then [.val v, .second] else [.val v]) ++ lg_sl t := rfl
    rw [e, List.length_append, ih, List.map_cons, List.sum_cons]
    cases v <;> rfl
theorem ywz_none (n : Nat) : ywz n none := fun q e => by cases e
/-- a method that the checker accepts does what its spec says -/
theorem yver_ok {E : zHp → Prop} {d k : Nat} {x : yCx} {P : yS} {f : Nat} (hE : yEF E x.2.2.1) (hs : ∀ sp ∈ x.1, yTr E d sp ∧ ywf sp.2.2.1 = true) (hm : zg zms k = some (x.2.2.2.1, x.2.2.2.2.1, x.2.2.2.2.2.1)) (h : yver x P f = true) : yTr E (d + 1) (k, x.2.2.2.1, P, x.2.2.2.2.2.2.2.1, x.2.1) := by
  unfold yver at h
  simp only [Bool.and_eq_true, decide_eq_true_eq] at h
  obtain ⟨h1, h2, h3, h4, h5, h6⟩ := h
  have hQ : ∀ q ∈ x.2.2.2.2.2.2.2.1, ywf q = true ∧ x.2.2.2.2.2.2.1 ≤ q.1 := by
    intro q hq
    have := List.all_eq_true.mp h4 q hq
    simp only [Bool.and_eq_true, decide_eq_true_eq] at this
    exact ⟨this.1, by rw [h2]; exact this.2.1⟩
  have hC5 : ∀ c ∈ x.2.2.2.2.2.2.2.2.1, ywf c.2.1 = true ∧ P.1 ≤ c.2.1.1 ∧ yge0 c.2.1.2.1 c.2.2 = true ∧ (∀ t ∈ c.2.2.1, t.2 < c.2.1.1) ∧ (yspl x c.1 c.2.1).all (ystp none (yexec none x (some c.2.2) f) x c.1) = true := by
    intro c hc
    have := List.all_eq_true.mp h5 c hc
    simp only [Bool.and_eq_true, decide_eq_true_eq] at this
    obtain ⟨k1, k2, k3, k4, k5⟩ := this
    exact ⟨k1, k2, k3, fun t ht => of_decide_eq_true (List.all_eq_true.mp k4 t ht), k5⟩
  have hC : ∀ c ∈ x.2.2.2.2.2.2.2.2.1, ywf c.2.1 = true ∧ x.2.2.2.2.2.2.1 ≤ c.2.1.1 := fun c hc => ⟨(hC5 c hc).1, by rw [h2]; exact (hC5 c hc).2.1⟩
  intro hp r as H g hl hlen
  have g : yG hp r P (lv_args 0 as) [] := g
  -- from each cut, by what falls
  have cuts : ∀ (n : Nat), ∀ c ∈ x.2.2.2.2.2.2.2.2.1, ∀ (r2 : Nat → Int) (hp2 : zHp) (lv : List (Nat × Value)) (st : List Value), yG hp2 r2 c.2.1 lv st → (yH0 hp2 ∧ E hp2) → yF x.2.1 hp hp2 → yag x.2.2.2.2.2.2.1 r r2 → yex r2 c.2.2 < (n : Int) → yOt none E d x hp r (c.1, lv, st) hp2 := by
    intro n
    induction n with
    | zero =>
      intro c hc r2 hp2 lv st gc _ _ _ hr
      have := yge0_ok gc.1 (hC5 c hc).2.2.1
      omega
    | succ n ih =>
      intro c hc r2 hp2 lv st gc Hc fc ac hr
      obtain ⟨k1, k2, k3, k4, k5⟩ := hC5 c hc
      obtain ⟨T, hT, r3, a1, a2, g3⟩ := yspl_ok gc Hc.1 x c.1
      have kT := List.all_eq_true.mp k5 T hT
      have hn0 : x.2.2.2.2.2.2.1 ≤ c.2.1.1 := (hC c hc).2
      have ex := yexec_ok (lz := none) (ev := none) (x := x) hE hs hQ hC (hp0 := hp) (r0 := r) (rb := r2) (n0 := c.2.1.1) (R0 := some c.2.2) hn0 (fun R hR => by cases hR; exact k4) ac (ywz_none _) trivial (fun c2 hc2 r4 hp4 lv4 st4 g4 H4 f4 a4 q4 => ih c2 hc2 r4 hp4 lv4 st4 g4 H4 f4 a4 (by have := q4 c.2.2 rfl; omega)) f
      have st := ystp_ok (lz := none) (ev := none) (r0 := r2) (n0 := c.2.1.1) hE hs hQ (hp0 := hp) (rec := yexec none x (some c.2.2) f) (fun pc S r5 hp5 lv5 st5 q1 q2 q3 q4 q5 q6 => by
        obtain ⟨z, z1, z2, z3, q, z4, r6, z5, z6⟩ := ex pc S r5 hp5 lv5 st5 q1 q2 q3 q4 q5 q6
        exact ⟨z, z1, z2, z3, q, z4, r6, fun s hs => by rw [z5 s hs, ac s hs], z6⟩) g3 Hc fc hn0 a1 (ywz_none _) trivial a2 kT
      obtain ⟨z, z1, z2, z3, q, z4, r6, z5, z6⟩ := st
      exact ⟨z, z1, z2, z3, q, z4, r6, fun s hs => by rw [z5 s hs, ac s hs], z6⟩
  obtain ⟨z, z1, z2⟩ := yexec_ok (lz := none) (ev := none) (x := x) hE hs hQ hC (hp0 := hp) (r0 := r) (rb := r) (n0 := P.1) (R0 := none) (Nat.le_of_eq h2) (fun R hR => by cases hR) (yag_refl _ _) (ywz_none _) trivial (fun c hc r2 hp2 lv st g2 H2 f2 a2 _ => cuts (yex r2 c.2.2 + 1).toNat c hc r2 hp2 lv st g2 H2 f2 a2 (by have := yge0_ok g2.1 (hC5 c hc).2.2.1; omega)) f 0 P r hp (lv_args 0 as) [] h6 g H (yF_refl _ _) (yag_refl _ _) (Nat.le_refl _)
  refine ⟨z, zCan_body hm ⟨by rw [ylg_len]; exact hl, h1⟩ z2.2.1.1 z1, ?_⟩
  show yPo E x.2.1 hp r P.1 x.2.2.2.2.2.2.2.1 z
  rw [← h2]
  exact z2
/-- the law's loop: six new elements of the script at each turn -/
def ysix (C : yS) : yS := (C.1 + 6, (C.1 + 5, -2147483648, 2147483647) :: (C.1 + 4, -2147483648, 2147483647) :: (C.1 + 3, -2147483648, 2147483647) :: (C.1 + 2, -2147483648, 2147483647) :: (C.1 + 1, -2147483648, 2147483647) :: (C.1, -2147483648, 2147483647) :: C.2.1, C.2.2)
def ylz (C : yS) (s : Nat) : yZ := some ((1, 0, 0), [((1, s, 0), (1, C.1, 0)), ((1, s, 1), (1, C.1 + 1, 0)), ((1, s, 2), (1, C.1 + 2, 0)), ((1, s, 3), (1, C.1 + 3, 0)), ((1, s, 4), (1, C.1 + 4, 0)), ((1, s, 5), (1, C.1 + 5, 0))])
def ylaw (x : yCx) (P C : yS) (R : yX) (s pc0 f : Nat) (O : List (Nat × yS)) : Bool :=
  decide (x.2.2.2.2.2.2.1 = 1) && (decide (P.1 = 1) && (decide (1 ≤ C.1) && (decide (s < C.1) && (x.2.2.2.2.2.2.2.1.all (fun q => ywf q && decide (1 ≤ q.1)) && (ywf C && (yge0 C.2.1 R && (R.1.all (fun t => decide (t.2 < C.1)) && (ystp (ylz C s) (yexecO (ylz C s) x (some R) O f) x pc0 (ysix C) && (ycut x none pc0 P && O.all (fun o => ywf o.2))))))))))
theorem ylaw_ok {E : zHp → Prop} {d : Nat} {x : yCx} {P C : yS} {R : yX} {s pc0 f : Nat} {O : List (Nat × yS)} (hO : ∀ o ∈ O, yexec (ylz C s) x (some R) f o.1 o.2 = true) (hcu : x.2.2.2.2.2.2.2.2.1 = [(pc0, C, R)]) (hE : yEF E x.2.2.1) (hs : ∀ sp ∈ x.1, yTr E d sp ∧ ywf sp.2.2.1 = true) (h : ylaw x P C R s pc0 f O = true) {L : Nat} {xs : Nat → Int32} (hL : L ≤ 3072) {hp : zHp} {r : Nat → Int} {lv0 : List (Nat × Value)} (H : yH0 hp ∧ E hp) (g : yG hp r P lv0 []) (h0 : r 0 = (L : Int)) : yOt (some (L, xs)) E d x hp r (pc0, lv0, []) hp := by
  unfold ylaw at h
  simp only [Bool.and_eq_true, decide_eq_true_eq] at h
  obtain ⟨h1, h2, h3, h4, h5, h6, h7, h8, h9, h10, h11⟩ := h
  have hQ : ∀ q ∈ x.2.2.2.2.2.2.2.1, ywf q = true ∧ x.2.2.2.2.2.2.1 ≤ q.1 := by
    intro q hq
    have := List.all_eq_true.mp h5 q hq
    simp only [Bool.and_eq_true, decide_eq_true_eq] at this
    exact ⟨this.1, by rw [h1]; exact this.2⟩
  have hC : ∀ c ∈ x.2.2.2.2.2.2.2.2.1, ywf c.2.1 = true ∧ x.2.2.2.2.2.2.1 ≤ c.2.1.1 := by
    intro c hc
    rw [hcu] at hc
    rcases List.mem_cons.mp hc with rfl | hc
    · exact ⟨h6, by rw [h1]; exact h3⟩
    · cases hc
  have hRw : ∀ t ∈ R.1, t.2 < C.1 := fun t ht => of_decide_eq_true (List.all_eq_true.mp h8 t ht)
  have main : ∀ (n : Nat) (r2 : Nat → Int) (hp2 : zHp) (lv : List (Nat × Value)) (st : List Value), yG hp2 r2 C lv st → (yH0 hp2 ∧ E hp2) → yF x.2.1 hp hp2 → yag x.2.2.2.2.2.2.1 r r2 → yex r2 R < (n : Int) → yOt (some (L, xs)) E d x hp r (pc0, lv, st) hp2 := by
    intro n
    induction n with
    | zero =>
      intro r2 hp2 lv st gc _ _ _ hr
      have := yge0_ok gc.1 h7
      omega
    | succ n ih =>
      intro r2 hp2 lv st gc Hc fc ac hr
      generalize hr3 : (fun t : Nat => if t < C.1 then r2 t else (xs (yev r2 (1, s, ((t - C.1 : Nat) : Int))).toNat).toInt) = r3
      have ag : yag C.1 r2 r3 := fun t ht => by rw [← hr3]; exact if_pos ht
      have nw : ∀ k : Nat, r3 (C.1 + k) = (xs (yev r2 (1, s, (k : Int))).toNat).toInt := fun k => by
        rw [← hr3]
        show (if C.1 + k < C.1 then r2 (C.1 + k) else (xs (yev r2 (1, s, ((C.1 + k - C.1 : Nat) : Int))).toNat).toInt) = _
        rw [if_neg (by omega), show C.1 + k - C.1 = k by omega]
      have le6 : C.1 ≤ C.1 + 6 := Nat.le_add_right _ _
      have bd : ∀ k : Nat, k < 6 → C.1 + k < C.1 + 6 ∧ (-2147483648 : Int) ≤ r3 (C.1 + k) ∧ r3 (C.1 + k) ≤ 2147483647 := fun k hk => by
        rw [nw k]
        have := y32 (xs (yev r2 (1, s, (k : Int))).toNat)
        omega
      have g3 : yG hp2 r3 (ysix C) lv st := by
        refine ⟨fun e he => ?_, yGf_ag le6 ag gc.2.1, yGt_ag le6 ag gc.2.2.1, yGl_ag le6 ag gc.2.2.2.1, ystk_ag le6 ag gc.2.2.2.2⟩
        have he : e ∈ (C.1 + 5, (-2147483648 : Int), (2147483647 : Int)) :: (C.1 + 4, -2147483648, 2147483647) :: (C.1 + 3, -2147483648, 2147483647) :: (C.1 + 2, -2147483648, 2147483647) :: (C.1 + 1, -2147483648, 2147483647) :: (C.1, -2147483648, 2147483647) :: C.2.1 := he
        simp only [List.mem_cons] at he
        rcases he with rfl | rfl | rfl | rfl | rfl | rfl | he
        · exact bd 5 (by omega)
        · exact bd 4 (by omega)
        · exact bd 3 (by omega)
        · exact bd 2 (by omega)
        · exact bd 1 (by omega)
        · exact bd 0 (by omega)
        · exact yGe_ag le6 ag gc.1 e he
      have w0 : yw C.1 (1, 0, 0) := Or.inr (by show 0 < C.1; omega)
      have ws : ∀ k : Int, yw C.1 (1, s, k) := fun k => Or.inr h4
      have el : ∀ k : Nat, (xs (yev r3 (1, s, (k : Int))).toNat).toInt = yev r3 (1, C.1 + k, 0) := fun k => by
        rw [yev_ag ag (ws k)]
        show _ = 1 * r3 (C.1 + k) + 0
        rw [nw k]
        omega
      have ev : yEv (ylz C s) (some (L, xs)) r3 := by
        refine ⟨L, xs, rfl, ?_, hL, fun t ht => ?_⟩
        · rw [yev_ag ag w0]
          show (L : Int) = 1 * r2 0 + 0
          rw [ac 0 (by rw [h1]; omega), h0]
          omega
        · simp only [List.mem_cons, List.mem_nil_iff, or_false] at ht
          rcases ht with rfl | rfl | rfl | rfl | rfl | rfl
          · exact el 0
          · exact el 1
          · exact el 2
          · exact el 3
          · exact el 4
          · exact el 5
      have wz : ywz (C.1 + 6) (ylz C s) := by
        intro q hq
        cases hq
        refine ⟨yw_le le6 w0, fun t ht => ?_⟩
        simp only [List.mem_cons, List.mem_nil_iff, or_false] at ht
        rcases ht with rfl | rfl | rfl | rfl | rfl | rfl <;> exact ⟨yw_le le6 (ws _), Or.inr (by dsimp only; omega)⟩
      have ap : yag x.2.2.2.2.2.2.1 r r3 := fun t ht => (ag t (by rw [h1] at ht; omega)).trans (ac t ht)
      have hp6 : x.2.2.2.2.2.2.1 ≤ C.1 + 6 := by rw [h1]; omega
      have er : yex r3 R = yex r2 R := by
        unfold yex
        rw [yxs_ag ag hRw]
      have ex0 := yexec_ok (lz := ylz C s) (ev := some (L, xs)) (x := x) hE hs hQ hC (hp0 := hp) (r0 := r) (rb := r3) (n0 := C.1 + 6) (R0 := some R) hp6 (fun R2 hR => by cases hR; exact fun t ht => Nat.lt_of_lt_of_le (hRw t ht) le6) ap wz ev (fun c2 hc2 r4 hp4 lv4 st4 g4 H4 f4 a4 q4 => by
        rw [hcu] at hc2
        rcases List.mem_cons.mp hc2 with rfl | hc2
        · exact ih r4 hp4 lv4 st4 g4 H4 f4 a4 (by
            have k1 : yex r4 R < yex r3 R := q4 R rfl
            omega)
        · cases hc2) f
      have ex := yexecO_ok (O := O) (lz := ylz C s) (ev := some (L, xs)) (x := x) hE hs hQ hC (hp0 := hp) (r0 := r) (rb := r3) (n0 := C.1 + 6) (R0 := some R) hp6 (fun R2 hR => by cases hR; exact fun t ht => Nat.lt_of_lt_of_le (hRw t ht) le6) ap wz ev (fun c2 hc2 r4 hp4 lv4 st4 g4 H4 f4 a4 q4 => by
        rw [hcu] at hc2
        rcases List.mem_cons.mp hc2 with rfl | hc2
        · exact ih r4 hp4 lv4 st4 g4 H4 f4 a4 (by
            have k1 : yex r4 R < yex r3 R := q4 R rfl
            omega)
        · cases hc2) (fun o ho => ⟨List.all_eq_true.mp h11 o ho, fun r4 hp4 lv4 st4 g4 H4 f4 a4 n4 => ex0 o.1 o.2 r4 hp4 lv4 st4 (hO o ho) g4 H4 f4 a4 n4⟩) f
      have stp := ystp_ok (lz := ylz C s) (ev := some (L, xs)) (r0 := r3) (n0 := C.1 + 6) hE hs hQ (hp0 := hp) (rec := yexecO (ylz C s) x (some R) O f) (fun pc S r5 hp5 lv5 st5 q1 q2 q3 q4 q5 q6 => by
        obtain ⟨z, z1, z2, z3, q, z4, r6, z5, z6⟩ := ex pc S r5 hp5 lv5 st5 q1 q2 q3 q4 q5 q6
        exact ⟨z, z1, z2, z3, q, z4, r6, fun s hs => by rw [z5 s hs, ap s hs], z6⟩) g3 Hc fc hp6 (yag_refl _ _) wz ev (Nat.le_refl _) h9
      obtain ⟨z, z1, z2, z3, q, z4, r6, z5, z6⟩ := stp
      exact ⟨z, z1, z2, z3, q, z4, r6, fun s hs => by rw [z5 s hs, ap s hs], z6⟩
  obtain ⟨c, hc, ec, r2, a1, g2, -⟩ := ycut_ok (r0 := r) hC g H (yag_refl _ _) (by rw [h1, h2]; exact Nat.le_refl _) (fun R hR => by cases hR) h10
  rw [hcu] at hc
  rcases List.mem_cons.mp hc with rfl | hc
  · exact main (yex r2 R + 1).toNat r2 hp lv0 [] g2 H (yF_refl _ _) a1 (by have := yge0_ok g2.1 h7; omega)
  · cases hc
end YVER
end
section
/-! Specs by specs. -/
def yFP : yM := [(0, 0, 8), (72, 72, 1000), (74, 75, 1000), (80, 80, 0), (80, 80, 2), (81, 81, 1000), (84, 84, 0), (84, 84, 2), (85, 85, 1000)]
/-- from depth n on the spec holds -/
def yTs (E : zHp → Prop) (n : Nat) (sp : ySp) : Prop := ∀ d, n ≤ d → yTr E d sp
def yAl (E : zHp → Prop) (n : Nat) (l : List ySp) : Prop := ∀ d, n ≤ d → ∀ sp ∈ l, yTr E d sp ∧ ywf sp.2.2.1 = true
theorem yal_n {E : zHp → Prop} {n : Nat} : yAl E n [] := fun _ _ sp h => by cases h
theorem yal_c {E : zHp → Prop} {a n : Nat} {sp : ySp} {l : List ySp} (h : yTs E a sp) (ha : a ≤ n) (w : ywf sp.2.2.1 = true) (hl : yAl E n l) : yAl E n (sp :: l) := by
  intro d hd x hx
  rcases List.mem_cons.mp hx with rfl | hx
  · exact ⟨h d (Nat.le_trans ha hd), w⟩
  · exact hl d hd x hx
theorem yver_s {E : zHp → Prop} {k n : Nat} {x : yCx} {P : yS} {f : Nat} (hE : yEF E x.2.2.1) (hs : yAl E n x.1) (hm : zg zms k = some (x.2.2.2.1, x.2.2.2.2.1, x.2.2.2.2.2.1)) (h : yver x P f = true) : yTs E (n + 1) (k, x.2.2.2.1, P, x.2.2.2.2.2.2.2.1, x.2.1) := by
  intro d hd
  obtain ⟨e, rfl⟩ : ∃ e, d = e + 1 := ⟨d - 1, by omega⟩
  exact yver_ok hE (hs e (by omega)) hm h
/-- the check in pieces: all but the cuts' own runs, and each cut's -/
def yver0 (x : yCx) (P : yS) (f : Nat) : Bool :=
  decide (x.2.2.2.1 ≤ 41) && (decide (x.2.2.2.2.2.2.1 = P.1) && (P.2.2.2.2.2.isEmpty && (x.2.2.2.2.2.2.2.1.all (fun q => ywf q && (decide (P.1 ≤ q.1) && q.2.2.2.2.1.isEmpty)) && (x.2.2.2.2.2.2.2.2.1.all (fun c => ywf c.2.1 && (decide (P.1 ≤ c.2.1.1) && (yge0 c.2.1.2.1 c.2.2 && c.2.2.1.all (fun t => decide (t.2 < c.2.1.1))))) && yexec none x none f 0 P))))
def ycc (x : yCx) (f : Nat) (c : yCu) : Bool := (yspl x c.1 c.2.1).all (ystp none (yexec none x (some c.2.2) f) x c.1)
theorem yver_join {x : yCx} {P : yS} {f : Nat} (h : yver0 x P f = true) (hc : ∀ c ∈ x.2.2.2.2.2.2.2.2.1, ycc x f c = true) : yver x P f = true := by
  unfold yver0 at h
  unfold yver
  simp only [Bool.and_eq_true] at h ⊢
  obtain ⟨h1, h2, h3, h4, h5, h6⟩ := h
  refine ⟨h1, h2, h3, h4, ?_, h6⟩
  rw [List.all_eq_true] at h5 ⊢
  intro c hm
  have k := h5 c hm
  simp only [Bool.and_eq_true] at k ⊢
  exact ⟨k.1, k.2.1, k.2.2.1, k.2.2.2, hc c hm⟩
theorem ycc_n {x : yCx} {f : Nat} : ∀ c ∈ ([] : List yCu), ycc x f c = true := fun _ h => by cases h
theorem ycc_c {x : yCx} {f : Nat} {c : yCu} {l : List yCu} (h : ycc x f c = true) (hl : ∀ c ∈ l, ycc x f c = true) : ∀ d ∈ c :: l, ycc x f d = true := fun d hd => by
  rcases List.mem_cons.mp hd with rfl | hd
  · exact h
  · exact hl d hd
theorem yEF_T (F : yM) : yEF (fun _ => True) F := fun _ _ _ _ _ => trivial
/-- LTModel.keepsAct -/
def ys0 : ySp := (220, 2, (0, [], [], [], [(0, (2, yc 70, yc 0))], []), [(0, [], [], [], [], [])], [(70, 70, 25), (81, 81, 1000)])
theorem yw0 : ywf ys0.2.2.1 = true := by decide +kernel
/-- LTModel.came -/
def ys1 : ySp := (267, 3, (2, [(0, (-2147483648), 2147483647), (1, (-2147483648), 2147483647)], [], [], [(0, (2, yc 70, yc 0)), (1, (0, (1, 0, 0), yc 0)), (2, (0, (1, 1, 0), yc 0))], []), [(3, [(2, (-2147483648), 2147483647)], [], [], [], [(0, (1, 2, 0), yc 0)])], [(70, 70, 32), (70, 70, 33), (70, 70, 34)])
theorem yw1 : ywf ys1.2.2.1 = true := by decide +kernel
/-- LTModel.summedBy -/
def ys2 : ySp := (244, 4, (1, [(0, 0, 5)], [], [], [(0, (2, yc 70, yc 0)), (1, (0, (1, 0, 0), yc 0))], []), [(2, [(1, (-9223372036854775808), 9223372036854775807)], [], [], [], [(1, (1, 1, 0), yc 0)])], [(70, 70, 20), (78, 78, 1000)])
theorem yw2 : ywf ys2.2.2.1 = true := by decide +kernel
/-- LTModel.rule -/
def ys3 : ySp := (197, 1, (0, [], [], [], [(0, (2, yc 70, yc 0))], []), [(1, [(0, (-2147483648), 2147483647)], [], [], [], [(0, (1, 0, 0), yc 0)])], [(70, 70, 1), (70, 70, 2), (70, 70, 8), (70, 70, 9), (70, 70, 10), (70, 70, 11), (70, 70, 12), (70, 70, 13), (70, 70, 14), (70, 70, 16), (72, 75, 1000), (77, 77, 1000)])
theorem yw3 : ywf ys3.2.2.1 = true := by decide +kernel
/-- LTModel.keeps -/
def ys4 : ySp := (259, 2, (2, [(0, 0, 6), (1, 0, 6)], [], [(yc 80, yc 0, (0, (1, 0, 0), yc 0)), (yc 80, yc 2, (0, (1, 1, 0), yc 0))], [(0, (2, yc 70, yc 0))], []), [(2, [], [], [(yc 80, yc 0, (0, (1, 0, 0), yc 0)), (yc 80, yc 2, (0, (1, 1, 0), yc 0)), (yc 84, yc 0, (0, (1, 0, 0), yc 0)), (yc 84, yc 2, (0, (1, 1, 0), yc 0))], [], [])], [(84, 84, 1000)])
theorem yw4 : ywf ys4.2.2.1 = true := by decide +kernel
/-- LTModel.laysBack -/
def ys5 : ySp := (260, 2, (2, [(0, 0, 6), (1, 0, 6)], [], [(yc 84, yc 0, (0, (1, 0, 0), yc 0)), (yc 84, yc 2, (0, (1, 1, 0), yc 0))], [(0, (2, yc 70, yc 0))], []), [(2, [], [], [(yc 84, yc 0, (0, (1, 0, 0), yc 0)), (yc 84, yc 2, (0, (1, 1, 0), yc 0)), (yc 80, yc 0, (0, (1, 0, 0), yc 0)), (yc 80, yc 2, (0, (1, 1, 0), yc 0))], [], [])], [(80, 80, 1000)])
theorem yw5 : ywf ys5.2.2.1 = true := by decide +kernel
/-- LTModel.image -/
def ys7 : ySp := (278, 3, (20, [(0, (-2147483648), 2147483647), (1, 0, 2147483647), (2, 0, 2147483647), (3, 0, 2147483647), (4, 0, 2147483647), (5, 0, 1), (6, 0, 1), (7, 0, 1), (8, 0, 1), (9, 0, 2147483647), (10, 0, 6), (11, 0, 6), (12, 0, 6), (13, 0, 6), (14, 0, 6), (15, 0, 6), (16, 0, 6), (17, 0, 6), (18, 0, 6), (19, 0, 6)], [], [(yc 86, yc 0, (0, (1, 1, 0), yc 0)), (yc 86, yc 1, (0, (1, 2, 0), yc 0)), (yc 86, yc 2, (0, (1, 3, 0), yc 0)), (yc 86, yc 3, (0, (1, 4, 0), yc 0)), (yc 87, yc 0, (0, (1, 5, 0), yc 0)), (yc 87, yc 1, (0, (1, 6, 0), yc 0)), (yc 87, yc 2, (0, (1, 7, 0), yc 0)), (yc 87, yc 3, (0, (1, 8, 0), yc 0)), (yc 70, yc 23, (0, (1, 9, 0), yc 0)), (yc 80, yc 0, (0, (1, 10, 0), yc 0)), (yc 80, yc 2, (0, (1, 11, 0), yc 0)), (yc 85, yc 0, (0, (1, 12, 0), yc 0)), (yc 85, yc 2, (0, (1, 13, 0), yc 0)), (yc 85, yc 148, (0, (1, 14, 0), yc 0)), (yc 85, yc 150, (0, (1, 15, 0), yc 0)), (yc 85, yc 296, (0, (1, 16, 0), yc 0)), (yc 85, yc 298, (0, (1, 17, 0), yc 0)), (yc 85, yc 444, (0, (1, 18, 0), yc 0)), (yc 85, yc 446, (0, (1, 19, 0), yc 0))], [(0, (2, yc 70, yc 0)), (1, (0, (1, 0, 0), yc 0))], []), [(20, [(0, (-2147483648), (-1))], [], [(yc 86, yc 0, (0, (1, 1, 0), yc 0)), (yc 86, yc 1, (0, (1, 2, 0), yc 0)), (yc 86, yc 2, (0, (1, 3, 0), yc 0)), (yc 86, yc 3, (0, (1, 4, 0), yc 0)), (yc 87, yc 0, (0, (1, 5, 0), yc 0)), (yc 87, yc 1, (0, (1, 6, 0), yc 0)), (yc 87, yc 2, (0, (1, 7, 0), yc 0)), (yc 87, yc 3, (0, (1, 8, 0), yc 0)), (yc 70, yc 23, (0, (1, 9, 0), yc 0)), (yc 80, yc 0, (0, (1, 10, 0), yc 0)), (yc 80, yc 2, (0, (1, 11, 0), yc 0)), (yc 85, yc 0, (0, (1, 12, 0), yc 0)), (yc 85, yc 2, (0, (1, 13, 0), yc 0)), (yc 85, yc 148, (0, (1, 14, 0), yc 0)), (yc 85, yc 150, (0, (1, 15, 0), yc 0)), (yc 85, yc 296, (0, (1, 16, 0), yc 0)), (yc 85, yc 298, (0, (1, 17, 0), yc 0)), (yc 85, yc 444, (0, (1, 18, 0), yc 0)), (yc 85, yc 446, (0, (1, 19, 0), yc 0))], [], [(0, yc (-1), yc 0)]), (20, [(0, 4, 2147483647)], [], [(yc 86, yc 0, (0, (1, 1, 0), yc 0)), (yc 86, yc 1, (0, (1, 2, 0), yc 0)), (yc 86, yc 2, (0, (1, 3, 0), yc 0)), (yc 86, yc 3, (0, (1, 4, 0), yc 0)), (yc 87, yc 0, (0, (1, 5, 0), yc 0)), (yc 87, yc 1, (0, (1, 6, 0), yc 0)), (yc 87, yc 2, (0, (1, 7, 0), yc 0)), (yc 87, yc 3, (0, (1, 8, 0), yc 0)), (yc 70, yc 23, (0, (1, 9, 0), yc 0)), (yc 80, yc 0, (0, (1, 10, 0), yc 0)), (yc 80, yc 2, (0, (1, 11, 0), yc 0)), (yc 85, yc 0, (0, (1, 12, 0), yc 0)), (yc 85, yc 2, (0, (1, 13, 0), yc 0)), (yc 85, yc 148, (0, (1, 14, 0), yc 0)), (yc 85, yc 150, (0, (1, 15, 0), yc 0)), (yc 85, yc 296, (0, (1, 16, 0), yc 0)), (yc 85, yc 298, (0, (1, 17, 0), yc 0)), (yc 85, yc 444, (0, (1, 18, 0), yc 0)), (yc 85, yc 446, (0, (1, 19, 0), yc 0))], [], [(0, yc (-1), yc 0)]), (21, [(0, 0, 0), (20, (-2147483648), 2147483647)], [], [(yc 86, yc 1, (0, (1, 2, 0), yc 0)), (yc 86, yc 2, (0, (1, 3, 0), yc 0)), (yc 86, yc 3, (0, (1, 4, 0), yc 0)), (yc 87, yc 1, (0, (1, 6, 0), yc 0)), (yc 87, yc 2, (0, (1, 7, 0), yc 0)), (yc 87, yc 3, (0, (1, 8, 0), yc 0)), (yc 70, yc 23, (0, (1, 9, 0), yc 0)), (yc 80, yc 0, (0, (1, 10, 0), yc 0)), (yc 80, yc 2, (0, (1, 11, 0), yc 0)), (yc 85, yc 148, (0, (1, 14, 0), yc 0)), (yc 85, yc 150, (0, (1, 15, 0), yc 0)), (yc 85, yc 296, (0, (1, 16, 0), yc 0)), (yc 85, yc 298, (0, (1, 17, 0), yc 0)), (yc 85, yc 444, (0, (1, 18, 0), yc 0)), (yc 85, yc 446, (0, (1, 19, 0), yc 0)), (yc 87, yc 0, (0, yc 1, yc 0)), (yc 86, yc 0, (0, (1, 9, 0), yc 0)), (yc 85, yc 0, (0, (1, 10, 0), yc 0)), (yc 85, yc 2, (0, (1, 11, 0), yc 0))], [], [(0, (1, 20, 0), yc 0)]), (21, [(0, 1, 1), (20, (-2147483648), 2147483647)], [], [(yc 86, yc 0, (0, (1, 1, 0), yc 0)), (yc 86, yc 2, (0, (1, 3, 0), yc 0)), (yc 86, yc 3, (0, (1, 4, 0), yc 0)), (yc 87, yc 0, (0, (1, 5, 0), yc 0)), (yc 87, yc 2, (0, (1, 7, 0), yc 0)), (yc 87, yc 3, (0, (1, 8, 0), yc 0)), (yc 70, yc 23, (0, (1, 9, 0), yc 0)), (yc 80, yc 0, (0, (1, 10, 0), yc 0)), (yc 80, yc 2, (0, (1, 11, 0), yc 0)), (yc 85, yc 0, (0, (1, 12, 0), yc 0)), (yc 85, yc 2, (0, (1, 13, 0), yc 0)), (yc 85, yc 296, (0, (1, 16, 0), yc 0)), (yc 85, yc 298, (0, (1, 17, 0), yc 0)), (yc 85, yc 444, (0, (1, 18, 0), yc 0)), (yc 85, yc 446, (0, (1, 19, 0), yc 0)), (yc 87, yc 1, (0, yc 1, yc 0)), (yc 86, yc 1, (0, (1, 9, 0), yc 0)), (yc 85, yc 148, (0, (1, 10, 0), yc 0)), (yc 85, yc 150, (0, (1, 11, 0), yc 0))], [], [(0, (1, 20, 0), yc 0)]), (21, [(0, 2, 2), (20, (-2147483648), 2147483647)], [], [(yc 86, yc 0, (0, (1, 1, 0), yc 0)), (yc 86, yc 1, (0, (1, 2, 0), yc 0)), (yc 86, yc 3, (0, (1, 4, 0), yc 0)), (yc 87, yc 0, (0, (1, 5, 0), yc 0)), (yc 87, yc 1, (0, (1, 6, 0), yc 0)), (yc 87, yc 3, (0, (1, 8, 0), yc 0)), (yc 70, yc 23, (0, (1, 9, 0), yc 0)), (yc 80, yc 0, (0, (1, 10, 0), yc 0)), (yc 80, yc 2, (0, (1, 11, 0), yc 0)), (yc 85, yc 0, (0, (1, 12, 0), yc 0)), (yc 85, yc 2, (0, (1, 13, 0), yc 0)), (yc 85, yc 148, (0, (1, 14, 0), yc 0)), (yc 85, yc 150, (0, (1, 15, 0), yc 0)), (yc 85, yc 444, (0, (1, 18, 0), yc 0)), (yc 85, yc 446, (0, (1, 19, 0), yc 0)), (yc 87, yc 2, (0, yc 1, yc 0)), (yc 86, yc 2, (0, (1, 9, 0), yc 0)), (yc 85, yc 296, (0, (1, 10, 0), yc 0)), (yc 85, yc 298, (0, (1, 11, 0), yc 0))], [], [(0, (1, 20, 0), yc 0)]), (21, [(0, 3, 3), (20, (-2147483648), 2147483647)], [], [(yc 86, yc 0, (0, (1, 1, 0), yc 0)), (yc 86, yc 1, (0, (1, 2, 0), yc 0)), (yc 86, yc 2, (0, (1, 3, 0), yc 0)), (yc 87, yc 0, (0, (1, 5, 0), yc 0)), (yc 87, yc 1, (0, (1, 6, 0), yc 0)), (yc 87, yc 2, (0, (1, 7, 0), yc 0)), (yc 70, yc 23, (0, (1, 9, 0), yc 0)), (yc 80, yc 0, (0, (1, 10, 0), yc 0)), (yc 80, yc 2, (0, (1, 11, 0), yc 0)), (yc 85, yc 0, (0, (1, 12, 0), yc 0)), (yc 85, yc 2, (0, (1, 13, 0), yc 0)), (yc 85, yc 148, (0, (1, 14, 0), yc 0)), (yc 85, yc 150, (0, (1, 15, 0), yc 0)), (yc 85, yc 296, (0, (1, 16, 0), yc 0)), (yc 85, yc 298, (0, (1, 17, 0), yc 0)), (yc 87, yc 3, (0, yc 1, yc 0)), (yc 86, yc 3, (0, (1, 9, 0), yc 0)), (yc 85, yc 444, (0, (1, 10, 0), yc 0)), (yc 85, yc 446, (0, (1, 11, 0), yc 0))], [], [(0, (1, 20, 0), yc 0)])], [(85, 85, 1000), (86, 86, 1000), (87, 87, 1000)])
theorem yw7 : ywf ys7.2.2.1 = true := by decide +kernel
/-- LTModel.back -/
def ys8 : ySp := (279, 3, (20, [(0, (-2147483648), 2147483647), (1, 0, 2147483647), (2, 0, 2147483647), (3, 0, 2147483647), (4, 0, 2147483647), (5, 0, 1), (6, 0, 1), (7, 0, 1), (8, 0, 1), (9, 0, 2147483647), (10, 0, 6), (11, 0, 6), (12, 0, 6), (13, 0, 6), (14, 0, 6), (15, 0, 6), (16, 0, 6), (17, 0, 6), (18, 0, 6), (19, 0, 6)], [], [(yc 86, yc 0, (0, (1, 1, 0), yc 0)), (yc 86, yc 1, (0, (1, 2, 0), yc 0)), (yc 86, yc 2, (0, (1, 3, 0), yc 0)), (yc 86, yc 3, (0, (1, 4, 0), yc 0)), (yc 87, yc 0, (0, (1, 5, 0), yc 0)), (yc 87, yc 1, (0, (1, 6, 0), yc 0)), (yc 87, yc 2, (0, (1, 7, 0), yc 0)), (yc 87, yc 3, (0, (1, 8, 0), yc 0)), (yc 70, yc 23, (0, (1, 9, 0), yc 0)), (yc 80, yc 0, (0, (1, 10, 0), yc 0)), (yc 80, yc 2, (0, (1, 11, 0), yc 0)), (yc 85, yc 0, (0, (1, 12, 0), yc 0)), (yc 85, yc 2, (0, (1, 13, 0), yc 0)), (yc 85, yc 148, (0, (1, 14, 0), yc 0)), (yc 85, yc 150, (0, (1, 15, 0), yc 0)), (yc 85, yc 296, (0, (1, 16, 0), yc 0)), (yc 85, yc 298, (0, (1, 17, 0), yc 0)), (yc 85, yc 444, (0, (1, 18, 0), yc 0)), (yc 85, yc 446, (0, (1, 19, 0), yc 0))], [(0, (2, yc 70, yc 0)), (1, (0, (1, 0, 0), yc 0))], []), [(20, [(0, (-2147483648), (-1))], [], [(yc 86, yc 0, (0, (1, 1, 0), yc 0)), (yc 86, yc 1, (0, (1, 2, 0), yc 0)), (yc 86, yc 2, (0, (1, 3, 0), yc 0)), (yc 86, yc 3, (0, (1, 4, 0), yc 0)), (yc 87, yc 0, (0, (1, 5, 0), yc 0)), (yc 87, yc 1, (0, (1, 6, 0), yc 0)), (yc 87, yc 2, (0, (1, 7, 0), yc 0)), (yc 87, yc 3, (0, (1, 8, 0), yc 0)), (yc 70, yc 23, (0, (1, 9, 0), yc 0)), (yc 80, yc 0, (0, (1, 10, 0), yc 0)), (yc 80, yc 2, (0, (1, 11, 0), yc 0)), (yc 85, yc 0, (0, (1, 12, 0), yc 0)), (yc 85, yc 2, (0, (1, 13, 0), yc 0)), (yc 85, yc 148, (0, (1, 14, 0), yc 0)), (yc 85, yc 150, (0, (1, 15, 0), yc 0)), (yc 85, yc 296, (0, (1, 16, 0), yc 0)), (yc 85, yc 298, (0, (1, 17, 0), yc 0)), (yc 85, yc 444, (0, (1, 18, 0), yc 0)), (yc 85, yc 446, (0, (1, 19, 0), yc 0))], [], [(0, yc (-1), yc 0)]), (20, [(0, 0, 0), (5, 0, 0)], [], [(yc 86, yc 0, (0, (1, 1, 0), yc 0)), (yc 86, yc 1, (0, (1, 2, 0), yc 0)), (yc 86, yc 2, (0, (1, 3, 0), yc 0)), (yc 86, yc 3, (0, (1, 4, 0), yc 0)), (yc 87, yc 0, (0, yc 0, yc 0)), (yc 87, yc 1, (0, (1, 6, 0), yc 0)), (yc 87, yc 2, (0, (1, 7, 0), yc 0)), (yc 87, yc 3, (0, (1, 8, 0), yc 0)), (yc 70, yc 23, (0, (1, 9, 0), yc 0)), (yc 80, yc 0, (0, (1, 10, 0), yc 0)), (yc 80, yc 2, (0, (1, 11, 0), yc 0)), (yc 85, yc 0, (0, (1, 12, 0), yc 0)), (yc 85, yc 2, (0, (1, 13, 0), yc 0)), (yc 85, yc 148, (0, (1, 14, 0), yc 0)), (yc 85, yc 150, (0, (1, 15, 0), yc 0)), (yc 85, yc 296, (0, (1, 16, 0), yc 0)), (yc 85, yc 298, (0, (1, 17, 0), yc 0)), (yc 85, yc 444, (0, (1, 18, 0), yc 0)), (yc 85, yc 446, (0, (1, 19, 0), yc 0))], [], [(0, yc (-1), yc 0)]), (20, [(0, 1, 1), (6, 0, 0)], [], [(yc 86, yc 0, (0, (1, 1, 0), yc 0)), (yc 86, yc 1, (0, (1, 2, 0), yc 0)), (yc 86, yc 2, (0, (1, 3, 0), yc 0)), (yc 86, yc 3, (0, (1, 4, 0), yc 0)), (yc 87, yc 0, (0, (1, 5, 0), yc 0)), (yc 87, yc 1, (0, yc 0, yc 0)), (yc 87, yc 2, (0, (1, 7, 0), yc 0)), (yc 87, yc 3, (0, (1, 8, 0), yc 0)), (yc 70, yc 23, (0, (1, 9, 0), yc 0)), (yc 80, yc 0, (0, (1, 10, 0), yc 0)), (yc 80, yc 2, (0, (1, 11, 0), yc 0)), (yc 85, yc 0, (0, (1, 12, 0), yc 0)), (yc 85, yc 2, (0, (1, 13, 0), yc 0)), (yc 85, yc 148, (0, (1, 14, 0), yc 0)), (yc 85, yc 150, (0, (1, 15, 0), yc 0)), (yc 85, yc 296, (0, (1, 16, 0), yc 0)), (yc 85, yc 298, (0, (1, 17, 0), yc 0)), (yc 85, yc 444, (0, (1, 18, 0), yc 0)), (yc 85, yc 446, (0, (1, 19, 0), yc 0))], [], [(0, yc (-1), yc 0)]), (20, [(0, 2, 2), (7, 0, 0)], [], [(yc 86, yc 0, (0, (1, 1, 0), yc 0)), (yc 86, yc 1, (0, (1, 2, 0), yc 0)), (yc 86, yc 2, (0, (1, 3, 0), yc 0)), (yc 86, yc 3, (0, (1, 4, 0), yc 0)), (yc 87, yc 0, (0, (1, 5, 0), yc 0)), (yc 87, yc 1, (0, (1, 6, 0), yc 0)), (yc 87, yc 2, (0, yc 0, yc 0)), (yc 87, yc 3, (0, (1, 8, 0), yc 0)), (yc 70, yc 23, (0, (1, 9, 0), yc 0)), (yc 80, yc 0, (0, (1, 10, 0), yc 0)), (yc 80, yc 2, (0, (1, 11, 0), yc 0)), (yc 85, yc 0, (0, (1, 12, 0), yc 0)), (yc 85, yc 2, (0, (1, 13, 0), yc 0)), (yc 85, yc 148, (0, (1, 14, 0), yc 0)), (yc 85, yc 150, (0, (1, 15, 0), yc 0)), (yc 85, yc 296, (0, (1, 16, 0), yc 0)), (yc 85, yc 298, (0, (1, 17, 0), yc 0)), (yc 85, yc 444, (0, (1, 18, 0), yc 0)), (yc 85, yc 446, (0, (1, 19, 0), yc 0))], [], [(0, yc (-1), yc 0)]), (20, [(0, 3, 3), (8, 0, 0)], [], [(yc 86, yc 0, (0, (1, 1, 0), yc 0)), (yc 86, yc 1, (0, (1, 2, 0), yc 0)), (yc 86, yc 2, (0, (1, 3, 0), yc 0)), (yc 86, yc 3, (0, (1, 4, 0), yc 0)), (yc 87, yc 0, (0, (1, 5, 0), yc 0)), (yc 87, yc 1, (0, (1, 6, 0), yc 0)), (yc 87, yc 2, (0, (1, 7, 0), yc 0)), (yc 87, yc 3, (0, yc 0, yc 0)), (yc 70, yc 23, (0, (1, 9, 0), yc 0)), (yc 80, yc 0, (0, (1, 10, 0), yc 0)), (yc 80, yc 2, (0, (1, 11, 0), yc 0)), (yc 85, yc 0, (0, (1, 12, 0), yc 0)), (yc 85, yc 2, (0, (1, 13, 0), yc 0)), (yc 85, yc 148, (0, (1, 14, 0), yc 0)), (yc 85, yc 150, (0, (1, 15, 0), yc 0)), (yc 85, yc 296, (0, (1, 16, 0), yc 0)), (yc 85, yc 298, (0, (1, 17, 0), yc 0)), (yc 85, yc 444, (0, (1, 18, 0), yc 0)), (yc 85, yc 446, (0, (1, 19, 0), yc 0))], [], [(0, yc (-1), yc 0)]), (20, [(0, 4, 2147483647)], [], [(yc 86, yc 0, (0, (1, 1, 0), yc 0)), (yc 86, yc 1, (0, (1, 2, 0), yc 0)), (yc 86, yc 2, (0, (1, 3, 0), yc 0)), (yc 86, yc 3, (0, (1, 4, 0), yc 0)), (yc 87, yc 0, (0, (1, 5, 0), yc 0)), (yc 87, yc 1, (0, (1, 6, 0), yc 0)), (yc 87, yc 2, (0, (1, 7, 0), yc 0)), (yc 87, yc 3, (0, (1, 8, 0), yc 0)), (yc 70, yc 23, (0, (1, 9, 0), yc 0)), (yc 80, yc 0, (0, (1, 10, 0), yc 0)), (yc 80, yc 2, (0, (1, 11, 0), yc 0)), (yc 85, yc 0, (0, (1, 12, 0), yc 0)), (yc 85, yc 2, (0, (1, 13, 0), yc 0)), (yc 85, yc 148, (0, (1, 14, 0), yc 0)), (yc 85, yc 150, (0, (1, 15, 0), yc 0)), (yc 85, yc 296, (0, (1, 16, 0), yc 0)), (yc 85, yc 298, (0, (1, 17, 0), yc 0)), (yc 85, yc 444, (0, (1, 18, 0), yc 0)), (yc 85, yc 446, (0, (1, 19, 0), yc 0))], [], [(0, yc (-1), yc 0)]), (21, [(0, 0, 0), (5, 1, 1), (20, (-2147483648), 2147483647)], [], [(yc 86, yc 0, (0, (1, 1, 0), yc 0)), (yc 86, yc 1, (0, (1, 2, 0), yc 0)), (yc 86, yc 2, (0, (1, 3, 0), yc 0)), (yc 86, yc 3, (0, (1, 4, 0), yc 0)), (yc 87, yc 0, (0, yc 1, yc 0)), (yc 87, yc 1, (0, (1, 6, 0), yc 0)), (yc 87, yc 2, (0, (1, 7, 0), yc 0)), (yc 87, yc 3, (0, (1, 8, 0), yc 0)), (yc 85, yc 0, (0, (1, 12, 0), yc 0)), (yc 85, yc 2, (0, (1, 13, 0), yc 0)), (yc 85, yc 148, (0, (1, 14, 0), yc 0)), (yc 85, yc 150, (0, (1, 15, 0), yc 0)), (yc 85, yc 296, (0, (1, 16, 0), yc 0)), (yc 85, yc 298, (0, (1, 17, 0), yc 0)), (yc 85, yc 444, (0, (1, 18, 0), yc 0)), (yc 85, yc 446, (0, (1, 19, 0), yc 0)), (yc 70, yc 23, (0, (1, 1, 0), yc 0)), (yc 80, yc 0, (0, (1, 12, 0), yc 0)), (yc 80, yc 2, (0, (1, 13, 0), yc 0))], [], [(0, (1, 20, 0), yc 0)]), (21, [(0, 1, 1), (6, 1, 1), (20, (-2147483648), 2147483647)], [], [(yc 86, yc 0, (0, (1, 1, 0), yc 0)), (yc 86, yc 1, (0, (1, 2, 0), yc 0)), (yc 86, yc 2, (0, (1, 3, 0), yc 0)), (yc 86, yc 3, (0, (1, 4, 0), yc 0)), (yc 87, yc 0, (0, (1, 5, 0), yc 0)), (yc 87, yc 1, (0, yc 1, yc 0)), (yc 87, yc 2, (0, (1, 7, 0), yc 0)), (yc 87, yc 3, (0, (1, 8, 0), yc 0)), (yc 85, yc 0, (0, (1, 12, 0), yc 0)), (yc 85, yc 2, (0, (1, 13, 0), yc 0)), (yc 85, yc 148, (0, (1, 14, 0), yc 0)), (yc 85, yc 150, (0, (1, 15, 0), yc 0)), (yc 85, yc 296, (0, (1, 16, 0), yc 0)), (yc 85, yc 298, (0, (1, 17, 0), yc 0)), (yc 85, yc 444, (0, (1, 18, 0), yc 0)), (yc 85, yc 446, (0, (1, 19, 0), yc 0)), (yc 70, yc 23, (0, (1, 2, 0), yc 0)), (yc 80, yc 0, (0, (1, 14, 0), yc 0)), (yc 80, yc 2, (0, (1, 15, 0), yc 0))], [], [(0, (1, 20, 0), yc 0)]), (21, [(0, 2, 2), (7, 1, 1), (20, (-2147483648), 2147483647)], [], [(yc 86, yc 0, (0, (1, 1, 0), yc 0)), (yc 86, yc 1, (0, (1, 2, 0), yc 0)), (yc 86, yc 2, (0, (1, 3, 0), yc 0)), (yc 86, yc 3, (0, (1, 4, 0), yc 0)), (yc 87, yc 0, (0, (1, 5, 0), yc 0)), (yc 87, yc 1, (0, (1, 6, 0), yc 0)), (yc 87, yc 2, (0, yc 1, yc 0)), (yc 87, yc 3, (0, (1, 8, 0), yc 0)), (yc 85, yc 0, (0, (1, 12, 0), yc 0)), (yc 85, yc 2, (0, (1, 13, 0), yc 0)), (yc 85, yc 148, (0, (1, 14, 0), yc 0)), (yc 85, yc 150, (0, (1, 15, 0), yc 0)), (yc 85, yc 296, (0, (1, 16, 0), yc 0)), (yc 85, yc 298, (0, (1, 17, 0), yc 0)), (yc 85, yc 444, (0, (1, 18, 0), yc 0)), (yc 85, yc 446, (0, (1, 19, 0), yc 0)), (yc 70, yc 23, (0, (1, 3, 0), yc 0)), (yc 80, yc 0, (0, (1, 16, 0), yc 0)), (yc 80, yc 2, (0, (1, 17, 0), yc 0))], [], [(0, (1, 20, 0), yc 0)]), (21, [(0, 3, 3), (8, 1, 1), (20, (-2147483648), 2147483647)], [], [(yc 86, yc 0, (0, (1, 1, 0), yc 0)), (yc 86, yc 1, (0, (1, 2, 0), yc 0)), (yc 86, yc 2, (0, (1, 3, 0), yc 0)), (yc 86, yc 3, (0, (1, 4, 0), yc 0)), (yc 87, yc 0, (0, (1, 5, 0), yc 0)), (yc 87, yc 1, (0, (1, 6, 0), yc 0)), (yc 87, yc 2, (0, (1, 7, 0), yc 0)), (yc 87, yc 3, (0, yc 1, yc 0)), (yc 85, yc 0, (0, (1, 12, 0), yc 0)), (yc 85, yc 2, (0, (1, 13, 0), yc 0)), (yc 85, yc 148, (0, (1, 14, 0), yc 0)), (yc 85, yc 150, (0, (1, 15, 0), yc 0)), (yc 85, yc 296, (0, (1, 16, 0), yc 0)), (yc 85, yc 298, (0, (1, 17, 0), yc 0)), (yc 85, yc 444, (0, (1, 18, 0), yc 0)), (yc 85, yc 446, (0, (1, 19, 0), yc 0)), (yc 70, yc 23, (0, (1, 4, 0), yc 0)), (yc 80, yc 0, (0, (1, 18, 0), yc 0)), (yc 80, yc 2, (0, (1, 19, 0), yc 0))], [], [(0, (1, 20, 0), yc 0)])], [(70, 70, 23), (70, 70, 25), (80, 80, 1000)])
theorem yw8 : ywf ys8.2.2.1 = true := by decide +kernel
/-- LTModel.village -/
def ys243 : ySp := (198, 2, (2, [(0, 0, 6), (1, 0, 6)], [], [(yc 80, yc 0, (0, (1, 0, 0), yc 0)), (yc 80, yc 2, (0, (1, 1, 0), yc 0))], [(0, (2, yc 70, yc 0))], []), [(7, [(2, 0, 6), (3, 1, 40), (4, 0, 50), (5, 2, 6), (6, 0, 400)], [], [(yc 70, yc 11, (0, yc 6, yc 0)), (yc 70, yc 14, (0, (1, 3, 0), yc 0)), (yc 76, yc 2, (0, (1, 2, 0), yc 0)), (yc 70, yc 9, (0, yc 0, yc 0)), (yc 70, yc 10, (0, (1, 4, 0), yc 0)), (yc 76, yc 0, (0, (1, 5, 0), yc 0)), (yc 70, yc 8, (0, (1, 6, 0), yc 0)), (yc 70, yc 1, (0, yc 0, yc 0)), (yc 80, yc 0, (0, (1, 5, 0), yc 0)), (yc 80, yc 2, (0, (1, 2, 0), yc 0))], [], [(0, (1, 2, 0), yc 0)]), (9, [(2, (-2147483648), 2147483647), (3, 0, 40), (4, 0, 6), (5, 0, 99999), (6, 0, 6), (7, 0, 400), (8, 1, 2147483647)], [], [(yc 80, yc 0, (0, (1, 0, 0), yc 0)), (yc 80, yc 2, (0, (1, 1, 0), yc 0)), (yc 70, yc 11, (0, yc 6, yc 0)), (yc 70, yc 14, (0, (1, 3, 0), yc 0)), (yc 76, yc 2, (0, (1, 4, 0), yc 0)), (yc 70, yc 10, (0, (1, 5, 0), yc 0)), (yc 76, yc 0, (0, (1, 6, 0), yc 0)), (yc 70, yc 8, (0, (1, 7, 0), yc 0)), (yc 70, yc 9, (0, (1, 8, 0), yc 0)), (yc 70, yc 1, (0, yc 0, yc 0))], [], [(0, (1, 2, 0), yc 0)])], [(70, 70, 1), (70, 70, 8), (70, 70, 9), (70, 70, 10), (70, 70, 11), (70, 70, 12), (70, 70, 14), (70, 70, 17), (70, 70, 18), (70, 70, 25), (73, 73, 1000), (76, 76, 1000), (80, 80, 1000)])
theorem yw243 : ywf ys243.2.2.1 = true := by decide +kernel
/-- LTModel.undo -/
def ys244 : ySp := (221, 2, (3, [(0, 1, 20), (1, 0, 6), (2, 0, 6)], [], [(yc 70, yc 25, (0, (1, 0, 0), yc 0)), (yc 81, (124, 0, (-124)), (0, (1, 1, 0), yc 0)), (yc 81, (124, 0, (-122)), (0, (1, 2, 0), yc 0))], [(0, (2, yc 70, yc 0))], []), [(3, [], [], [(yc 81, (124, 0, (-124)), (0, (1, 1, 0), yc 0)), (yc 81, (124, 0, (-122)), (0, (1, 2, 0), yc 0)), (yc 70, yc 25, (0, (1, 0, (-1)), yc 0)), (yc 80, yc 0, (0, (1, 1, 0), yc 0)), (yc 80, yc 2, (0, (1, 2, 0), yc 0))], [], [(0, (1, 0, (-1)), yc 0)])], [(70, 70, 25), (80, 80, 1000)])
theorem yw244 : ywf ys244.2.2.1 = true := by decide +kernel
/-- LTModel.undo -/
def ys245 : ySp := (221, 2, (0, [], [], [(yc 70, yc 25, (0, yc 0, yc 0))], [(0, (2, yc 70, yc 0))], []), [(0, [], [], [(yc 70, yc 25, (0, yc 0, yc 0))], [], [(0, yc (-1), yc 0)])], [])
theorem yw245 : ywf ys245.2.2.1 = true := by decide +kernel
/-- LTModel.undo -/
def ys246 : ySp := (221, 2, (0, [], [], [], [(0, (2, yc 70, yc 0))], []), [(1, [(0, (-2147483648), 2147483647)], [], [], [], [(0, (1, 0, 0), yc 0)])], [(70, 70, 25), (80, 80, 1000)])
theorem yw246 : ywf ys246.2.2.1 = true := by decide +kernel
/-- LT.rule -/
def ys646 : ySp := (126, 2, (0, [], [], [], [(0, (2, yc 0, yc 0))], []), [(1, [(0, (-2147483648), 2147483647)], [], [], [], [(0, (1, 0, 0), yc 0)])], [(0, 0, 1), (0, 0, 8), (2, 2, 0), (2, 2, 1), (2, 2, 2), (2, 2, 3), (2, 2, 4), (6, 6, 1), (6, 6, 3), (6, 6, 4), (6, 6, 5), (6, 6, 6), (6, 6, 7), (6, 6, 8), (6, 6, 9), (7, 8, 1000), (13, 13, 1000), (88, 999, 1000)])
theorem yw646 : ywf ys646.2.2.1 = true := by decide +kernel
def yXl : List (Nat × ySp) := [(1, ys0), (8, ys1), (5, ys2), (16, ys3), (1, ys4), (1, ys5), (2, ys7), (2, ys8), (8, ys243), (1, ys246), (12, ys646)]
/-- what is proved by hand -/
def yXt (E : zHp → Prop) : Prop := yEF E yFP ∧ ∀ q ∈ yXl, yTs E q.1 q.2
theorem yl0 {E : zHp → Prop} (h : yXt E) : yTs E 1 ys0 := h.2 (1, ys0) (List.mem_of_getElem? (i := 0) rfl)
theorem yl1 {E : zHp → Prop} (h : yXt E) : yTs E 8 ys1 := h.2 (8, ys1) (List.mem_of_getElem? (i := 1) rfl)
theorem yl2 {E : zHp → Prop} (h : yXt E) : yTs E 5 ys2 := h.2 (5, ys2) (List.mem_of_getElem? (i := 2) rfl)
theorem yl3 {E : zHp → Prop} (h : yXt E) : yTs E 16 ys3 := h.2 (16, ys3) (List.mem_of_getElem? (i := 3) rfl)
theorem yl4 {E : zHp → Prop} (h : yXt E) : yTs E 1 ys4 := h.2 (1, ys4) (List.mem_of_getElem? (i := 4) rfl)
theorem yl5 {E : zHp → Prop} (h : yXt E) : yTs E 1 ys5 := h.2 (1, ys5) (List.mem_of_getElem? (i := 5) rfl)
theorem yl7 {E : zHp → Prop} (h : yXt E) : yTs E 2 ys7 := h.2 (2, ys7) (List.mem_of_getElem? (i := 6) rfl)
theorem yl8 {E : zHp → Prop} (h : yXt E) : yTs E 2 ys8 := h.2 (2, ys8) (List.mem_of_getElem? (i := 7) rfl)
theorem yl243 {E : zHp → Prop} (h : yXt E) : yTs E 8 ys243 := h.2 (8, ys243) (List.mem_of_getElem? (i := 8) rfl)
theorem yl246 {E : zHp → Prop} (h : yXt E) : yTs E 1 ys246 := h.2 (1, ys246) (List.mem_of_getElem? (i := 9) rfl)
theorem yl646 {E : zHp → Prop} (h : yXt E) : yTs E 12 ys646 := h.2 (12, ys646) (List.mem_of_getElem? (i := 10) rfl)
set_option maxRecDepth 4000 in
theorem yg1 : zg zms 1 = some (zm1.2.2.1, zm1.2.2.2.1, zc1) := rfl
set_option maxRecDepth 4000 in
theorem yg2 : zg zms 2 = some (zm2.2.2.1, zm2.2.2.2.1, zc2) := rfl
set_option maxRecDepth 4000 in
theorem yg3 : zg zms 3 = some (zm3.2.2.1, zm3.2.2.2.1, zc3) := rfl
set_option maxRecDepth 4000 in
theorem yg4 : zg zms 4 = some (zm4.2.2.1, zm4.2.2.2.1, zc4) := rfl
set_option maxRecDepth 4000 in
theorem yg5 : zg zms 5 = some (zm5.2.2.1, zm5.2.2.2.1, zc5) := rfl
set_option maxRecDepth 4000 in
theorem yg6 : zg zms 6 = some (zm6.2.2.1, zm6.2.2.2.1, zc6) := rfl
set_option maxRecDepth 4000 in
theorem yg7 : zg zms 7 = some (zm7.2.2.1, zm7.2.2.2.1, zc7) := rfl
set_option maxRecDepth 4000 in
theorem yg8 : zg zms 8 = some (zm8.2.2.1, zm8.2.2.2.1, zc8) := rfl
set_option maxRecDepth 4000 in
theorem yg9 : zg zms 9 = some (zm9.2.2.1, zm9.2.2.2.1, zc9) := rfl
set_option maxRecDepth 4000 in
theorem yg11 : zg zms 11 = some (zm11.2.2.1, zm11.2.2.2.1, zc11) := rfl
set_option maxRecDepth 4000 in
theorem yg12 : zg zms 12 = some (zm12.2.2.1, zm12.2.2.2.1, zc12) := rfl
set_option maxRecDepth 4000 in
theorem yg14 : zg zms 14 = some (zm14.2.2.1, zm14.2.2.2.1, zc14) := rfl
set_option maxRecDepth 4000 in
theorem yg15 : zg zms 15 = some (zm15.2.2.1, zm15.2.2.2.1, zc15) := rfl
set_option maxRecDepth 4000 in
theorem yg16 : zg zms 16 = some (zm16.2.2.1, zm16.2.2.2.1, zc16) := rfl
set_option maxRecDepth 4000 in
theorem yg17 : zg zms 17 = some (zm17.2.2.1, zm17.2.2.2.1, zc17) := rfl
set_option maxRecDepth 4000 in
theorem yg19 : zg zms 19 = some (zm19.2.2.1, zm19.2.2.2.1, zc19) := rfl
set_option maxRecDepth 4000 in
theorem yg20 : zg zms 20 = some (zm20.2.2.1, zm20.2.2.2.1, zc20) := rfl
set_option maxRecDepth 4000 in
theorem yg21 : zg zms 21 = some (zm21.2.2.1, zm21.2.2.2.1, zc21) := rfl
set_option maxRecDepth 4000 in
theorem yg22 : zg zms 22 = some (zm22.2.2.1, zm22.2.2.2.1, zc22) := rfl
set_option maxRecDepth 4000 in
theorem yg23 : zg zms 23 = some (zm23.2.2.1, zm23.2.2.2.1, zc23) := rfl
set_option maxRecDepth 4000 in
theorem yg24 : zg zms 24 = some (zm24.2.2.1, zm24.2.2.2.1, zc24) := rfl
set_option maxRecDepth 4000 in
theorem yg26 : zg zms 26 = some (zm26.2.2.1, zm26.2.2.2.1, zc26) := rfl
set_option maxRecDepth 4000 in
theorem yg27 : zg zms 27 = some (zm27.2.2.1, zm27.2.2.2.1, zc27) := rfl
set_option maxRecDepth 4000 in
theorem yg28 : zg zms 28 = some (zm28.2.2.1, zm28.2.2.2.1, zc28) := rfl
set_option maxRecDepth 4000 in
theorem yg29 : zg zms 29 = some (zm29.2.2.1, zm29.2.2.2.1, zc29) := rfl
set_option maxRecDepth 4000 in
theorem yg30 : zg zms 30 = some (zm30.2.2.1, zm30.2.2.2.1, zc30) := rfl
set_option maxRecDepth 4000 in
theorem yg31 : zg zms 31 = some (zm31.2.2.1, zm31.2.2.2.1, zc31) := rfl
set_option maxRecDepth 4000 in
theorem yg34 : zg zms 34 = some (zm34.2.2.1, zm34.2.2.2.1, zc34) := rfl
set_option maxRecDepth 4000 in
theorem yg35 : zg zms 35 = some (zm35.2.2.1, zm35.2.2.2.1, zc35) := rfl
set_option maxRecDepth 4000 in
theorem yg36 : zg zms 36 = some (zm36.2.2.1, zm36.2.2.2.1, zc36) := rfl
set_option maxRecDepth 4000 in
theorem yg37 : zg zms 37 = some (zm37.2.2.1, zm37.2.2.2.1, zc37) := rfl
set_option maxRecDepth 4000 in
theorem yg38 : zg zms 38 = some (zm38.2.2.1, zm38.2.2.2.1, zc38) := rfl
set_option maxRecDepth 4000 in
theorem yg39 : zg zms 39 = some (zm39.2.2.1, zm39.2.2.2.1, zc39) := rfl
set_option maxRecDepth 4000 in
theorem yg40 : zg zms 40 = some (zm40.2.2.1, zm40.2.2.2.1, zc40) := rfl
set_option maxRecDepth 4000 in
theorem yg41 : zg zms 41 = some (zm41.2.2.1, zm41.2.2.2.1, zc41) := rfl
set_option maxRecDepth 4000 in
theorem yg42 : zg zms 42 = some (zm42.2.2.1, zm42.2.2.2.1, zc42) := rfl
set_option maxRecDepth 4000 in
theorem yg43 : zg zms 43 = some (zm43.2.2.1, zm43.2.2.2.1, zc43) := rfl
set_option maxRecDepth 4000 in
theorem yg44 : zg zms 44 = some (zm44.2.2.1, zm44.2.2.2.1, zc44) := rfl
set_option maxRecDepth 4000 in
theorem yg45 : zg zms 45 = some (zm45.2.2.1, zm45.2.2.2.1, zc45) := rfl
set_option maxRecDepth 4000 in
theorem yg46 : zg zms 46 = some (zm46.2.2.1, zm46.2.2.2.1, zc46) := rfl
set_option maxRecDepth 4000 in
theorem yg47 : zg zms 47 = some (zm47.2.2.1, zm47.2.2.2.1, zc47) := rfl
set_option maxRecDepth 4000 in
theorem yg48 : zg zms 48 = some (zm48.2.2.1, zm48.2.2.2.1, zc48) := rfl
set_option maxRecDepth 4000 in
theorem yg50 : zg zms 50 = some (zm50.2.2.1, zm50.2.2.2.1, zc50) := rfl
set_option maxRecDepth 4000 in
theorem yg51 : zg zms 51 = some (zm51.2.2.1, zm51.2.2.2.1, zc51) := rfl
set_option maxRecDepth 4000 in
theorem yg52 : zg zms 52 = some (zm52.2.2.1, zm52.2.2.2.1, zc52) := rfl
set_option maxRecDepth 4000 in
theorem yg53 : zg zms 53 = some (zm53.2.2.1, zm53.2.2.2.1, zc53) := rfl
set_option maxRecDepth 4000 in
theorem yg54 : zg zms 54 = some (zm54.2.2.1, zm54.2.2.2.1, zc54) := rfl
set_option maxRecDepth 4000 in
theorem yg55 : zg zms 55 = some (zm55.2.2.1, zm55.2.2.2.1, zc55) := rfl
set_option maxRecDepth 4000 in
theorem yg56 : zg zms 56 = some (zm56.2.2.1, zm56.2.2.2.1, zc56) := rfl
set_option maxRecDepth 4000 in
theorem yg57 : zg zms 57 = some (zm57.2.2.1, zm57.2.2.2.1, zc57) := rfl
set_option maxRecDepth 4000 in
theorem yg58 : zg zms 58 = some (zm58.2.2.1, zm58.2.2.2.1, zc58) := rfl
set_option maxRecDepth 4000 in
theorem yg59 : zg zms 59 = some (zm59.2.2.1, zm59.2.2.2.1, zc59) := rfl
set_option maxRecDepth 4000 in
theorem yg60 : zg zms 60 = some (zm60.2.2.1, zm60.2.2.2.1, zc60) := rfl
set_option maxRecDepth 4000 in
theorem yg61 : zg zms 61 = some (zm61.2.2.1, zm61.2.2.2.1, zc61) := rfl
set_option maxRecDepth 4000 in
theorem yg63 : zg zms 63 = some (zm63.2.2.1, zm63.2.2.2.1, zc63) := rfl
set_option maxRecDepth 4000 in
theorem yg64 : zg zms 64 = some (zm64.2.2.1, zm64.2.2.2.1, zc64) := rfl
set_option maxRecDepth 4000 in
theorem yg65 : zg zms 65 = some (zm65.2.2.1, zm65.2.2.2.1, zc65) := rfl
set_option maxRecDepth 4000 in
theorem yg66 : zg zms 66 = some (zm66.2.2.1, zm66.2.2.2.1, zc66) := rfl
set_option maxRecDepth 4000 in
theorem yg68 : zg zms 68 = some (zm68.2.2.1, zm68.2.2.2.1, zc68) := rfl
set_option maxRecDepth 4000 in
theorem yg69 : zg zms 69 = some (zm69.2.2.1, zm69.2.2.2.1, zc69) := rfl
set_option maxRecDepth 4000 in
theorem yg70 : zg zms 70 = some (zm70.2.2.1, zm70.2.2.2.1, zc70) := rfl
set_option maxRecDepth 4000 in
theorem yg71 : zg zms 71 = some (zm71.2.2.1, zm71.2.2.2.1, zc71) := rfl
set_option maxRecDepth 4000 in
theorem yg72 : zg zms 72 = some (zm72.2.2.1, zm72.2.2.2.1, zc72) := rfl
set_option maxRecDepth 4000 in
theorem yg73 : zg zms 73 = some (zm73.2.2.1, zm73.2.2.2.1, zc73) := rfl
set_option maxRecDepth 4000 in
theorem yg74 : zg zms 74 = some (zm74.2.2.1, zm74.2.2.2.1, zc74) := rfl
set_option maxRecDepth 4000 in
theorem yg75 : zg zms 75 = some (zm75.2.2.1, zm75.2.2.2.1, zc75) := rfl
set_option maxRecDepth 4000 in
theorem yg76 : zg zms 76 = some (zm76.2.2.1, zm76.2.2.2.1, zc76) := rfl
set_option maxRecDepth 4000 in
theorem yg77 : zg zms 77 = some (zm77.2.2.1, zm77.2.2.2.1, zc77) := rfl
set_option maxRecDepth 4000 in
theorem yg78 : zg zms 78 = some (zm78.2.2.1, zm78.2.2.2.1, zc78) := rfl
set_option maxRecDepth 4000 in
theorem yg79 : zg zms 79 = some (zm79.2.2.1, zm79.2.2.2.1, zc79) := rfl
set_option maxRecDepth 4000 in
theorem yg80 : zg zms 80 = some (zm80.2.2.1, zm80.2.2.2.1, zc80) := rfl
set_option maxRecDepth 4000 in
theorem yg81 : zg zms 81 = some (zm81.2.2.1, zm81.2.2.2.1, zc81) := rfl
set_option maxRecDepth 4000 in
theorem yg82 : zg zms 82 = some (zm82.2.2.1, zm82.2.2.2.1, zc82) := rfl
set_option maxRecDepth 4000 in
theorem yg83 : zg zms 83 = some (zm83.2.2.1, zm83.2.2.2.1, zc83) := rfl
set_option maxRecDepth 4000 in
theorem yg84 : zg zms 84 = some (zm84.2.2.1, zm84.2.2.2.1, zc84) := rfl
set_option maxRecDepth 4000 in
theorem yg85 : zg zms 85 = some (zm85.2.2.1, zm85.2.2.2.1, zc85) := rfl
set_option maxRecDepth 4000 in
theorem yg86 : zg zms 86 = some (zm86.2.2.1, zm86.2.2.2.1, zc86) := rfl
set_option maxRecDepth 4000 in
theorem yg87 : zg zms 87 = some (zm87.2.2.1, zm87.2.2.2.1, zc87) := rfl
set_option maxRecDepth 4000 in
theorem yg88 : zg zms 88 = some (zm88.2.2.1, zm88.2.2.2.1, zc88) := rfl
set_option maxRecDepth 4000 in
theorem yg89 : zg zms 89 = some (zm89.2.2.1, zm89.2.2.2.1, zc89) := rfl
set_option maxRecDepth 4000 in
theorem yg90 : zg zms 90 = some (zm90.2.2.1, zm90.2.2.2.1, zc90) := rfl
set_option maxRecDepth 4000 in
theorem yg91 : zg zms 91 = some (zm91.2.2.1, zm91.2.2.2.1, zc91) := rfl
set_option maxRecDepth 4000 in
theorem yg92 : zg zms 92 = some (zm92.2.2.1, zm92.2.2.2.1, zc92) := rfl
set_option maxRecDepth 4000 in
theorem yg93 : zg zms 93 = some (zm93.2.2.1, zm93.2.2.2.1, zc93) := rfl
set_option maxRecDepth 4000 in
theorem yg94 : zg zms 94 = some (zm94.2.2.1, zm94.2.2.2.1, zc94) := rfl
set_option maxRecDepth 4000 in
theorem yg95 : zg zms 95 = some (zm95.2.2.1, zm95.2.2.2.1, zc95) := rfl
set_option maxRecDepth 4000 in
theorem yg96 : zg zms 96 = some (zm96.2.2.1, zm96.2.2.2.1, zc96) := rfl
set_option maxRecDepth 4000 in
theorem yg97 : zg zms 97 = some (zm97.2.2.1, zm97.2.2.2.1, zc97) := rfl
set_option maxRecDepth 4000 in
theorem yg98 : zg zms 98 = some (zm98.2.2.1, zm98.2.2.2.1, zc98) := rfl
set_option maxRecDepth 4000 in
theorem yg99 : zg zms 99 = some (zm99.2.2.1, zm99.2.2.2.1, zc99) := rfl
set_option maxRecDepth 4000 in
theorem yg100 : zg zms 100 = some (zm100.2.2.1, zm100.2.2.2.1, zc100) := rfl
set_option maxRecDepth 4000 in
theorem yg101 : zg zms 101 = some (zm101.2.2.1, zm101.2.2.2.1, zc101) := rfl
set_option maxRecDepth 4000 in
theorem yg102 : zg zms 102 = some (zm102.2.2.1, zm102.2.2.2.1, zc102) := rfl
set_option maxRecDepth 4000 in
theorem yg103 : zg zms 103 = some (zm103.2.2.1, zm103.2.2.2.1, zc103) := rfl
set_option maxRecDepth 4000 in
theorem yg104 : zg zms 104 = some (zm104.2.2.1, zm104.2.2.2.1, zc104) := rfl
set_option maxRecDepth 4000 in
theorem yg105 : zg zms 105 = some (zm105.2.2.1, zm105.2.2.2.1, zc105) := rfl
set_option maxRecDepth 4000 in
theorem yg106 : zg zms 106 = some (zm106.2.2.1, zm106.2.2.2.1, zc106) := rfl
set_option maxRecDepth 4000 in
theorem yg107 : zg zms 107 = some (zm107.2.2.1, zm107.2.2.2.1, zc107) := rfl
set_option maxRecDepth 4000 in
theorem yg108 : zg zms 108 = some (zm108.2.2.1, zm108.2.2.2.1, zc108) := rfl
set_option maxRecDepth 4000 in
theorem yg109 : zg zms 109 = some (zm109.2.2.1, zm109.2.2.2.1, zc109) := rfl
set_option maxRecDepth 4000 in
theorem yg110 : zg zms 110 = some (zm110.2.2.1, zm110.2.2.2.1, zc110) := rfl
set_option maxRecDepth 4000 in
theorem yg111 : zg zms 111 = some (zm111.2.2.1, zm111.2.2.2.1, zc111) := rfl
set_option maxRecDepth 4000 in
theorem yg112 : zg zms 112 = some (zm112.2.2.1, zm112.2.2.2.1, zc112) := rfl
set_option maxRecDepth 4000 in
theorem yg113 : zg zms 113 = some (zm113.2.2.1, zm113.2.2.2.1, zc113) := rfl
set_option maxRecDepth 4000 in
theorem yg114 : zg zms 114 = some (zm114.2.2.1, zm114.2.2.2.1, zc114) := rfl
set_option maxRecDepth 4000 in
theorem yg116 : zg zms 116 = some (zm116.2.2.1, zm116.2.2.2.1, zc116) := rfl
set_option maxRecDepth 4000 in
theorem yg117 : zg zms 117 = some (zm117.2.2.1, zm117.2.2.2.1, zc117) := rfl
set_option maxRecDepth 4000 in
theorem yg118 : zg zms 118 = some (zm118.2.2.1, zm118.2.2.2.1, zc118) := rfl
set_option maxRecDepth 4000 in
theorem yg119 : zg zms 119 = some (zm119.2.2.1, zm119.2.2.2.1, zc119) := rfl
set_option maxRecDepth 4000 in
theorem yg120 : zg zms 120 = some (zm120.2.2.1, zm120.2.2.2.1, zc120) := rfl
set_option maxRecDepth 4000 in
theorem yg122 : zg zms 122 = some (zm122.2.2.1, zm122.2.2.2.1, zc122) := rfl
set_option maxRecDepth 4000 in
theorem yg123 : zg zms 123 = some (zm123.2.2.1, zm123.2.2.2.1, zc123) := rfl
set_option maxRecDepth 4000 in
theorem yg124 : zg zms 124 = some (zm124.2.2.1, zm124.2.2.2.1, zc124) := rfl
set_option maxRecDepth 4000 in
theorem yg125 : zg zms 125 = some (zm125.2.2.1, zm125.2.2.2.1, zc125) := rfl
set_option maxRecDepth 4000 in
theorem yg126 : zg zms 126 = some (zm126.2.2.1, zm126.2.2.2.1, zc126) := rfl
set_option maxRecDepth 4000 in
theorem yg127 : zg zms 127 = some (zm127.2.2.1, zm127.2.2.2.1, zc127) := rfl
set_option maxRecDepth 4000 in
theorem yg128 : zg zms 128 = some (zm128.2.2.1, zm128.2.2.2.1, zc128) := rfl
set_option maxRecDepth 4000 in
theorem yg129 : zg zms 129 = some (zm129.2.2.1, zm129.2.2.2.1, zc129) := rfl
set_option maxRecDepth 4000 in
theorem yg130 : zg zms 130 = some (zm130.2.2.1, zm130.2.2.2.1, zc130) := rfl
set_option maxRecDepth 4000 in
theorem yg131 : zg zms 131 = some (zm131.2.2.1, zm131.2.2.2.1, zc131) := rfl
set_option maxRecDepth 4000 in
theorem yg132 : zg zms 132 = some (zm132.2.2.1, zm132.2.2.2.1, zc132) := rfl
set_option maxRecDepth 4000 in
theorem yg133 : zg zms 133 = some (zm133.2.2.1, zm133.2.2.2.1, zc133) := rfl
set_option maxRecDepth 4000 in
theorem yg134 : zg zms 134 = some (zm134.2.2.1, zm134.2.2.2.1, zc134) := rfl
set_option maxRecDepth 4000 in
theorem yg135 : zg zms 135 = some (zm135.2.2.1, zm135.2.2.2.1, zc135) := rfl
set_option maxRecDepth 4000 in
theorem yg136 : zg zms 136 = some (zm136.2.2.1, zm136.2.2.2.1, zc136) := rfl
set_option maxRecDepth 4000 in
theorem yg137 : zg zms 137 = some (zm137.2.2.1, zm137.2.2.2.1, zc137) := rfl
set_option maxRecDepth 4000 in
theorem yg138 : zg zms 138 = some (zm138.2.2.1, zm138.2.2.2.1, zc138) := rfl
set_option maxRecDepth 4000 in
theorem yg139 : zg zms 139 = some (zm139.2.2.1, zm139.2.2.2.1, zc139) := rfl
set_option maxRecDepth 4000 in
theorem yg140 : zg zms 140 = some (zm140.2.2.1, zm140.2.2.2.1, zc140) := rfl
set_option maxRecDepth 4000 in
theorem yg141 : zg zms 141 = some (zm141.2.2.1, zm141.2.2.2.1, zc141) := rfl
set_option maxRecDepth 4000 in
theorem yg142 : zg zms 142 = some (zm142.2.2.1, zm142.2.2.2.1, zc142) := rfl
set_option maxRecDepth 4000 in
theorem yg143 : zg zms 143 = some (zm143.2.2.1, zm143.2.2.2.1, zc143) := rfl
set_option maxRecDepth 4000 in
theorem yg144 : zg zms 144 = some (zm144.2.2.1, zm144.2.2.2.1, zc144) := rfl
set_option maxRecDepth 4000 in
theorem yg145 : zg zms 145 = some (zm145.2.2.1, zm145.2.2.2.1, zc145) := rfl
set_option maxRecDepth 4000 in
theorem yg146 : zg zms 146 = some (zm146.2.2.1, zm146.2.2.2.1, zc146) := rfl
set_option maxRecDepth 4000 in
theorem yg147 : zg zms 147 = some (zm147.2.2.1, zm147.2.2.2.1, zc147) := rfl
set_option maxRecDepth 4000 in
theorem yg148 : zg zms 148 = some (zm148.2.2.1, zm148.2.2.2.1, zc148) := rfl
set_option maxRecDepth 4000 in
theorem yg149 : zg zms 149 = some (zm149.2.2.1, zm149.2.2.2.1, zc149) := rfl
set_option maxRecDepth 4000 in
theorem yg150 : zg zms 150 = some (zm150.2.2.1, zm150.2.2.2.1, zc150) := rfl
set_option maxRecDepth 4000 in
theorem yg151 : zg zms 151 = some (zm151.2.2.1, zm151.2.2.2.1, zc151) := rfl
set_option maxRecDepth 4000 in
theorem yg152 : zg zms 152 = some (zm152.2.2.1, zm152.2.2.2.1, zc152) := rfl
set_option maxRecDepth 4000 in
theorem yg153 : zg zms 153 = some (zm153.2.2.1, zm153.2.2.2.1, zc153) := rfl
set_option maxRecDepth 4000 in
theorem yg154 : zg zms 154 = some (zm154.2.2.1, zm154.2.2.2.1, zc154) := rfl
set_option maxRecDepth 4000 in
theorem yg155 : zg zms 155 = some (zm155.2.2.1, zm155.2.2.2.1, zc155) := rfl
set_option maxRecDepth 4000 in
theorem yg156 : zg zms 156 = some (zm156.2.2.1, zm156.2.2.2.1, zc156) := rfl
set_option maxRecDepth 4000 in
theorem yg158 : zg zms 158 = some (zm158.2.2.1, zm158.2.2.2.1, zc158) := rfl
set_option maxRecDepth 4000 in
theorem yg159 : zg zms 159 = some (zm159.2.2.1, zm159.2.2.2.1, zc159) := rfl
set_option maxRecDepth 4000 in
theorem yg160 : zg zms 160 = some (zm160.2.2.1, zm160.2.2.2.1, zc160) := rfl
set_option maxRecDepth 4000 in
theorem yg161 : zg zms 161 = some (zm161.2.2.1, zm161.2.2.2.1, zc161) := rfl
set_option maxRecDepth 4000 in
theorem yg162 : zg zms 162 = some (zm162.2.2.1, zm162.2.2.2.1, zc162) := rfl
set_option maxRecDepth 4000 in
theorem yg163 : zg zms 163 = some (zm163.2.2.1, zm163.2.2.2.1, zc163) := rfl
set_option maxRecDepth 4000 in
theorem yg164 : zg zms 164 = some (zm164.2.2.1, zm164.2.2.2.1, zc164) := rfl
set_option maxRecDepth 4000 in
theorem yg165 : zg zms 165 = some (zm165.2.2.1, zm165.2.2.2.1, zc165) := rfl
set_option maxRecDepth 4000 in
theorem yg166 : zg zms 166 = some (zm166.2.2.1, zm166.2.2.2.1, zc166) := rfl
set_option maxRecDepth 4000 in
theorem yg167 : zg zms 167 = some (zm167.2.2.1, zm167.2.2.2.1, zc167) := rfl
set_option maxRecDepth 4000 in
theorem yg168 : zg zms 168 = some (zm168.2.2.1, zm168.2.2.2.1, zc168) := rfl
set_option maxRecDepth 4000 in
theorem yg170 : zg zms 170 = some (zm170.2.2.1, zm170.2.2.2.1, zc170) := rfl
set_option maxRecDepth 4000 in
theorem yg186 : zg zms 186 = some (zm186.2.2.1, zm186.2.2.2.1, zc186) := rfl
set_option maxRecDepth 4000 in
theorem yg187 : zg zms 187 = some (zm187.2.2.1, zm187.2.2.2.1, zc187) := rfl
set_option maxRecDepth 4000 in
theorem yg188 : zg zms 188 = some (zm188.2.2.1, zm188.2.2.2.1, zc188) := rfl
set_option maxRecDepth 4000 in
theorem yg189 : zg zms 189 = some (zm189.2.2.1, zm189.2.2.2.1, zc189) := rfl
set_option maxRecDepth 4000 in
theorem yg190 : zg zms 190 = some (zm190.2.2.1, zm190.2.2.2.1, zc190) := rfl
set_option maxRecDepth 4000 in
theorem yg191 : zg zms 191 = some (zm191.2.2.1, zm191.2.2.2.1, zc191) := rfl
set_option maxRecDepth 4000 in
theorem yg192 : zg zms 192 = some (zm192.2.2.1, zm192.2.2.2.1, zc192) := rfl
set_option maxRecDepth 4000 in
theorem yg193 : zg zms 193 = some (zm193.2.2.1, zm193.2.2.2.1, zc193) := rfl
set_option maxRecDepth 4000 in
theorem yg194 : zg zms 194 = some (zm194.2.2.1, zm194.2.2.2.1, zc194) := rfl
set_option maxRecDepth 4000 in
theorem yg195 : zg zms 195 = some (zm195.2.2.1, zm195.2.2.2.1, zc195) := rfl
set_option maxRecDepth 4000 in
theorem yg196 : zg zms 196 = some (zm196.2.2.1, zm196.2.2.2.1, zc196) := rfl
set_option maxRecDepth 4000 in
theorem yg197 : zg zms 197 = some (zm197.2.2.1, zm197.2.2.2.1, zc197) := rfl
set_option maxRecDepth 4000 in
theorem yg198 : zg zms 198 = some (zm198.2.2.1, zm198.2.2.2.1, zc198) := rfl
set_option maxRecDepth 4000 in
theorem yg199 : zg zms 199 = some (zm199.2.2.1, zm199.2.2.2.1, zc199) := rfl
set_option maxRecDepth 4000 in
theorem yg204 : zg zms 204 = some (zm204.2.2.1, zm204.2.2.2.1, zc204) := rfl
set_option maxRecDepth 4000 in
theorem yg205 : zg zms 205 = some (zm205.2.2.1, zm205.2.2.2.1, zc205) := rfl
set_option maxRecDepth 4000 in
theorem yg206 : zg zms 206 = some (zm206.2.2.1, zm206.2.2.2.1, zc206) := rfl
set_option maxRecDepth 4000 in
theorem yg207 : zg zms 207 = some (zm207.2.2.1, zm207.2.2.2.1, zc207) := rfl
set_option maxRecDepth 4000 in
theorem yg208 : zg zms 208 = some (zm208.2.2.1, zm208.2.2.2.1, zc208) := rfl
set_option maxRecDepth 4000 in
theorem yg209 : zg zms 209 = some (zm209.2.2.1, zm209.2.2.2.1, zc209) := rfl
set_option maxRecDepth 4000 in
theorem yg210 : zg zms 210 = some (zm210.2.2.1, zm210.2.2.2.1, zc210) := rfl
set_option maxRecDepth 4000 in
theorem yg211 : zg zms 211 = some (zm211.2.2.1, zm211.2.2.2.1, zc211) := rfl
set_option maxRecDepth 4000 in
theorem yg212 : zg zms 212 = some (zm212.2.2.1, zm212.2.2.2.1, zc212) := rfl
set_option maxRecDepth 4000 in
theorem yg213 : zg zms 213 = some (zm213.2.2.1, zm213.2.2.2.1, zc213) := rfl
set_option maxRecDepth 4000 in
theorem yg214 : zg zms 214 = some (zm214.2.2.1, zm214.2.2.2.1, zc214) := rfl
set_option maxRecDepth 4000 in
theorem yg215 : zg zms 215 = some (zm215.2.2.1, zm215.2.2.2.1, zc215) := rfl
set_option maxRecDepth 4000 in
theorem yg216 : zg zms 216 = some (zm216.2.2.1, zm216.2.2.2.1, zc216) := rfl
set_option maxRecDepth 4000 in
theorem yg217 : zg zms 217 = some (zm217.2.2.1, zm217.2.2.2.1, zc217) := rfl
set_option maxRecDepth 4000 in
theorem yg218 : zg zms 218 = some (zm218.2.2.1, zm218.2.2.2.1, zc218) := rfl
set_option maxRecDepth 4000 in
theorem yg219 : zg zms 219 = some (zm219.2.2.1, zm219.2.2.2.1, zc219) := rfl
set_option maxRecDepth 4000 in
theorem yg220 : zg zms 220 = some (zm220.2.2.1, zm220.2.2.2.1, zc220) := rfl
set_option maxRecDepth 4000 in
theorem yg221 : zg zms 221 = some (zm221.2.2.1, zm221.2.2.2.1, zc221) := rfl
set_option maxRecDepth 4000 in
theorem yg222 : zg zms 222 = some (zm222.2.2.1, zm222.2.2.2.1, zc222) := rfl
set_option maxRecDepth 4000 in
theorem yg223 : zg zms 223 = some (zm223.2.2.1, zm223.2.2.2.1, zc223) := rfl
set_option maxRecDepth 4000 in
theorem yg224 : zg zms 224 = some (zm224.2.2.1, zm224.2.2.2.1, zc224) := rfl
set_option maxRecDepth 4000 in
theorem yg225 : zg zms 225 = some (zm225.2.2.1, zm225.2.2.2.1, zc225) := rfl
set_option maxRecDepth 4000 in
theorem yg226 : zg zms 226 = some (zm226.2.2.1, zm226.2.2.2.1, zc226) := rfl
set_option maxRecDepth 4000 in
theorem yg227 : zg zms 227 = some (zm227.2.2.1, zm227.2.2.2.1, zc227) := rfl
set_option maxRecDepth 4000 in
theorem yg228 : zg zms 228 = some (zm228.2.2.1, zm228.2.2.2.1, zc228) := rfl
set_option maxRecDepth 4000 in
theorem yg229 : zg zms 229 = some (zm229.2.2.1, zm229.2.2.2.1, zc229) := rfl
set_option maxRecDepth 4000 in
theorem yg230 : zg zms 230 = some (zm230.2.2.1, zm230.2.2.2.1, zc230) := rfl
set_option maxRecDepth 4000 in
theorem yg231 : zg zms 231 = some (zm231.2.2.1, zm231.2.2.2.1, zc231) := rfl
set_option maxRecDepth 4000 in
theorem yg232 : zg zms 232 = some (zm232.2.2.1, zm232.2.2.2.1, zc232) := rfl
set_option maxRecDepth 4000 in
theorem yg233 : zg zms 233 = some (zm233.2.2.1, zm233.2.2.2.1, zc233) := rfl
set_option maxRecDepth 4000 in
theorem yg234 : zg zms 234 = some (zm234.2.2.1, zm234.2.2.2.1, zc234) := rfl
set_option maxRecDepth 4000 in
theorem yg235 : zg zms 235 = some (zm235.2.2.1, zm235.2.2.2.1, zc235) := rfl
set_option maxRecDepth 4000 in
theorem yg236 : zg zms 236 = some (zm236.2.2.1, zm236.2.2.2.1, zc236) := rfl
set_option maxRecDepth 4000 in
theorem yg237 : zg zms 237 = some (zm237.2.2.1, zm237.2.2.2.1, zc237) := rfl
set_option maxRecDepth 4000 in
theorem yg238 : zg zms 238 = some (zm238.2.2.1, zm238.2.2.2.1, zc238) := rfl
set_option maxRecDepth 4000 in
theorem yg239 : zg zms 239 = some (zm239.2.2.1, zm239.2.2.2.1, zc239) := rfl
set_option maxRecDepth 4000 in
theorem yg240 : zg zms 240 = some (zm240.2.2.1, zm240.2.2.2.1, zc240) := rfl
set_option maxRecDepth 4000 in
theorem yg241 : zg zms 241 = some (zm241.2.2.1, zm241.2.2.2.1, zc241) := rfl
set_option maxRecDepth 4000 in
theorem yg242 : zg zms 242 = some (zm242.2.2.1, zm242.2.2.2.1, zc242) := rfl
set_option maxRecDepth 4000 in
theorem yg243 : zg zms 243 = some (zm243.2.2.1, zm243.2.2.2.1, zc243) := rfl
set_option maxRecDepth 4000 in
theorem yg244 : zg zms 244 = some (zm244.2.2.1, zm244.2.2.2.1, zc244) := rfl
set_option maxRecDepth 4000 in
theorem yg245 : zg zms 245 = some (zm245.2.2.1, zm245.2.2.2.1, zc245) := rfl
set_option maxRecDepth 4000 in
theorem yg246 : zg zms 246 = some (zm246.2.2.1, zm246.2.2.2.1, zc246) := rfl
set_option maxRecDepth 4000 in
theorem yg247 : zg zms 247 = some (zm247.2.2.1, zm247.2.2.2.1, zc247) := rfl
set_option maxRecDepth 4000 in
theorem yg248 : zg zms 248 = some (zm248.2.2.1, zm248.2.2.2.1, zc248) := rfl
set_option maxRecDepth 4000 in
theorem yg249 : zg zms 249 = some (zm249.2.2.1, zm249.2.2.2.1, zc249) := rfl
set_option maxRecDepth 4000 in
theorem yg250 : zg zms 250 = some (zm250.2.2.1, zm250.2.2.2.1, zc250) := rfl
set_option maxRecDepth 4000 in
theorem yg251 : zg zms 251 = some (zm251.2.2.1, zm251.2.2.2.1, zc251) := rfl
set_option maxRecDepth 4000 in
theorem yg252 : zg zms 252 = some (zm252.2.2.1, zm252.2.2.2.1, zc252) := rfl
set_option maxRecDepth 4000 in
theorem yg253 : zg zms 253 = some (zm253.2.2.1, zm253.2.2.2.1, zc253) := rfl
set_option maxRecDepth 4000 in
theorem yg254 : zg zms 254 = some (zm254.2.2.1, zm254.2.2.2.1, zc254) := rfl
set_option maxRecDepth 4000 in
theorem yg255 : zg zms 255 = some (zm255.2.2.1, zm255.2.2.2.1, zc255) := rfl
set_option maxRecDepth 4000 in
theorem yg256 : zg zms 256 = some (zm256.2.2.1, zm256.2.2.2.1, zc256) := rfl
set_option maxRecDepth 4000 in
theorem yg257 : zg zms 257 = some (zm257.2.2.1, zm257.2.2.2.1, zc257) := rfl
set_option maxRecDepth 4000 in
theorem yg258 : zg zms 258 = some (zm258.2.2.1, zm258.2.2.2.1, zc258) := rfl
set_option maxRecDepth 4000 in
theorem yg259 : zg zms 259 = some (zm259.2.2.1, zm259.2.2.2.1, zc259) := rfl
set_option maxRecDepth 4000 in
theorem yg260 : zg zms 260 = some (zm260.2.2.1, zm260.2.2.2.1, zc260) := rfl
set_option maxRecDepth 4000 in
theorem yg261 : zg zms 261 = some (zm261.2.2.1, zm261.2.2.2.1, zc261) := rfl
set_option maxRecDepth 4000 in
theorem yg262 : zg zms 262 = some (zm262.2.2.1, zm262.2.2.2.1, zc262) := rfl
set_option maxRecDepth 4000 in
theorem yg263 : zg zms 263 = some (zm263.2.2.1, zm263.2.2.2.1, zc263) := rfl
set_option maxRecDepth 4000 in
theorem yg264 : zg zms 264 = some (zm264.2.2.1, zm264.2.2.2.1, zc264) := rfl
set_option maxRecDepth 4000 in
theorem yg265 : zg zms 265 = some (zm265.2.2.1, zm265.2.2.2.1, zc265) := rfl
set_option maxRecDepth 4000 in
theorem yg267 : zg zms 267 = some (zm267.2.2.1, zm267.2.2.2.1, zc267) := rfl
set_option maxRecDepth 4000 in
theorem yg268 : zg zms 268 = some (zm268.2.2.1, zm268.2.2.2.1, zc268) := rfl
set_option maxRecDepth 4000 in
theorem yg269 : zg zms 269 = some (zm269.2.2.1, zm269.2.2.2.1, zc269) := rfl
set_option maxRecDepth 4000 in
theorem yg270 : zg zms 270 = some (zm270.2.2.1, zm270.2.2.2.1, zc270) := rfl
set_option maxRecDepth 4000 in
theorem yg271 : zg zms 271 = some (zm271.2.2.1, zm271.2.2.2.1, zc271) := rfl
set_option maxRecDepth 4000 in
theorem yg272 : zg zms 272 = some (zm272.2.2.1, zm272.2.2.2.1, zc272) := rfl
set_option maxRecDepth 4000 in
theorem yg273 : zg zms 273 = some (zm273.2.2.1, zm273.2.2.2.1, zc273) := rfl
set_option maxRecDepth 4000 in
theorem yg274 : zg zms 274 = some (zm274.2.2.1, zm274.2.2.2.1, zc274) := rfl
set_option maxRecDepth 4000 in
theorem yg275 : zg zms 275 = some (zm275.2.2.1, zm275.2.2.2.1, zc275) := rfl
set_option maxRecDepth 4000 in
theorem yg276 : zg zms 276 = some (zm276.2.2.1, zm276.2.2.2.1, zc276) := rfl
set_option maxRecDepth 4000 in
theorem yg277 : zg zms 277 = some (zm277.2.2.1, zm277.2.2.2.1, zc277) := rfl
set_option maxRecDepth 4000 in
theorem yg278 : zg zms 278 = some (zm278.2.2.1, zm278.2.2.2.1, zc278) := rfl
set_option maxRecDepth 4000 in
theorem yg279 : zg zms 279 = some (zm279.2.2.1, zm279.2.2.2.1, zc279) := rfl
set_option maxRecDepth 4000 in
theorem yg280 : zg zms 280 = some (zm280.2.2.1, zm280.2.2.2.1, zc280) := rfl
set_option maxRecDepth 4000 in
theorem yg281 : zg zms 281 = some (zm281.2.2.1, zm281.2.2.2.1, zc281) := rfl
set_option maxRecDepth 4000 in
theorem yg282 : zg zms 282 = some (zm282.2.2.1, zm282.2.2.2.1, zc282) := rfl
set_option maxRecDepth 4000 in
theorem yg283 : zg zms 283 = some (zm283.2.2.1, zm283.2.2.2.1, zc283) := rfl
set_option maxRecDepth 4000 in
theorem yg284 : zg zms 284 = some (zm284.2.2.1, zm284.2.2.2.1, zc284) := rfl
set_option maxRecDepth 4000 in
theorem yg285 : zg zms 285 = some (zm285.2.2.1, zm285.2.2.2.1, zc285) := rfl
set_option maxRecDepth 4000 in
theorem yg286 : zg zms 286 = some (zm286.2.2.1, zm286.2.2.2.1, zc286) := rfl
set_option maxRecDepth 4000 in
theorem yg291 : zg zms 291 = some (zm291.2.2.1, zm291.2.2.2.1, zc291) := rfl
set_option maxRecDepth 4000 in
theorem yg293 : zg zms 293 = some (zm293.2.2.1, zm293.2.2.2.1, zc293) := rfl
end
section
def yq4_0 : yCu := (2, (2, [(0, 0, 6), (1, 0, 6)], [], [(yc 80, yc 0, (0, (1, 0, 0), yc 0)), (yc 80, yc 2, (0, (1, 1, 0), yc 0))], [(0, (2, yc 70, yc 0)), (1, (0, yc 0, yc 0))], []), ([], 101))
def yq4_1 : yCu := (2, (2, [(0, 0, 6), (1, 0, 6)], [], [(yc 80, yc 0, (0, (1, 0, 0), yc 0)), (yc 80, yc 2, (0, (1, 1, 0), yc 0)), (yc 84, yc 0, (0, (1, 0, 0), yc 0)), (yc 84, yc 2, (0, (1, 1, 0), yc 0))], [(0, (2, yc 70, yc 0)), (1, (0, yc 20, yc 0))], []), ([], 81))
def yq4_2 : yCu := (2, (2, [(0, 0, 6), (1, 0, 6)], [], [(yc 80, yc 0, (0, (1, 0, 0), yc 0)), (yc 80, yc 2, (0, (1, 1, 0), yc 0)), (yc 84, yc 0, (0, (1, 0, 0), yc 0)), (yc 84, yc 2, (0, (1, 1, 0), yc 0))], [(0, (2, yc 70, yc 0)), (1, (0, yc 40, yc 0))], []), ([], 61))
def yq4_3 : yCu := (2, (2, [(0, 0, 6), (1, 0, 6)], [], [(yc 80, yc 0, (0, (1, 0, 0), yc 0)), (yc 80, yc 2, (0, (1, 1, 0), yc 0)), (yc 84, yc 0, (0, (1, 0, 0), yc 0)), (yc 84, yc 2, (0, (1, 1, 0), yc 0))], [(0, (2, yc 70, yc 0)), (1, (0, yc 60, yc 0))], []), ([], 41))
def yq4_4 : yCu := (2, (2, [(0, 0, 6), (1, 0, 6)], [], [(yc 80, yc 0, (0, (1, 0, 0), yc 0)), (yc 80, yc 2, (0, (1, 1, 0), yc 0)), (yc 84, yc 0, (0, (1, 0, 0), yc 0)), (yc 84, yc 2, (0, (1, 1, 0), yc 0))], [(0, (2, yc 70, yc 0)), (1, (0, yc 80, yc 0))], []), ([], 21))
def yq4_5 : yCu := (2, (2, [(0, 0, 6), (1, 0, 6)], [], [(yc 80, yc 0, (0, (1, 0, 0), yc 0)), (yc 80, yc 2, (0, (1, 1, 0), yc 0)), (yc 84, yc 0, (0, (1, 0, 0), yc 0)), (yc 84, yc 2, (0, (1, 1, 0), yc 0))], [(0, (2, yc 70, yc 0)), (1, (0, yc 100, yc 0))], []), ([], 1))
def yq4_6 : yCu := (2, (2, [(0, 0, 6), (1, 0, 6)], [], [(yc 80, yc 0, (0, (1, 0, 0), yc 0)), (yc 80, yc 2, (0, (1, 1, 0), yc 0)), (yc 84, yc 0, (0, (1, 0, 0), yc 0)), (yc 84, yc 2, (0, (1, 1, 0), yc 0))], [(0, (2, yc 70, yc 0)), (1, (0, yc 120, yc 0))], []), ([], 0))
def yx4 : yCx := ([], ys4.2.2.2.2, [], zm259.2.2.1, zm259.2.2.2.1, zc259, 2, ys4.2.2.2.1, [yq4_0, yq4_1, yq4_2, yq4_3, yq4_4, yq4_5, yq4_6], [])
theorem yk4_e : yver0 yx4 ys4.2.2.1 20000 = true := by decide +kernel
theorem yk4_0 : ycc yx4 20000 yq4_0 = true := by decide +kernel
theorem yk4_1 : ycc yx4 20000 yq4_1 = true := by decide +kernel
theorem yk4_2 : ycc yx4 20000 yq4_2 = true := by decide +kernel
theorem yk4_3 : ycc yx4 20000 yq4_3 = true := by decide +kernel
theorem yk4_4 : ycc yx4 20000 yq4_4 = true := by decide +kernel
theorem yk4_5 : ycc yx4 20000 yq4_5 = true := by decide +kernel
theorem yk4_6 : ycc yx4 20000 yq4_6 = true := by decide +kernel
theorem yk4 : yver yx4 ys4.2.2.1 20000 = true := yver_join yk4_e (ycc_c yk4_0 (ycc_c yk4_1 (ycc_c yk4_2 (ycc_c yk4_3 (ycc_c yk4_4 (ycc_c yk4_5 (ycc_c yk4_6 (ycc_n))))))))
theorem yt4 : yTs (fun _ => True) 1 ys4 := yver_s (x := yx4) (yEF_T _) (yal_n) yg259 yk4
end
section
def yq5_0 : yCu := (2, (2, [(0, 0, 6), (1, 0, 6)], [], [(yc 84, yc 0, (0, (1, 0, 0), yc 0)), (yc 84, yc 2, (0, (1, 1, 0), yc 0))], [(0, (2, yc 70, yc 0)), (1, (0, yc 0, yc 0))], []), ([], 101))
def yq5_1 : yCu := (2, (2, [(0, 0, 6), (1, 0, 6)], [], [(yc 84, yc 0, (0, (1, 0, 0), yc 0)), (yc 84, yc 2, (0, (1, 1, 0), yc 0)), (yc 80, yc 0, (0, (1, 0, 0), yc 0)), (yc 80, yc 2, (0, (1, 1, 0), yc 0))], [(0, (2, yc 70, yc 0)), (1, (0, yc 20, yc 0))], []), ([], 81))
def yq5_2 : yCu := (2, (2, [(0, 0, 6), (1, 0, 6)], [], [(yc 84, yc 0, (0, (1, 0, 0), yc 0)), (yc 84, yc 2, (0, (1, 1, 0), yc 0)), (yc 80, yc 0, (0, (1, 0, 0), yc 0)), (yc 80, yc 2, (0, (1, 1, 0), yc 0))], [(0, (2, yc 70, yc 0)), (1, (0, yc 40, yc 0))], []), ([], 61))
def yq5_3 : yCu := (2, (2, [(0, 0, 6), (1, 0, 6)], [], [(yc 84, yc 0, (0, (1, 0, 0), yc 0)), (yc 84, yc 2, (0, (1, 1, 0), yc 0)), (yc 80, yc 0, (0, (1, 0, 0), yc 0)), (yc 80, yc 2, (0, (1, 1, 0), yc 0))], [(0, (2, yc 70, yc 0)), (1, (0, yc 60, yc 0))], []), ([], 41))
def yq5_4 : yCu := (2, (2, [(0, 0, 6), (1, 0, 6)], [], [(yc 84, yc 0, (0, (1, 0, 0), yc 0)), (yc 84, yc 2, (0, (1, 1, 0), yc 0)), (yc 80, yc 0, (0, (1, 0, 0), yc 0)), (yc 80, yc 2, (0, (1, 1, 0), yc 0))], [(0, (2, yc 70, yc 0)), (1, (0, yc 80, yc 0))], []), ([], 21))
def yq5_5 : yCu := (2, (2, [(0, 0, 6), (1, 0, 6)], [], [(yc 84, yc 0, (0, (1, 0, 0), yc 0)), (yc 84, yc 2, (0, (1, 1, 0), yc 0)), (yc 80, yc 0, (0, (1, 0, 0), yc 0)), (yc 80, yc 2, (0, (1, 1, 0), yc 0))], [(0, (2, yc 70, yc 0)), (1, (0, yc 100, yc 0))], []), ([], 1))
def yq5_6 : yCu := (2, (2, [(0, 0, 6), (1, 0, 6)], [], [(yc 84, yc 0, (0, (1, 0, 0), yc 0)), (yc 84, yc 2, (0, (1, 1, 0), yc 0)), (yc 80, yc 0, (0, (1, 0, 0), yc 0)), (yc 80, yc 2, (0, (1, 1, 0), yc 0))], [(0, (2, yc 70, yc 0)), (1, (0, yc 120, yc 0))], []), ([], 0))
def yx5 : yCx := ([], ys5.2.2.2.2, [], zm260.2.2.1, zm260.2.2.2.1, zc260, 2, ys5.2.2.2.1, [yq5_0, yq5_1, yq5_2, yq5_3, yq5_4, yq5_5, yq5_6], [])
theorem yk5_e : yver0 yx5 ys5.2.2.1 20000 = true := by decide +kernel
theorem yk5_0 : ycc yx5 20000 yq5_0 = true := by decide +kernel
theorem yk5_1 : ycc yx5 20000 yq5_1 = true := by decide +kernel
theorem yk5_2 : ycc yx5 20000 yq5_2 = true := by decide +kernel
theorem yk5_3 : ycc yx5 20000 yq5_3 = true := by decide +kernel
theorem yk5_4 : ycc yx5 20000 yq5_4 = true := by decide +kernel
theorem yk5_5 : ycc yx5 20000 yq5_5 = true := by decide +kernel
theorem yk5_6 : ycc yx5 20000 yq5_6 = true := by decide +kernel
theorem yk5 : yver yx5 ys5.2.2.1 20000 = true := yver_join yk5_e (ycc_c yk5_0 (ycc_c yk5_1 (ycc_c yk5_2 (ycc_c yk5_3 (ycc_c yk5_4 (ycc_c yk5_5 (ycc_c yk5_6 (ycc_n))))))))
theorem yt5 : yTs (fun _ => True) 1 ys5 := yver_s (x := yx5) (yEF_T _) (yal_n) yg260 yk5
end
section
def ys6 : ySp := (158, 6, (1, [(0, (-9223372036854775808), 9223372036854775807)], [], [], [(0, (1, (1, 0, 0), yc 0)), (2, (1, yc 0, yc 0)), (4, (1, yc 3, yc 0))], []), [(1, [(0, (-9223372036854775808), (-1))], [], [], [], [(0, yc 0, yc 0)]), (1, [(0, 4, 9223372036854775807)], [], [], [], [(0, yc 0, yc 0)]), (1, [(0, 0, 3)], [], [], [], [(0, yc 1, yc 0)])], [])
def yx6 : yCx := ([], ys6.2.2.2.2, yFP, zm158.2.2.1, zm158.2.2.2.1, zc158, 1, ys6.2.2.2.1, [], [])
theorem yw6 : ywf ys6.2.2.1 = true := by decide +kernel
theorem yk6 : yver yx6 ys6.2.2.1 4000 = true := by decide +kernel
theorem yt6 {E : zHp → Prop} (h : yEF E yFP) : yTs E 1 ys6 := yver_s (k := 158) (n := 0) (x := yx6) (P := ys6.2.2.1) (f := 4000) h (yal_n) yg158 yk6
end
