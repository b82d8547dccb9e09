/-! Steps of the checker that write cells. -/
section YWR
variable {hp hp' : zHp} {r : Nat → Int} {S : yS} {lv : List (Nat × Value)} {st : List Value} {pc : Nat}
def aAlen (pc : Nat) (S : yS) : yO := match S.2.2.2.2.2 with
  | v :: s => match ycel S.2.1 v with
    | some q => if (ykI q.2 || ykB q.2) = true then (if q.2.1 = 1 then some [(pc + 1, yst S (yI (yc q.2.2.2.1) :: s))] else match ylk S.2.2.2.1 q.1 (yc (-1)) with
      | some w => if w.1 = 0 then some [(pc + 1, yst S (w :: s))] else none
      | none => some [(pc + 1, yst (yfrs S 0 (0, 400) true q.1 (yc (-1))).1 ((yfrs S 0 (0, 400) true q.1 (yc (-1))).2 :: s))]) else none
    | none => if v.1 = 2 then (match yrg S.2.1 v.2.1 with
      | some p => if p.1 = p.2 ∧ 1020 ≤ p.1 then (match ztb none (p.1.toNat - 1000) with
        | some t => if t.2.1 ≤ 3000 then some [(pc + 1, yst S (yI (yc t.2.1) :: s))] else none
        | none => none) else none
      | none => none) else none
  | _ => none
theorem aAlen_ok (g : yG hp r S lv st) (H : yH0 hp) {L : List (Nat × yS)} (h : aAlen pc S = some L) : yD hp r S.1 L (zAlen ztb none (pc, lv, st) hp) := by
  unfold aAlen at h
  split at h
  · next v s hs =>
    have g5 := g.2.2.2.2
    rw [hs] at g5
    obtain ⟨u, m, rfl, ⟨w, hv⟩, gm⟩ := ystk_cons g5
    split at h
    · next q hq =>
      split at h
      · next c =>
        rw [Bool.or_eq_true] at c
        obtain ⟨i, rfl, hi, ei, wq, hok, -, -⟩ := ycel_ok g.1 H w hv hq
        have hok := hok (yk_7 c)
        have row : ∃ (t n : Nat) (f : Nat → Int32), t < 6 ∧ hp.2 i = .inl (t, n, .inl f) ∧ n ≤ 3000 ∧ (q.2.1 = 1 → n = q.2.2.2.1) ∧ (¬ q.2.1 = 1 → n ≤ 400) := by
          rcases c with c | c
          · obtain ⟨n, f, e, h1, h2, h3, h4⟩ := ykI_c c hok
            refine ⟨0, n, f, by decide, e, h1, h2, fun z => ?_⟩
            unfold ykI at c
            simp only [Bool.or_eq_true, Bool.and_eq_true, beq_iff_eq, decide_eq_true_eq] at c
            rcases c with c | c
            · exact (z c.1.1).elim
            · unfold yokc at hok
              rw [c.1] at hok
              obtain ⟨n2, f2, e1, e2⟩ := hok
              rw [e] at e2
              cases e2
              exact e1
          · obtain ⟨t, n, f, ht, -, e, h1, h2, h3, h4⟩ := ykB_c c hok
            refine ⟨t, n, f, by omega, e, h1, h2, fun z => ?_⟩
            unfold ykB at c
            simp only [Bool.and_eq_true, beq_iff_eq] at c
            exact (z c.1.1).elim
        obtain ⟨t, n, f, ht, e, hn, hn1, hn2⟩ := row
        have ez : zAlen ztb none (pc, lv, .ref i :: m) hp = zn (pc + 1) lv (.int (Int32.ofNat n) :: m) hp := by
          unfold zAlen
          dsimp only
          rw [if_pos (show i < zSC from Nat.lt_of_lt_of_le hi H.2.1), if_pos hi, e]
          dsimp only
          rw [if_pos ht]
        have en : (Int32.ofNat n).toInt = (n : Int) := Int32.toInt_ofNat_of_lt (by omega)
        have er : yrd hp (yev r q.1).toNat (yev r (yc (-1))) = some (.int (Int32.ofNat n)) := by
          rw [show (yev r q.1).toNat = i by omega, yev_c]
          unfold yrd
          rw [e]
          dsimp only
          rw [if_pos (by decide)]
          exact if_pos hi
        rw [ez]
        split at h
        · next c1 =>
          cases h
          exact yD1 rfl (yag_refl _ _) (Nat.le_refl _) (yG_st g ⟨⟨ywI (ywc _ _), yvI (by rw [yev_c, en, hn1 c1])⟩, gm⟩)
        · next c1 =>
          split at h
          · next x hx =>
            split at h
            · cases h
              obtain ⟨⟨-, -, wx⟩, k1, k2, k3, k4⟩ := g.2.2.1 _ (ylk_mem hx)
              have k3 : yrd hp (yev r q.1).toNat (yev r (yc (-1))) = some k2 := k3
              rw [er] at k3
              cases k3
              exact yD1 rfl (yag_refl _ _) (Nat.le_refl _) (yG_st g ⟨⟨wx, k4⟩, gm⟩)
            · cases h
          · cases h
            have := hn2 c1
            obtain ⟨r2, a1, a2, a3, a4, a5, a6⟩ := yfrs_ok g (tag := 0) (q := (0, 400)) (keep := true) (cl := q.1) (il := yc (-1)) (z := (Int32.ofNat n).toInt) (w := .int (Int32.ofNat n)) (by rw [en]; show 0 ≤ (n : Int) ∧ (n : Int) ≤ 400; omega) (fun r2 l e => yvI e.symm) wq (ywc _ _) (fun _ => ⟨by omega, er⟩)
            exact yD1 rfl a1 a2 (yG_st a4 ⟨⟨a5, a6⟩, ystk_ag a2 a1 gm⟩)
      · cases h
    · split at h
      · next h2 =>
        split at h
        · next p hp1 =>
          split at h
          · next c =>
            split at h
            · next t ht =>
              split at h
              · next c2 =>
                cases h
                have bb := yrg_ok g.1 hp1
                unfold yv at hv
                rw [h2] at hv
                rcases hv with ⟨hv, -⟩ | ⟨hv, rfl⟩
                · omega
                · have e : (yev r v.2.1).toNat = p.1.toNat := by omega
                  have ez : zAlen ztb none (pc, lv, .ref (yev r v.2.1).toNat :: m) hp = zn (pc + 1) lv (.int (Int32.ofNat t.2.1) :: m) hp := by
                    unfold zAlen
                    dsimp only
                    rw [if_neg (show ¬ (yev r v.2.1).toNat < zSC by show ¬ _ < 1000; omega), show (yev r v.2.1).toNat - zSC = p.1.toNat - 1000 by show _ - 1000 = _; omega, ht]
                  rw [ez]
                  exact yD1 rfl (yag_refl _ _) (Nat.le_refl _) (yG_st g ⟨⟨ywI (ywc _ _), yvI (by rw [yev_c]; exact Int32.toInt_ofNat_of_lt (by omega))⟩, gm⟩)
              · cases h
            · cases h
          · cases h
        · cases h
      · cases h
  · cases h
/-- the cells change, the places that are kept don't -/
theorem yG_hp (g : yG hp r S lv st) (e : hp'.1 = hp.1) {tr : List yK} (h : ∀ t ∈ tr, t ∈ S.2.2.2.1 ∧ (0 ≤ yev r t.1 → yrd hp' (yev r t.1).toNat (yev r t.2.1) = yrd hp (yev r t.1).toNat (yev r t.2.1))) : yG hp' r (S.1, S.2.1, S.2.2.1, tr, S.2.2.2.2) lv st := by
  refine ⟨g.1, g.2.1, fun t ht => ?_, by show yGl hp'.1 _ _ _ _; rw [e]; exact g.2.2.2.1, by show ystk hp'.1 _ _ _ _; rw [e]; exact g.2.2.2.2⟩
  obtain ⟨h1, h2⟩ := h t ht
  obtain ⟨w, k1, k2, k3, k4⟩ := g.2.2.1 t h1
  exact ⟨w, k1, k2, by rw [h2 k1]; exact k3, by rw [e]; exact k4⟩
theorem ykill_ok (g : yG hp r S lv st) {cl il : yL} {i : Nat} {j : Int} (hi : (i : Int) = yev r cl) (hj : j = yev r il) (e : hp'.1 = hp.1) (h : ∀ a b, ¬ (a = i ∧ b = j) → yrd hp' a b = yrd hp a b) : yG hp' r (S.1, S.2.1, S.2.2.1, ykill S.2.1 cl il S.2.2.2.1, S.2.2.2.2) lv st := by
  refine yG_hp g e (fun t ht => ?_)
  unfold ykill at ht
  rw [List.mem_filter, Bool.or_eq_true] at ht
  refine ⟨ht.1, fun h0 => h _ _ (fun z => ?_)⟩
  rcases ht.2 with k | k
  · have := yap_ok g.1 k
    omega
  · have := yap_ok g.1 k
    omega
/-- a cell of ours is set, at one place -/
theorem yset_H (H : yH0 hp) {i : Nat} {c : zCl} (h : i < hp.1 → yokc hp.1 (yty i) c) : yH0 (hp.1, zup hp.2 i c) := by
  refine ⟨H.1, H.2.1, fun k hk => ?_⟩
  show yokc hp.1 (yty k) (zup hp.2 i c k)
  unfold zup
  split
  · next e =>
    subst e
    exact h hk
  · exact H.2.2 k hk
theorem yrd_ne {i k : Nat} {c : zCl} (h : ¬ k = i) (j : Int) : yrd (hp.1, zup hp.2 i c) k j = yrd hp k j := by
  unfold yrd
  have e : zup hp.2 i c k = hp.2 k := if_neg h
  show (match zup hp.2 i c k with | .inr (_, fs) => _ | .inl (_, n, x) => _) = _
  rw [e]
  rfl
theorem yrd_at {i : Nat} {c : zCl} : (hp.1, zup hp.2 i c).2 i = c := if_pos rfl
/-- where a write goes, the mask lets it -/
def ymok (M : yM) (lo hi : Int) (il : yL) : Bool := M.any (fun m => decide ((m.1 : Int) ≤ lo) && decide (hi ≤ (m.2.1 : Int)) && (m.2.2 == 1000 || (il.1 == 0 && decide ((m.2.2 : Int) = il.2.2))))
theorem ymok_ok {M : yM} {lo hi : Int} {il : yL} (h : ymok M lo hi il = true) {i : Nat} (h1 : lo ≤ (i : Int)) (h2 : (i : Int) ≤ hi) : yinM M i (yev r il) = true := by
  unfold ymok at h
  rw [List.any_eq_true] at h
  obtain ⟨m, hm, h⟩ := h
  unfold yinM
  rw [List.any_eq_true]
  refine ⟨m, hm, ?_⟩
  simp only [Bool.and_eq_true, Bool.or_eq_true, decide_eq_true_eq, beq_iff_eq] at h ⊢
  obtain ⟨⟨a1, a2⟩, a3⟩ := h
  refine ⟨⟨by omega, by omega⟩, ?_⟩
  rcases a3 with a3 | ⟨a3, a4⟩
  · exact Or.inl a3
  · rw [yev_0 a3]
    exact Or.inr a4
/-- where a write goes, nothing of this lies -/
def ynof (b : yB) (F : yM) (lo hi : Int) (il : yL) : Bool := F.all (fun m => decide (hi < (m.1 : Int)) || decide ((m.2.1 : Int) < lo) || (!(m.2.2 == 1000) && yap b il (yc m.2.2)))
theorem ynof_ok {n : Nat} {b : yB} (g : yGe r n b) {F : yM} {lo hi : Int} {il : yL} (h : ynof b F lo hi il = true) {i : Nat} (h1 : lo ≤ (i : Int)) (h2 : (i : Int) ≤ hi) : yinM F i (yev r il) = false := by
  cases e : yinM F i (yev r il) with
  | false => rfl
  | true =>
    exfalso
    unfold yinM at e
    rw [List.any_eq_true] at e
    obtain ⟨m, hm, e⟩ := e
    have k := List.all_eq_true.mp h m hm
    simp only [Bool.and_eq_true, Bool.or_eq_true, decide_eq_true_eq, beq_iff_eq, Bool.not_eq_true', beq_eq_false_iff_ne] at e k
    obtain ⟨⟨a1, a2⟩, a3⟩ := e
    rcases k with (k | k) | ⟨k1, k2⟩
    · omega
    · omega
    · have := yap_ok g k2
      rw [yev_c] at this
      rcases a3 with a3 | a3
      · exact k1 a3
      · exact this a3.symm
/-- one of the states holds behind the step, the cells are as they should be, nothing but M has changed -/
def yW (E : zHp → Prop) (M : yM) (hp : zHp) (r : Nat → Int) (n : Nat) (L : List (Nat × yS)) (o : zO) : Prop := ∃ (fr' : zFr) (hp' : zHp), o = some (.inl (fr', hp')) ∧ (yH0 hp' ∧ E hp') ∧ yF M hp hp' ∧ ∃ q ∈ L, q.1 = fr'.1 ∧ ∃ r2, yag n r r2 ∧ n ≤ q.2.1 ∧ yG hp' r2 q.2 fr'.2.1 fr'.2.2
theorem yW_D {E : zHp → Prop} {M : yM} {n : Nat} {L : List (Nat × yS)} {o : zO} (H : yH0 hp ∧ E hp) (h : yD hp r n L o) : yW E M hp r n L o := by
  obtain ⟨fr', h1, h2⟩ := h
  exact ⟨fr', hp, h1, H, yF_refl _ _, h2⟩
/-- what E says lies in F alone -/
def yEF (E : zHp → Prop) (F : yM) : Prop := ∀ a b : zHp, E a → b.1 = a.1 → (∀ i j, yinM F i j = true → yrd b i j = yrd a i j) → E b
theorem yF_set {M : yM} {i : Nat} {j0 : Int} (e : hp'.1 = hp.1) (h : ∀ a b, ¬ (a = i ∧ b = j0) → yrd hp' a b = yrd hp a b) (hm : yinM M i j0 = true) (h0 : 0 ≤ j0) : yF M hp hp' := by
  refine ⟨Nat.le_of_eq e.symm, fun _ => e, fun a b k => h a b (fun z => ?_)⟩
  obtain ⟨rfl, rfl⟩ := z
  rcases k with k | k
  · omega
  · rw [hm] at k
    cases k
theorem yE_set {E : zHp → Prop} {F : yM} (hE : yEF E F) {i : Nat} {j0 : Int} (e : hp'.1 = hp.1) (h : ∀ a b, ¬ (a = i ∧ b = j0) → yrd hp' a b = yrd hp a b) (hf : yinM F i j0 = false) (h1 : E hp) : E hp' := by
  refine hE hp hp' h1 e (fun a b k => h a b (fun z => ?_))
  obtain ⟨rfl, rfl⟩ := z
  rw [hf] at k
  cases k
def aPutf (M F : yM) (a b : Nat) (pc : Nat) (S : yS) : yO := match S.2.2.2.2.2 with
  | x :: v :: s => (match ycel S.2.1 v, yrg S.2.1 x.2.1 with
    | some q, some p => if v.1 = 2 ∧ q.2.1 = 0 ∧ q.2.2.1 = a ∧ q.1.1 = 0 then (match q.2.2.2.2.2[b]? with
      | some t => if x.1 = t.1 ∧ t.1 < 3 ∧ t.2.1 ≤ p.1 ∧ p.2 ≤ t.2.2 ∧ (t.1 = 2 → 0 ≤ t.2.1) ∧ (t.1 = 0 → zfit (ztyp a b) (.int 0) = true) ∧ (t.1 = 1 → zfit (ztyp a b) (.long 0) = true) ∧ (t.1 = 2 → zfit (ztyp a b) .null = true) ∧ ymok M q.1.2.2 q.1.2.2 (yc b) = true ∧ ynof S.2.1 F q.1.2.2 q.1.2.2 (yc b) = true then
          some [(pc + 3, (S.1, S.2.1, S.2.2.1, (q.1, yc b, x) :: ykill S.2.1 q.1 (yc b) S.2.2.2.1, S.2.2.2.2.1, s))] else none
      | none => none) else none
    | _, _ => none)
  | _ => none
theorem zfit_i {ty : FieldType} (x : Int32) (h : zfit ty (.int 0) = true) : zfit ty (.int x) = true := by cases ty <;> first | exact h | (cases h; done)
theorem zfit_l {ty : FieldType} (x : Int64) (h : zfit ty (.long 0) = true) : zfit ty (.long x) = true := by cases ty <;> first | exact h | (cases h; done)
theorem zfit_r {ty : FieldType} (x : Nat) (h : zfit ty .null = true) : zfit ty (.ref x) = true := by cases ty <;> first | exact h | rfl | (cases h; done)
theorem aPutf_ok {E : zHp → Prop} {M F : yM} (hE : yEF E F) (g : yG hp r S lv st) (H : yH0 hp ∧ E hp) {a b : Nat} {L : List (Nat × yS)} (h : aPutf M F a b pc S = some L) : yW E M hp r S.1 L (zPutf (ztyp a b) a b (pc, lv, st) hp) := by
  unfold aPutf at h
  split at h
  · next x v s hs =>
    have g5 := g.2.2.2.2
    rw [hs] at g5
    obtain ⟨u, m1, rfl, ⟨wu, hu⟩, g6⟩ := ystk_cons g5
    obtain ⟨v2, m, rfl, ⟨w2, hv2⟩, g7⟩ := ystk_cons g6
    split at h
    · next q p hq hp1 =>
      have bb := yrg_ok g.1 hp1
      split at h
      · next c =>
        obtain ⟨c1, c2, c3, c4⟩ := c
        split at h
        · next t ht =>
          split at h
          · next d =>
            obtain ⟨d1, d2, d3, d4, d5, d6, d7, d8, d9, d10⟩ := d
            cases h
            obtain ⟨i, rfl, hi, ei, wq, hok, hty, -⟩ := ycel_ok g.1 H.1 w2 hv2 hq
            obtain ⟨-, hty⟩ := hty c1
            have hc := hok (by rw [c2]; decide)
            unfold yokc at hc
            rw [c2] at hc
            obtain ⟨fs, hc1, hc2, hc3⟩ := hc
            rw [c3] at hc1
            have hb : b < fs.length := by
              rw [hc2]
              exact (List.getElem?_eq_some_iff.mp ht).1
            -- the new value fits
            have fit : zfit (ztyp a b) u = true ∧ yft t u := by
              obtain ⟨t1, lo, hi2⟩ := t
              have d1 : x.1 = t1 := d1
              have d3 : lo ≤ p.1 := d3
              have d4 : p.2 ≤ hi2 := d4
              match t1, d2 with
              | 0, _ =>
                obtain ⟨y, rfl, hy⟩ := yvI' d1 hu
                exact ⟨zfit_i y (d6 rfl), y, rfl, by show lo ≤ _; omega, by show _ ≤ hi2; omega⟩
              | 1, _ =>
                obtain ⟨y, rfl, hy⟩ := yvL' d1 hu
                exact ⟨zfit_l y (d7 rfl), y, rfl, by show lo ≤ _; omega, by show _ ≤ hi2; omega⟩
              | 2, _ =>
                have d5 : 0 ≤ lo := d5 rfl
                unfold yv at hu
                rw [d1] at hu
                rcases hu with ⟨hu, -⟩ | ⟨hu, rfl⟩
                · omega
                · exact ⟨zfit_r _ (d8 rfl), _, rfl, by show lo ≤ _; omega, by show _ ≤ hi2; omega⟩
            have e1 : q.1.2.2 = (i : Int) := by rw [ei, yev_0 c4]
            have ez : zPutf (ztyp a b) a b (pc, lv, u :: .ref i :: m) hp = zn (pc + 3) lv m (hp.1, zup hp.2 i (.inr (a, fs.set b u))) := by
              unfold zPutf
              dsimp only
              rw [if_pos (show i < hp.1 ∧ i < zSC ∧ zfit (ztyp a b) u = true from ⟨hi, Nat.lt_of_lt_of_le hi H.1.2.1, fit.1⟩), hc1]
              dsimp only
              rw [if_pos ⟨rfl, hb⟩]
            have nr : ∀ k l, ¬ (k = i ∧ l = (b : Int)) → yrd (hp.1, zup hp.2 i (.inr (a, fs.set b u))) k l = yrd hp k l := by
              intro k l hkl
              by_cases e : k = i
              · subst e
                unfold yrd
                rw [yrd_at, hc1]
                dsimp only
                split
                · rfl
                · rw [List.getElem?_set]
                  rw [if_neg (fun z => hkl ⟨rfl, by omega⟩)]
              · exact yrd_ne e l
            have mk := ymok_ok (r := r) d9 (i := i) (by omega) (by omega)
            have nf := ynof_ok g.1 d10 (i := i) (by omega) (by omega)
            rw [yev_c] at mk nf
            refine ⟨(pc + 3, lv, m), _, ez, ⟨yset_H H.1 (fun _ => ?_), yE_set (hp := hp) hE rfl nr nf H.2⟩, yF_set rfl nr mk (by omega), _, List.mem_cons_self, rfl, r, yag_refl _ _, Nat.le_refl _, ?_⟩
            · rw [← hty]
              unfold yokc
              rw [c2]
              refine ⟨fs.set b u, by rw [c3], by rw [List.length_set]; exact hc2, fun j t2 ht2 => ?_⟩
              rw [List.getElem?_set]
              by_cases ej : b = j
              · subst ej
                rw [if_pos rfl, if_pos hb]
                rw [ht] at ht2
                cases ht2
                exact ⟨u, rfl, fit.2⟩
              · rw [if_neg ej]
                exact hc3 j t2 ht2
            · have g8 := ykill_ok (S := S) (hp' := (hp.1, zup hp.2 i (.inr (a, fs.set b u)))) g ei (il := yc b) (j := (b : Int)) (yev_c r _).symm rfl nr
              have g9 := yG_tr (t := (q.1, yc b, x)) g8 ⟨wq, Or.inl rfl, wu⟩ (by
                refine ⟨by show 0 ≤ yev r q.1; omega, u, ?_, hu⟩
                show yrd _ (yev r q.1).toNat (yev r (yc b)) = some u
                rw [show (yev r q.1).toNat = i by omega, yev_c]
                unfold yrd
                rw [yrd_at]
                dsimp only
                rw [if_neg (by omega), Int.toNat_natCast, List.getElem?_set, if_pos rfl, if_pos hb])
              exact yG_st g9 g7
          · cases h
        · cases h
      · cases h
    · cases h
  · cases h
/-- the bounds of a new element fit at all places that the form can name -/
def yew (ec : Nat) (a c lo hi : Int) : Nat → Int → Bool
  | 0, s => decide ((yel ec (a * s + c).toNat).1 ≤ lo) && decide (hi ≤ (yel ec (a * s + c).toNat).2)
  | n + 1, s => (decide ((yel ec (a * s + c).toNat).1 ≤ lo) && decide (hi ≤ (yel ec (a * s + c).toNat).2)) && yew ec a c lo hi n (s + 1)
theorem yew_ok {ec : Nat} {a c lo hi : Int} : ∀ {n : Nat} {s x : Int}, yew ec a c lo hi n s = true → s ≤ x → x ≤ s + (n : Int) → (yel ec (a * x + c).toNat).1 ≤ lo ∧ hi ≤ (yel ec (a * x + c).toNat).2
  | 0, s, x, h, h1, h2 => by
    have e : x = s := by omega
    subst e
    unfold yew at h
    simpa using h
  | n + 1, s, x, h, h1, h2 => by
    unfold yew at h
    rw [Bool.and_eq_true] at h
    by_cases e : x = s
    · subst e
      simpa using h.1
    · exact yew_ok h.2 (by omega) (by omega)
def yelw (b : yB) (ec : Nat) (il : yL) (lo hi : Int) : Bool := if yed ec = false then decide ((yel ec 0).1 ≤ lo) && decide (hi ≤ (yel ec 0).2) else if il.1 = 0 then decide ((yel ec il.2.2.toNat).1 ≤ lo) && decide (hi ≤ (yel ec il.2.2.toNat).2) else match ybd b il.2.1 with
  | some e => decide (e.2 - e.1 ≤ 400) && yew ec il.1 il.2.2 lo hi (e.2 - e.1).toNat e.1
  | none => false
theorem yelw_ok {n : Nat} {b : yB} (g : yGe r n b) {ec : Nat} {il : yL} {lo hi : Int} (h : yelw b ec il lo hi = true) : (yel ec (yev r il).toNat).1 ≤ lo ∧ hi ≤ (yel ec (yev r il).toNat).2 := by
  unfold yelw at h
  split at h
  · next e =>
    rw [yel_same e]
    simpa using h
  · split at h
    · next e =>
      rw [yev_0 e]
      simpa using h
    · split at h
      · next e he =>
        have hb := g _ (ybd_mem he)
        have b1 : e.1 ≤ r il.2.1 := hb.2.1
        have b2 : r il.2.1 ≤ e.2 := hb.2.2
        rw [Bool.and_eq_true] at h
        exact yew_ok (x := r il.2.1) h.2 b1 (by omega)
      · cases h
/-- what is put into a row of bytes or booleans -/
def ynar (S : yS) (t : Nat) (x : yV) : Option (yS × yL × Int × Int) := match yrg S.2.1 x.2.1 with
  | some p => if t = 0 then some (S, x.2.1, p.1, p.2) else
    if t = 1 then (if -128 ≤ p.1 ∧ p.2 ≤ 127 then some (S, x.2.1, p.1, p.2) else some ((yput S ((-128, 127), none)).1, (yput S ((-128, 127), none)).2, -128, 127)) else
    if 0 ≤ p.1 ∧ p.2 ≤ 1 then some (S, x.2.1, p.1, p.2) else some ((yput S ((0, 1), none)).1, (yput S ((0, 1), none)).2, 0, 1)
  | none => none
def ynv (t : Nat) (x : Int32) : Int32 := if t = 0 then x else if t = 1 then vp_nar .byte x else vp_nar .boolean x
theorem ynv_b (x : Int32) : (ynv 1 x).toInt = x.toInt.bmod 256 ∧ -128 ≤ (ynv 1 x).toInt ∧ (ynv 1 x).toInt ≤ 127 := by
  have e : (ynv 1 x).toInt = x.toInt8.toInt := by
    show (vp_nar .byte x).toInt = _
    rw [vp_nar_byte]
    exact Int8.toInt_toInt32 _
  have b1 : -128 ≤ x.toInt8.toInt := x.toInt8.le_toInt
  have b2 : x.toInt8.toInt < 128 := x.toInt8.toInt_lt
  exact ⟨by rw [e, Int32.toInt_toInt8], by omega, by omega⟩
theorem ynv_z (x : Int32) : 0 ≤ (ynv 2 x).toInt ∧ (ynv 2 x).toInt ≤ 1 := by
  have e : ynv 2 x = x &&& 1 := rfl
  rw [e]
  exact yand_r (x := x) (y := 1) (by decide)
theorem ynv_z2 {x : Int32} (h : 0 ≤ x.toInt) (h2 : x.toInt ≤ 1) : ynv 2 x = x := by
  have e : ynv 2 x = x &&& 1 := rfl
  rw [e]
  by_cases h0 : x.toInt = 0
  · rw [yofI h0]
    rfl
  · rw [yofI (show x.toInt = 1 by omega)]
    rfl
theorem ynar_ok (g : yG hp r S lv st) {t : Nat} (ht : t < 3) {x : yV} {y : Int32} (w : ywv S.1 x) (hy : y.toInt = yev r x.2.1) {q : yS × yL × Int × Int} (h : ynar S t x = some q) : ∃ r2, yag S.1 r r2 ∧ S.1 ≤ q.1.1 ∧ q.1.2.2.2 = S.2.2.2 ∧ yG hp r2 q.1 lv st ∧ yw q.1.1 q.2.1 ∧ (ynv t y).toInt = yev r2 q.2.1 ∧ q.2.2.1 ≤ (ynv t y).toInt ∧ (ynv t y).toInt ≤ q.2.2.2 := by
  unfold ynar at h
  split at h
  · next p hp1 =>
    have bb := yrg_ok g.1 hp1
    have same : ynv t y = y → ∃ r2, yag S.1 r r2 ∧ S.1 ≤ S.1 ∧ S.2.2.2 = S.2.2.2 ∧ yG hp r2 S lv st ∧ yw S.1 x.2.1 ∧ (ynv t y).toInt = yev r2 x.2.1 ∧ p.1 ≤ (ynv t y).toInt ∧ (ynv t y).toInt ≤ p.2 := by
      intro e
      rw [e]
      exact ⟨r, yag_refl _ _, Nat.le_refl _, rfl, g, w.1, hy, by omega, by omega⟩
    match t, ht with
    | 0, _ =>
      cases h
      exact same rfl
    | 1, _ =>
      have h : (if -128 ≤ p.1 ∧ p.2 ≤ 127 then some (S, x.2.1, p.1, p.2) else some ((yput S ((-128, 127), none)).1, (yput S ((-128, 127), none)).2, -128, 127)) = some q := h
      have nb := ynv_b y
      split at h
      · next c =>
        cases h
        refine same (Int32.toInt_inj.mp ?_)
        rw [nb.1]
        exact Int.bmod_eq_of_le_mul_two (by omega) (by omega)
      · cases h
        obtain ⟨r2, a1, a2, a3, a4, a5, a6⟩ := yput_ok g (t := ((-128, 127), none)) (z := (ynv 1 y).toInt) ⟨nb.2, fun l hl => by cases hl⟩
        exact ⟨r2, a1, a2, congrArg (fun z => z.2) a3, a4, a5, a6.symm, nb.2⟩
    | 2, _ =>
      have h : (if 0 ≤ p.1 ∧ p.2 ≤ 1 then some (S, x.2.1, p.1, p.2) else some ((yput S ((0, 1), none)).1, (yput S ((0, 1), none)).2, 0, 1)) = some q := h
      have nb := ynv_z y
      split at h
      · next c =>
        cases h
        exact same (ynv_z2 (by omega) (by omega))
      · cases h
        obtain ⟨r2, a1, a2, a3, a4, a5, a6⟩ := yput_ok g (t := ((0, 1), none)) (z := (ynv 2 y).toInt) ⟨nb, fun l hl => by cases hl⟩
        exact ⟨r2, a1, a2, congrArg (fun z => z.2) a3, a4, a5, a6.symm, nb⟩
  · cases h
def ykW (b : Bool) (c : yC) : Bool := c.1 == 1 && (if b then c.2.1 == 1 || c.2.1 == 2 else c.2.1 == 0) && decide (c.2.2.1 ≤ 3000)
theorem ykW_c {b : Bool} {c : yC} {i : Nat} (hk : ykW b c = true) (hok : c.1 ≠ 7 → yokc hp.1 c (hp.2 i)) : ∃ f : Nat → Int32, c.1 = 1 ∧ c.2.1 < 3 ∧ (b = true → c.2.1 = 1 ∨ c.2.1 = 2) ∧ (b = false → c.2.1 = 0) ∧ c.2.2.1 ≤ 3000 ∧ hp.2 i = .inl (c.2.1, c.2.2.1, .inl f) ∧ ∀ j, j < c.2.2.1 → (yel c.2.2.2.1 j).1 ≤ (f j).toInt ∧ (f j).toInt ≤ (yel c.2.2.2.1 j).2 := by
  obtain ⟨c1, c2, c3, c4, c5⟩ := c
  unfold ykW at hk
  simp only [Bool.and_eq_true, beq_iff_eq, decide_eq_true_eq] at hk
  obtain ⟨⟨rfl, h2⟩, h3⟩ := hk
  have hok := hok (show (1 : Nat) ≠ 7 by decide)
  have cases3 : c2 = 0 ∨ c2 = 1 ∨ c2 = 2 := by
    cases b
    · exact Or.inl (by simpa using h2)
    · right; simpa using h2
  rcases cases3 with rfl | rfl | rfl
  · obtain ⟨-, f, e, hf⟩ : (0 < 3 ∧ ∃ f : Nat → Int32, hp.2 i = .inl (0, c3, .inl f) ∧ ∀ j, j < c3 → (yel c4 j).1 ≤ (f j).toInt ∧ (f j).toInt ≤ (yel c4 j).2) := hok
    exact ⟨f, rfl, (show (0 : Nat) < 3 by decide), (fun hb => by subst hb; simp at h2), fun _ => rfl, h3, e, hf⟩
  · obtain ⟨-, f, e, hf⟩ : (1 < 3 ∧ ∃ f : Nat → Int32, hp.2 i = .inl (1, c3, .inl f) ∧ ∀ j, j < c3 → (yel c4 j).1 ≤ (f j).toInt ∧ (f j).toInt ≤ (yel c4 j).2) := hok
    exact ⟨f, rfl, (show (1 : Nat) < 3 by decide), fun _ => Or.inl rfl, (fun hb => by subst hb; simp at h2), h3, e, hf⟩
  · obtain ⟨-, f, e, hf⟩ : (2 < 3 ∧ ∃ f : Nat → Int32, hp.2 i = .inl (2, c3, .inl f) ∧ ∀ j, j < c3 → (yel c4 j).1 ≤ (f j).toInt ∧ (f j).toInt ≤ (yel c4 j).2) := hok
    exact ⟨f, rfl, (show (2 : Nat) < 3 by decide), fun _ => Or.inr rfl, (fun hb => by subst hb; simp at h2), h3, e, hf⟩
def aIst (b : Bool) (M F : yM) (pc : Nat) (S : yS) : yO := match S.2.2.2.2.2 with
  | x :: j :: v :: s => if x.1 = 0 ∧ j.1 = 0 ∧ v.1 = 2 then (match ycel S.2.1 v, yrg S.2.1 v.2.1 with
    | some q, some p => if ykW b q.2 = true ∧ ybnd S q.1 (ynm S.2.1 j.2.1) q.2 = true ∧ ymok M p.1 p.2 (ynm S.2.1 j.2.1) = true ∧ ynof S.2.1 F p.1 p.2 (ynm S.2.1 j.2.1) = true then (match ynar S q.2.2.1 x with
      | some z => if yelw S.2.1 q.2.2.2.2.1 (ynm S.2.1 j.2.1) z.2.2.1 z.2.2.2 = true then
          some [(pc + 1, (z.1.1, z.1.2.1, z.1.2.2.1, (if q.1.1 = 0 then [(q.1, ynm S.2.1 j.2.1, yI z.2.1)] else []) ++ ykill z.1.2.1 q.1 (ynm S.2.1 j.2.1) S.2.2.2.1, S.2.2.2.2.1, s))] else none
      | none => none) else none
    | _, _ => none) else none
  | _ => none
theorem aIst_ok {E : zHp → Prop} {M F : yM} (hE : yEF E F) (g : yG hp r S lv st) (H : yH0 hp ∧ E hp) {b : Bool} {L : List (Nat × yS)} (h : aIst b M F pc S = some L) : yW E M hp r S.1 L (if b = true then zBast (pc, lv, st) hp else zIast (pc, lv, st) hp) := by
  unfold aIst at h
  split at h
  · next x j v s hs =>
    have g5 := g.2.2.2.2
    rw [hs] at g5
    obtain ⟨u1, m1, rfl, ⟨w1, hu1⟩, g6⟩ := ystk_cons g5
    obtain ⟨u2, m2, rfl, ⟨w2, hu2⟩, g7⟩ := ystk_cons g6
    obtain ⟨u3, m, rfl, ⟨w3, hu3⟩, g8⟩ := ystk_cons g7
    split at h
    · next k =>
      obtain ⟨y, rfl, hy⟩ := yvI' k.1 hu1
      obtain ⟨jx, rfl, hj⟩ := yvI' k.2.1 hu2
      split at h
      · next q p hq hp1 =>
        split at h
        · next d =>
          obtain ⟨d1, d2, d3, d4⟩ := d
          split at h
          · next z hz =>
            split at h
            · next d5 =>
              cases h
              obtain ⟨i, rfl, hi, ei, wq, hok, hty, -⟩ := ycel_ok g.1 H.1 w3 hu3 hq
              obtain ⟨hi88, hty⟩ := hty k.2.2
              obtain ⟨f, k1, k2, k3, k4, k5, hc, hf⟩ := ykW_c d1 hok
              have nm := ynm_ok g.1 w2.1
              have bd := ybnd_ok g d2 ei hc (fun _ => rfl) k5
              obtain ⟨i1, i2⟩ := yix (hj.trans nm.1.symm) bd
              obtain ⟨r2, a1, a2, a3, a4, a5, a6, a7, a8⟩ := ynar_ok g k2 w1 hy hz
              have ev := yelw_ok g.1 d5
              have er : (i : Int) = yev r v.2.1 := by
                unfold yv at hu3
                rw [k.2.2] at hu3
                rcases hu3 with ⟨-, hu3⟩ | ⟨hu3, hu4⟩
                · cases hu3
                · cases hu4
                  show (((yev r v.2.1).toNat : Nat) : Int) = _
                  omega
              have bp := yrg_ok g.1 hp1
              generalize hjn : (yev r (ynm S.2.1 j.2.1)).toNat = jn at *
              have ez : (if b = true then zBast (pc, lv, .int y :: .int jx :: .ref i :: m) hp else zIast (pc, lv, .int y :: .int jx :: .ref i :: m) hp) = zn (pc + 1) lv m (hp.1, zup hp.2 i (.inl (q.2.2.1, q.2.2.2.1, .inl (upd f jn (ynv q.2.2.1 y))))) := by
                have hlt : i < hp.1 ∧ i < zSC := ⟨hi, Nat.lt_of_lt_of_le hi H.1.2.1⟩
                cases b with
                | false =>
                  rw [if_neg (by decide)]
                  unfold zIast
                  dsimp only
                  rw [if_pos hlt, hc, k4 rfl, ← i2]
                  show (if ¬ (jx < 0 ∨ q.2.2.2.1 ≤ jx.toNatClampNeg) then zn (pc + 1) lv m (hp.1, zup hp.2 i (.inl (0, q.2.2.2.1, .inl (upd f jx.toNatClampNeg y)))) else none) = _
                  rw [if_pos i1]
                  rfl
                | true =>
                  rw [if_pos rfl]
                  unfold zBast
                  dsimp only
                  rw [if_pos hlt, hc, ← i2]
                  rcases k3 rfl with e | e
                  · rw [e]
                    show (if ¬ (jx < 0 ∨ q.2.2.2.1 ≤ jx.toNatClampNeg) then zn (pc + 1) lv m (hp.1, zup hp.2 i (.inl (1, q.2.2.2.1, .inl (upd f jx.toNatClampNeg (vp_nar .byte y))))) else none) = _
                    rw [if_pos i1]
                    rfl
                  · rw [e]
                    show (if ¬ (jx < 0 ∨ q.2.2.2.1 ≤ jx.toNatClampNeg) then zn (pc + 1) lv m (hp.1, zup hp.2 i (.inl (2, q.2.2.2.1, .inl (upd f jx.toNatClampNeg (vp_nar .boolean y))))) else none) = _
                    rw [if_pos i1]
                    rfl
              have ejn : yev r (ynm S.2.1 j.2.1) = (jn : Int) := by omega
              have nr : ∀ c l, ¬ (c = i ∧ l = (jn : Int)) → yrd (hp.1, zup hp.2 i (.inl (q.2.2.1, q.2.2.2.1, .inl (upd f jn (ynv q.2.2.1 y))))) c l = yrd hp c l := by
                intro c l hcl
                by_cases e : c = i
                · subst e
                  unfold yrd
                  rw [yrd_at, hc]
                  dsimp only
                  split
                  · rfl
                  · show some (Value.int (upd f jn _ l.toNat)) = some (Value.int (f l.toNat))
                    unfold upd
                    rw [if_neg (fun z => hcl ⟨rfl, by omega⟩)]
                · exact yrd_ne e l
              have mk := ymok_ok (r := r) d3 (i := i) (by omega) (by omega)
              have nf := ynof_ok g.1 d4 (i := i) (by omega) (by omega)
              rw [ejn] at mk nf
              refine ⟨(pc + 1, lv, m), _, ez, ⟨yset_H H.1 (fun _ => ?_), yE_set (hp := hp) hE rfl nr nf H.2⟩, yF_set rfl nr mk (by omega), _, List.mem_cons_self, rfl, r2, a1, a2, ?_⟩
              · rw [← hty]
                have ty : ∀ l, l < q.2.2.2.1 → (yel q.2.2.2.2.1 l).1 ≤ (upd f jn (ynv q.2.2.1 y) l).toInt ∧ (upd f jn (ynv q.2.2.1 y) l).toInt ≤ (yel q.2.2.2.2.1 l).2 := by
                  intro l hl
                  unfold upd
                  split
                  · next e =>
                    subst e
                    omega
                  · exact hf l hl
                unfold yokc
                rw [k1]
                have c3 : q.2.2.1 = 0 ∨ q.2.2.1 = 1 ∨ q.2.2.1 = 2 := by omega
                rcases c3 with e | e | e
                · rw [e] at ty ⊢
                  exact ⟨by decide, _, rfl, ty⟩
                · rw [e] at ty ⊢
                  exact ⟨by decide, _, rfl, ty⟩
                · rw [e] at ty ⊢
                  exact ⟨by decide, _, rfl, ty⟩
              · have et : z.1.2.2.2.1 = S.2.2.2.1 := congrArg (fun t => t.1) a3
                have el : z.1.2.2.2.2 = S.2.2.2.2 := congrArg (fun t => t.2) a3
                have ea : yev r2 q.1 = yev r q.1 := yev_ag a1 wq
                have eb : yev r2 (ynm S.2.1 j.2.1) = yev r (ynm S.2.1 j.2.1) := yev_ag a1 nm.2
                have g9 := ykill_ok (S := z.1) (hp' := (hp.1, zup hp.2 i (.inl (q.2.2.1, q.2.2.2.1, .inl (upd f jn (ynv q.2.2.1 y)))))) a4 (cl := q.1) (i := i) (by rw [ea]; exact ei) (il := ynm S.2.1 j.2.1) (j := (jn : Int)) (by rw [eb, ejn]) rfl nr
                rw [et, el] at g9
                have g10 : ystk hp.1 r2 z.1.1 s m := ystk_ag a2 a1 g8
                by_cases ec : q.1.1 = 0
                · rw [if_pos ec]
                  have g11 := yG_tr (t := (q.1, ynm S.2.1 j.2.1, yI z.2.1)) g9 ⟨yw_le a2 wq, yw_le a2 nm.2, ywI a5⟩ (by
                    refine ⟨by show 0 ≤ yev r2 q.1; omega, .int (ynv q.2.2.1 y), ?_, yvI a6⟩
                    show yrd _ (yev r2 q.1).toNat (yev r2 (ynm S.2.1 j.2.1)) = some _
                    rw [show (yev r2 q.1).toNat = i by omega, eb, ejn]
                    unfold yrd
                    rw [yrd_at]
                    dsimp only
                    rw [if_neg (by omega)]
                    show some (Value.int (upd f jn _ (jn : Int).toNat)) = _
                    unfold upd
                    rw [if_pos (by omega)])
                  exact yG_st g11 g10
                · rw [if_neg ec]
                  exact yG_st g9 g10
            · cases h
          · cases h
        · cases h
      · cases h
    · cases h
  · cases h
end YWR
