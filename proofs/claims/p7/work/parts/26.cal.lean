/-! Specs of methods, and calls. -/
/-- a spec: method, most locals, entry state (locals: the arguments), states behind (operand: the answer), what may change -/
abbrev ySp : Type := Nat × Nat × yS × List yS × yM
/-- what a spec says -/
def yPo (E : zHp → Prop) (M : yM) (hp : zHp) (r : Nat → Int) (n : Nat) (Q : List yS) (x : zRe) : Prop := (yH0 x.2 ∧ E x.2) ∧ yF M hp x.2 ∧ ∃ q ∈ Q, ∃ r2, yag n r r2 ∧ n ≤ q.1 ∧ yG x.2 r2 q [] x.1.toList
def yTr (E : zHp → Prop) (d : Nat) (sp : ySp) : Prop := ∀ (hp : zHp) (r : Nat → Int) (as : List Value), (yH0 hp ∧ E hp) → yG hp r sp.2.2.1 (lv_args 0 as) [] → (as.map fun v => v.category).sum ≤ sp.2.1 → as.length = sp.2.2.1.2.2.2.2.1.length → ∃ x : zRe, zCan d sp.1 as hp x ∧ yPo E sp.2.2.2.2 hp r sp.2.2.1.1 sp.2.2.2.1 x
def yargs : Nat → List yV → List (Nat × yV)
  | _, [] => []
  | i, a :: l => (i, a) :: yargs (if a.1 = 1 then i + 2 else i + 1) l
/-- symbols of a spec's end, in the caller's state: those of its entry are put in, new ones come behind n -/
def ytau (p n : Nat) (u : yU) (l : yL) : yL := if l.1 = 0 then l else if l.2.1 < p then ysub 0 u l else (l.1, l.2.1 - p + n, l.2.2)
def ytav (p n : Nat) (u : yU) (a : yV) : yV := (a.1, ytau p n u a.2.1, ytau p n u a.2.2)
def ytax (p n : Nat) (u : yU) : List (Int × Nat) → Int → yX
  | [], c => ([], c)
  | q :: l, c => yadd q.1 (yxl (ytau p n u (1, q.2, 0))) (ytax p n u l c)
def ytab2 (p n : Nat) (u : yU) : yB → yB → yB
  | [], b => b
  | e :: l, b => ytab2 p n u l (if e.1 < p then (if (ylu u e.1).1 = 1 then (match ybd b (ylu u e.1).2.1 with
      | some q => ((ylu u e.1).2.1, ymax q.1 (e.2.1 - (ylu u e.1).2.2), ymin q.2 (e.2.2 - (ylu u e.1).2.2)) :: b
      | none => b) else b) else (e.1 - p + n, e.2) :: b)
/-- not touched by what may change -/
def yunt (M : yM) (b : yB) (t : yK) : Bool := (match yrg b t.2.1 with
    | some p => decide (p.2 < 0)
    | none => false) || (match yrg b t.1 with
    | some p => M.all (fun m => decide (p.2 < (m.1 : Int)) || decide ((m.2.1 : Int) < p.1) || (!(m.2.2 == 1000) && yap b t.2.1 (yc m.2.2)))
    | none => false)
def yfea (p : Nat) (u : yU) (b : yB) (Q : yB) : Bool := Q.all (fun e => if e.1 < p then (match yrg b (ysub 0 u (1, e.1, 0)) with
  | some q => !(decide (q.2 < e.2.1) || decide (e.2.2 < q.1))
  | none => true) else true)
/-- the caller's state behind a call, for one end Q of the spec; A: the caller's state ahead of it, rest: its operands below the arguments -/
def yaft (p : Nat) (u : yU) (M : yM) (A Q : yS) (lv : List (Nat × yV)) (rest : List yV) : yS :=
  (A.1 + (Q.1 - p), ytab2 p A.1 u Q.2.1 A.2.1, Q.2.2.1.map (fun x => ytax p A.1 u x.1 x.2) ++ A.2.2.1, Q.2.2.2.1.map (fun t => (ytau p A.1 u t.1, ytau p A.1 u t.2.1, ytav p A.1 u t.2.2)) ++ A.2.2.2.1.filter (yunt M A.2.1), lv, Q.2.2.2.2.2.map (ytav p A.1 u) ++ rest)
/-- quick: where the pattern has a number, the state has no other -/
def yqk (pl al : List (Nat × yV)) : Bool := pl.all (fun q => if q.2.2.1.1 = 0 then (match yld al q.1 with
  | some v => !(v.2.1.1 == 0) || v.2.1.2.2 == q.2.2.1.2.2
  | none => false) else true)
/-- does the spec fit; the states behind -/
def yapp (sp : ySp) (M : yM) (S : yS) (args rest : List yV) : Option (List yS) := if yqk sp.2.2.1.2.2.2.2.1 (yargs 0 args) = false then none else
  let A := yplcs (S.1, S.2.1, S.2.2.1, S.2.2.2.1, yargs 0 args, []) sp.2.2.1.2.2.2.1
  let u := ybn 0 sp.2.2.1 A
  if ymt 0 u sp.2.2.1 A = true ∧ u.all (fun q => ywb A.1 q.2) = true ∧ yleM sp.2.2.2.2 M = true ∧ ysl args ≤ sp.2.1 ∧ args.length = sp.2.2.1.2.2.2.2.1.length then
    some ((sp.2.2.2.1.filter (fun Q => yfea sp.2.2.1.1 u A.2.1 Q.2.1)).map (fun Q => yaft sp.2.2.1.1 u sp.2.2.2.2 A Q S.2.2.2.2.1 rest)) else none
def ytry2 (sps : List ySp) (k : Nat) (M : yM) (S : yS) (args rest : List yV) : Option (List yS) := match sps with
  | [] => none
  | sp :: l => if sp.1 = k then (match yapp sp M S args rest with
    | some R => some R
    | none => ytry2 l k M S args rest) else ytry2 l k M S args rest
section YCAL
variable {hp hp' : zHp} {r : Nat → Int} {S : yS} {lv : List (Nat × Value)} {st : List Value}
theorem yv_le {h h2 : Nat} (e : h ≤ h2) {a : yV} {w : Value} (k : yv h r a w) : yv h2 r a w := by
  unfold yv at k ⊢
  split at k
  · exact k
  · exact k
  · exact k
  · rcases k with k | ⟨k1, k2, k3⟩
    · exact Or.inl k
    · exact Or.inr ⟨k1, Nat.lt_of_lt_of_le k2 e, k3⟩
  · exact k
  · exact ⟨k.1, Nat.lt_of_lt_of_le k.2.1 e, k.2.2⟩
  · exact ⟨k.1, Nat.lt_of_lt_of_le k.2.1 e, k.2.2⟩
  · exact k
  · exact k
theorem yGl_le {h h2 n : Nat} (e : h ≤ h2) {l : List (Nat × yV)} (k : yGl h r n l lv) : yGl h2 r n l lv := fun i a ha => by
  obtain ⟨w, v, k1, k2⟩ := k i a ha
  exact ⟨w, v, k1, yv_le e k2⟩
theorem ystk_le {h h2 n : Nat} (e : h ≤ h2) : ∀ {l : List yV} {s : List Value}, ystk h r n l s → ystk h2 r n l s
  | [], [], _ => trivial
  | [], _ :: _, g => g.elim
  | _ :: _, [], g => g.elim
  | _ :: _, _ :: _, g => ⟨⟨g.1.1, yv_le e g.1.2⟩, ystk_le e g.2⟩
theorem ystk_len {h n : Nat} : ∀ {l : List yV} {s : List Value}, ystk h r n l s → s.length = l.length
  | [], [], _ => rfl
  | [], _ :: _, g => g.elim
  | _ :: _, [], g => g.elim
  | _ :: _, _ :: _, g => congrArg (· + 1) (ystk_len g.2)
theorem yargs_ok {h n : Nat} : ∀ {l : List yV} {as : List Value} {k : Nat}, ystk h r n l as → yGl h r n (yargs k l) (lv_args k as)
  | [], [], _, _ => fun i a e => by cases e
  | [], _ :: _, _, g => g.elim
  | _ :: _, [], _, g => g.elim
  | a :: l, w :: as, k, g => by
    intro i b e
    unfold yargs at e
    unfold yld at e
    show ywv n b ∧ ∃ v, zld ((k, w) :: lv_args (if w.category = 2 then k + 2 else k + 1) as) i = some v ∧ yv h r b v
    unfold zld
    split at e
    · next ek =>
      cases e
      rw [if_pos ek]
      exact ⟨g.1.1, w, rfl, g.1.2⟩
    · next ek =>
      rw [if_neg ek, ycat g.1.2]
      have := yargs_ok g.2 i b e
      by_cases c : a.1 = 1
      · rw [if_pos c] at this
        rw [if_pos (by rw [if_pos c])]
        exact this
      · rw [if_neg c] at this
        rw [if_neg (by rw [if_neg c]; decide)]
        exact this
theorem ylu_w {n : Nat} {u : yU} (h : u.all (fun q => ywb n q.2) = true) (s : Nat) : yw n (ylu u s) := by
  induction u with
  | nil => exact Or.inl rfl
  | cons q l ih =>
    rw [List.all_cons, Bool.and_eq_true] at h
    unfold ylu
    split
    · exact ywb_ok h.1
    · exact ih h.2
/-- the caller's symbols, and the new ones of the spec's end -/
def yr3 (p n : Nat) (r r2 : Nat → Int) : Nat → Int := fun t => if t < n then r t else r2 (t - n + p)
theorem yr3_ag (p n : Nat) (r r2 : Nat → Int) : yag n r (yr3 p n r r2) := fun s hs => if_pos hs
theorem ysub_w {n : Nat} {u : yU} (h : u.all (fun q => ywb n q.2) = true) (l : yL) : yw n (ysub 0 u l) := by
  unfold ysub
  split
  · next e => exact Or.inl e
  · rw [if_neg (Nat.not_lt_zero _)]
    rcases ylu_w h l.2.1 with k | k
    · exact Or.inl (by show l.1 * (ylu u l.2.1).1 = 0; rw [k]; omega)
    · exact Or.inr k
theorem ytau_ok {p n m : Nat} {u : yU} {r r2 : Nat → Int} (hu : u.all (fun q => ywb n q.2) = true) (ha : yag p (yrs 0 u r) r2) {l : yL} (w : yw m l) (hm : p ≤ m) : yev (yr3 p n r r2) (ytau p n u l) = yev r2 l ∧ yw (n + (m - p)) (ytau p n u l) := by
  unfold ytau
  split
  · next e => exact ⟨by rw [yev_0 e, yev_0 e], Or.inl e⟩
  · next e =>
    have w := w.resolve_left e
    split
    · next c =>
      have wl : yw p l := Or.inr c
      refine ⟨?_, yw_le (Nat.le_add_right _ _) (ysub_w hu l)⟩
      rw [yev_ag (yr3_ag p n r r2) (ysub_w hu l), ysub_ok, yev_ag ha wl]
    · next c =>
      refine ⟨?_, Or.inr (by show l.2.1 - p + n < n + (m - p); omega)⟩
      show l.1 * yr3 p n r r2 (l.2.1 - p + n) + l.2.2 = l.1 * r2 l.2.1 + l.2.2
      unfold yr3
      rw [if_neg (by omega), show l.2.1 - p + n - n + p = l.2.1 by omega]
theorem ytav_ok {p n m h : Nat} {u : yU} {r r2 : Nat → Int} (hu : u.all (fun q => ywb n q.2) = true) (ha : yag p (yrs 0 u r) r2) {a : yV} (w : ywv m a) (hm : p ≤ m) {v : Value} (hv : yv h r2 a v) : yv h (yr3 p n r r2) (ytav p n u a) v ∧ ywv (n + (m - p)) (ytav p n u a) := by
  have e1 := ytau_ok hu ha w.1 hm
  have e2 := ytau_ok hu ha w.2 hm
  refine ⟨?_, e1.2, e2.2⟩
  unfold yv ytav
  dsimp only
  rw [e1.1, e2.1]
  exact hv
theorem ytax_ok {p n m : Nat} {u : yU} {r r2 : Nat → Int} (hu : u.all (fun q => ywb n q.2) = true) (ha : yag p (yrs 0 u r) r2) (hm : p ≤ m) : ∀ {l : List (Int × Nat)} {c : Int}, (∀ t ∈ l, t.2 < m) → yex (yr3 p n r r2) (ytax p n u l c) = yxs r2 l + c ∧ ∀ t ∈ (ytax p n u l c).1, t.2 < n + (m - p)
  | [], c, _ => ⟨rfl, fun t ht => by cases ht⟩
  | q :: l, c, w => by
    have ih := ytax_ok hu ha hm (l := l) (c := c) (fun t ht => w t (List.mem_cons_of_mem _ ht))
    have e := ytau_ok (l := (1, q.2, 0)) hu ha (Or.inr (w q List.mem_cons_self)) hm
    unfold ytax
    refine ⟨?_, yaddl_w (yxl_w e.2) ih.2⟩
    rw [yadd_ok, yxl_ok, e.1, ih.1]
    show q.1 * (1 * r2 q.2 + 0) + _ = q.1 * r2 q.2 + yxs r2 l + c
    rw [show 1 * r2 q.2 + 0 = r2 q.2 by omega]
    omega
theorem ytab2_ok {p n m : Nat} {u : yU} {r r2 : Nat → Int} (hu : u.all (fun q => ywb n q.2) = true) (ha : yag p (yrs 0 u r) r2) (hm : p ≤ m) : ∀ {Q b : yB}, yGe r2 m Q → yGe (yr3 p n r r2) (n + (m - p)) b → yGe (yr3 p n r r2) (n + (m - p)) (ytab2 p n u Q b)
  | [], b, _, g => g
  | e :: l, b, gq, g => by
    unfold ytab2
    refine ytab2_ok hu ha hm (fun x hx => gq x (List.mem_cons_of_mem _ hx)) ?_
    have q := gq e List.mem_cons_self
    split
    · next c =>
      split
      · next c1 =>
        split
        · next x hx =>
          intro y hy
          rcases List.mem_cons.mp hy with rfl | hy
          · have gb := g _ (ybd_mem hx)
            refine ⟨gb.1, ?_⟩
            have k1 : r2 e.1 = yrs 0 u r e.1 := ha e.1 c
            have k2 : yrs 0 u r e.1 = yev r (ylu u e.1) := if_neg (Nat.not_lt_zero _)
            have k3 := yev_ag (yr3_ag p n r r2) (ylu_w hu e.1)
            have k4 : yev (yr3 p n r r2) (ylu u e.1) = 1 * yr3 p n r r2 (ylu u e.1).2.1 + (ylu u e.1).2.2 := by
              show (ylu u e.1).1 * _ + _ = _
              rw [c1]
            have gb2 : x.1 ≤ yr3 p n r r2 (ylu u e.1).2.1 := gb.2.1
            have gb3 : yr3 p n r r2 (ylu u e.1).2.1 ≤ x.2 := gb.2.2
            show ymax x.1 (e.2.1 - (ylu u e.1).2.2) ≤ yr3 p n r r2 (ylu u e.1).2.1 ∧ yr3 p n r r2 (ylu u e.1).2.1 ≤ ymin x.2 (e.2.2 - (ylu u e.1).2.2)
            unfold ymax ymin
            split <;> split <;> omega
          · exact g y hy
        · exact g
      · exact g
    · next c =>
      intro y hy
      rcases List.mem_cons.mp hy with rfl | hy
      · have q1 := q.1
        refine ⟨by show e.1 - p + n < n + (m - p); omega, ?_⟩
        show e.2.1 ≤ yr3 p n r r2 (e.1 - p + n) ∧ yr3 p n r r2 (e.1 - p + n) ≤ e.2.2
        unfold yr3
        rw [if_neg (by omega), show e.1 - p + n - n + p = e.1 by omega]
        exact q.2
      · exact g y hy
theorem yunt_ok {n : Nat} {b : yB} (g : yGe r n b) {M : yM} {t : yK} (h : yunt M b t = true) {i : Nat} (hi : (i : Int) = yev r t.1) : yev r t.2.1 < 0 ∨ yinM M i (yev r t.2.1) = false := by
  unfold yunt at h
  rw [Bool.or_eq_true] at h
  rcases h with h | h
  · split at h
    · next p hp1 =>
      have := yrg_ok g hp1
      have h : p.2 < 0 := of_decide_eq_true h
      exact Or.inl (by omega)
    · cases h
  · split at h
    · next p hp1 =>
      have bb := yrg_ok g hp1
      right
      cases e : yinM M i (yev r t.2.1) with
      | false => rfl
      | true =>
        exfalso
        unfold yinM at e
        rw [List.any_eq_true] at e
        obtain ⟨m, hm, e⟩ := e
        have k := List.all_eq_true.mp h m hm
        simp only [Bool.and_eq_true, Bool.or_eq_true, decide_eq_true_eq, beq_iff_eq, Bool.not_eq_true', beq_eq_false_iff_ne] at e k
        obtain ⟨⟨a1, a2⟩, a3⟩ := e
        rcases k with (k | k) | ⟨k1, k2⟩
        · omega
        · omega
        · have := yap_ok g k2
          rw [yev_c] at this
          rcases a3 with a3 | a3
          · exact k1 a3
          · exact this a3.symm
    · cases h
theorem ystk_app {h n : Nat} : ∀ {l1 l2 : List yV} {m1 m2 : List Value}, ystk h r n l1 m1 → ystk h r n l2 m2 → ystk h r n (l1 ++ l2) (m1 ++ m2)
  | [], l2, [], m2, _, g => g
  | [], _, _ :: _, _, g, _ => g.elim
  | _ :: _, _, [], _, g, _ => g.elim
  | a :: l, l2, w :: m, m2, g1, g2 => ⟨g1.1, ystk_app g1.2 g2⟩
theorem ystk_tav {p n m h : Nat} {u : yU} {r r2 : Nat → Int} (hu : u.all (fun q => ywb n q.2) = true) (ha : yag p (yrs 0 u r) r2) (hm : p ≤ m) : ∀ {l : List yV} {s : List Value}, ystk h r2 m l s → ystk h (yr3 p n r r2) (n + (m - p)) (l.map (ytav p n u)) s
  | [], [], _ => trivial
  | [], _ :: _, g => g.elim
  | _ :: _, [], g => g.elim
  | a :: l, w :: s, g => by
    have k := ytav_ok hu ha g.1.1 hm g.1.2
    exact ⟨⟨k.2, k.1⟩, ystk_tav hu ha hm g.2⟩
/-- a call by a spec -/
theorem yapp_ok {E : zHp → Prop} {d : Nat} {sp : ySp} {M : yM} {args rest : List yV} {as m : List Value} {R : List yS} (hsp : yTr E d sp) (hw : ywf sp.2.2.1 = true) (H : yH0 hp ∧ E hp) (g : yG hp r (yst S []) lv []) (ga : ystk hp.1 r S.1 args as) (gr : ystk hp.1 r S.1 rest m) (h : yapp sp M S args rest = some R) :
    ∃ x : zRe, zCan d sp.1 as hp x ∧ (yH0 x.2 ∧ E x.2) ∧ yF M hp x.2 ∧ ∃ T ∈ R, ∃ r2, yag S.1 r r2 ∧ S.1 ≤ T.1 ∧ yG x.2 r2 T lv (x.1.toList ++ m) := by
  unfold yapp at h
  by_cases cq : yqk sp.2.2.1.2.2.2.2.1 (yargs 0 args) = false
  · rw [if_pos cq] at h
    cases h
  rw [if_neg cq] at h
  dsimp only at h
  have g0 : yG hp r (S.1, S.2.1, S.2.2.1, S.2.2.2.1, yargs 0 args, []) (lv_args 0 as) [] := ⟨g.1, g.2.1, g.2.2.1, yargs_ok ga, trivial⟩
  obtain ⟨rA, a1, a2, a3, gA⟩ := yplcs_ok H.1 (l := sp.2.2.1.2.2.2.1) g0
  generalize hA : yplcs (S.1, S.2.1, S.2.2.1, S.2.2.2.1, yargs 0 args, []) sp.2.2.1.2.2.2.1 = A at *
  generalize hU : ybn 0 sp.2.2.1 A = u at *
  have a2 : S.1 ≤ A.1 := a2
  split at h
  · next c =>
    obtain ⟨c1, c2, c3, c4, c5⟩ := c
    cases h
    have gP := ymt_ok gA hw c1
    obtain ⟨x, x1, xH, xF, Q, hQ, r2, b1, b2, gQ⟩ := hsp hp _ as H gP (by rw [ysl_ok ga]; exact c4) (by rw [ystk_len ga]; exact c5)
    have ag : yag S.1 r (yr3 sp.2.2.1.1 A.1 rA r2) := fun s hs => (yr3_ag _ _ rA r2 s (Nat.lt_of_lt_of_le hs a2)).trans (a1 s hs)
    have feas : yfea sp.2.2.1.1 u A.2.1 Q.2.1 = true := by
      unfold yfea
      rw [List.all_eq_true]
      intro e he
      split
      · next ce =>
        split
        · next q hq =>
          have k1 := yrg_ok gA.1 hq
          have k2 := gQ.1 e he
          rw [ysub_ok] at k1
          have k3 : r2 e.1 = yrs 0 u rA e.1 := b1 e.1 ce
          rw [show yev (yrs 0 u rA) (1, e.1, 0) = yrs 0 u rA e.1 by show 1 * yrs 0 u rA e.1 + 0 = _; omega] at k1
          simp only [Bool.not_eq_true', Bool.or_eq_false_iff, decide_eq_false_iff_not]
          omega
        · rfl
      · rfl
    have e1 : hp.1 ≤ x.2.1 := xF.1
    refine ⟨x, x1, xH, yF_le c3 xF, _, List.mem_map_of_mem (List.mem_filter.mpr ⟨hQ, feas⟩), yr3 sp.2.2.1.1 A.1 rA r2, ag, Nat.le_trans a2 (Nat.le_add_right _ _), ?_⟩
    have n2 : S.1 ≤ A.1 + (Q.1 - sp.2.2.1.1) := Nat.le_trans a2 (Nat.le_add_right _ _)
    have agA := yr3_ag sp.2.2.1.1 A.1 rA r2
    refine ⟨ytab2_ok c2 b1 b2 gQ.1 (yGe_ag (Nat.le_add_right _ _) agA gA.1), ?_, ?_, ?_, ?_⟩
    · intro y hy
      rcases List.mem_append.mp hy with hy | hy
      · obtain ⟨z, hz, rfl⟩ := List.mem_map.mp hy
        have kz := gQ.2.1 z hz
        have k := ytax_ok (n := A.1) c2 b1 b2 (l := z.1) (c := z.2) kz.1
        exact ⟨k.2, by rw [k.1]; exact kz.2⟩
      · exact yGf_ag (Nat.le_add_right _ _) agA gA.2.1 y hy
    · intro y hy
      rcases List.mem_append.mp hy with hy | hy
      · obtain ⟨z, hz, rfl⟩ := List.mem_map.mp hy
        obtain ⟨⟨w1, w2, w3⟩, k1, k2, k3, k4⟩ := gQ.2.2.1 z hz
        have t1 := ytau_ok (n := A.1) c2 b1 w1 b2
        have t2 := ytau_ok (n := A.1) c2 b1 w2 b2
        have t3 := ytav_ok (n := A.1) c2 b1 w3 b2 k4
        refine ⟨⟨t1.2, t2.2, t3.2⟩, ?_, k2, ?_, t3.1⟩
        · show 0 ≤ yev _ (ytau _ _ _ z.1)
          rw [t1.1]
          exact k1
        · show yrd x.2 (yev _ (ytau _ _ _ z.1)).toNat (yev _ (ytau _ _ _ z.2.1)) = some k2
          rw [t1.1, t2.1]
          exact k3
      · rw [List.mem_filter] at hy
        obtain ⟨⟨w1, w2, w3⟩, k1, k2, k3, k4⟩ := gA.2.2.1 y hy.1
        refine ⟨⟨yw_le (Nat.le_add_right _ _) w1, yw_le (Nat.le_add_right _ _) w2, ywv_le (Nat.le_add_right _ _) w3⟩, ?_, k2, ?_, ?_⟩
        · rw [yev_ag agA w1]
          exact k1
        · rw [yev_ag agA w1, yev_ag agA w2]
          rw [xF.2.2 _ _ ((yunt_ok gA.1 hy.2 (i := (yev rA y.1).toNat) (by omega)).imp_left (fun q => ⟨q, yrd_lt k3 q⟩))]
          exact k3
        · exact yv_le e1 (yv_ag agA w3 k4)
    · exact yGl_le e1 (yGl_ag n2 ag g.2.2.2.1)
    · exact ystk_app (ystk_tav c2 b1 b2 gQ.2.2.2.2) (ystk_le e1 (ystk_ag n2 ag gr))
  · cases h
theorem ytry2_ok {E : zHp → Prop} {d k : Nat} {M : yM} {args rest : List yV} {as m : List Value} (H : yH0 hp ∧ E hp) (g : yG hp r (yst S []) lv []) (ga : ystk hp.1 r S.1 args as) (gr : ystk hp.1 r S.1 rest m) : ∀ {sps : List ySp} {R : List yS}, (∀ sp ∈ sps, yTr E d sp ∧ ywf sp.2.2.1 = true) → ytry2 sps k M S args rest = some R →
    ∃ x : zRe, zCan d k as hp x ∧ (yH0 x.2 ∧ E x.2) ∧ yF M hp x.2 ∧ ∃ T ∈ R, ∃ r2, yag S.1 r r2 ∧ S.1 ≤ T.1 ∧ yG x.2 r2 T lv (x.1.toList ++ m)
  | [], _, _, h => by cases h
  | sp :: l, R, hs, h => by
    unfold ytry2 at h
    split at h
    · next e =>
      split at h
      · next R2 hR =>
        cases h
        have k1 := hs sp List.mem_cons_self
        have := yapp_ok k1.1 k1.2 H g ga gr hR
        rw [e] at this
        exact this
      · exact ytry2_ok H g ga gr (fun x hx => hs x (List.mem_cons_of_mem _ hx)) h
    · exact ytry2_ok H g ga gr (fun x hx => hs x (List.mem_cons_of_mem _ hx)) h
end YCAL
