/-! Steps of the checker that touch no cell. -/
def yst (S : yS) (s : List yV) : yS := (S.1, S.2.1, S.2.2.1, S.2.2.2.1, S.2.2.2.2.1, s)
abbrev yO : Type := Option (List (Nat × yS))
/-- the step is done, and one of the states holds behind it -/
def yD (hp : zHp) (r : Nat → Int) (n : Nat) (L : List (Nat × yS)) (o : zO) : Prop := ∃ fr' : zFr, o = some (.inl (fr', hp)) ∧ ∃ q ∈ L, q.1 = fr'.1 ∧ ∃ r2, yag n r r2 ∧ n ≤ q.2.1 ∧ yG hp r2 q.2 fr'.2.1 fr'.2.2
theorem yag_refl (n : Nat) (r : Nat → Int) : yag n r r := fun _ _ => rfl
section YARM
variable {hp : zHp} {r : Nat → Int} {S : yS} {lv : List (Nat × Value)} {st : List Value} {pc : Nat}
theorem yG_st {T : yS} {st2 : List Value} (g : yG hp r T lv st) {s : List yV} (h : ystk hp.1 r T.1 s st2) : yG hp r (yst T s) lv st2 := ⟨g.1, g.2.1, g.2.2.1, g.2.2.2.1, h⟩
theorem yD1 {k : Nat} {T : yS} {lv2 : List (Nat × Value)} {st2 : List Value} {r2 : Nat → Int} {o : zO} {n : Nat} (ho : o = zn k lv2 st2 hp) (ha : yag n r r2) (hn : n ≤ T.1) (g : yG hp r2 T lv2 st2) : yD hp r n [(k, T)] o := ⟨(k, lv2, st2), ho, (k, T), List.mem_cons_self, rfl, r2, ha, hn, g⟩
def aPush (k : Nat) (a : yV) (pc : Nat) (S : yS) : yO := some [(pc + k, yst S (a :: S.2.2.2.2.2))]
theorem aPush_ok (g : yG hp r S lv st) {k : Nat} {a : yV} {v : Value} (hw : ywv S.1 a) (hv : yv hp.1 r a v) {L : List (Nat × yS)} (h : aPush k a pc S = some L) : yD hp r S.1 L (zPush k v (pc, lv, st) hp) := by
  cases h
  exact yD1 rfl (yag_refl _ _) (Nat.le_refl _) (yG_st g ⟨⟨hw, hv⟩, g.2.2.2.2⟩)
theorem ywI {n : Nat} {l : yL} (w : yw n l) : ywv n (yI l) := ⟨w, Or.inl rfl⟩
theorem ywc (n : Nat) (c : Int) : yw n (yc c) := Or.inl rfl
theorem yvI {h : Nat} {x : Int32} {l : yL} (e : x.toInt = yev r l) : yv h r (yI l) (.int x) := by
  show ∃ y : Int32, Value.int x = .int y ∧ y.toInt = yev r l
  exact ⟨x, rfl, e⟩
theorem yvL {h : Nat} {x : Int64} {l : yL} (e : x.toInt = yev r l) : yv h r (1, l, yc 0) (.long x) := by
  show ∃ y : Int64, Value.long x = .long y ∧ y.toInt = yev r l
  exact ⟨x, rfl, e⟩
theorem yvI' {h : Nat} {a : yV} {v : Value} (e : a.1 = 0) (hv : yv h r a v) : ∃ x : Int32, v = .int x ∧ x.toInt = yev r a.2.1 := by
  unfold yv at hv
  rw [e] at hv
  exact hv
theorem yvL' {h : Nat} {a : yV} {v : Value} (e : a.1 = 1) (hv : yv h r a v) : ∃ x : Int64, v = .long x ∧ x.toInt = yev r a.2.1 := by
  unfold yv at hv
  rw [e] at hv
  exact hv
/-- the number n, if it fits -/
def aConst (k : Nat) (n lo hi : Int) (pc : Nat) (S : yS) : yO := if lo ≤ n ∧ n ≤ hi then aPush k (yI (yc n)) pc S else none
theorem aConst_ok (g : yG hp r S lv st) {k : Nat} {n lo hi : Int} {x : Int32} (hx : lo ≤ n → n ≤ hi → x.toInt = n) {L : List (Nat × yS)} (h : aConst k n lo hi pc S = some L) : yD hp r S.1 L (zPush k (.int x) (pc, lv, st) hp) := by
  unfold aConst at h
  split at h
  · next c => exact aPush_ok g (ywI (ywc _ _)) (yvI (by rw [hx c.1 c.2]; exact (yev_c r n).symm)) h
  · cases h
def aLoadI (k i : Nat) (pc : Nat) (S : yS) : yO := match yld S.2.2.2.2.1 i with
  | some a => if a.1 = 0 then aPush k a pc S else none
  | none => none
theorem aLoadI_ok (g : yG hp r S lv st) {k i : Nat} {L : List (Nat × yS)} (h : aLoadI k i pc S = some L) : yD hp r S.1 L (zLoadI k i (pc, lv, st) hp) := by
  unfold aLoadI at h
  split at h
  · next a ha =>
    split at h
    · next h0 =>
      obtain ⟨w, v, h1, h2⟩ := g.2.2.2.1 i a ha
      have h3 := h2
      unfold yv at h3
      rw [h0] at h3
      obtain ⟨x, rfl, -⟩ := h3
      unfold zLoadI
      dsimp only
      rw [h1]
      exact aPush_ok g w h2 h
    · cases h
  · cases h
def aLoadL (k i : Nat) (pc : Nat) (S : yS) : yO := match yld S.2.2.2.2.1 i with
  | some a => if a.1 = 1 then aPush k a pc S else none
  | none => none
theorem aLoadL_ok (g : yG hp r S lv st) {k i : Nat} {L : List (Nat × yS)} (h : aLoadL k i pc S = some L) : yD hp r S.1 L (zLoadL k i (pc, lv, st) hp) := by
  unfold aLoadL at h
  split at h
  · next a ha =>
    split at h
    · next h0 =>
      obtain ⟨w, v, h1, h2⟩ := g.2.2.2.1 i a ha
      have h3 := h2
      unfold yv at h3
      rw [h0] at h3
      obtain ⟨x, rfl, -⟩ := h3
      unfold zLoadL
      dsimp only
      rw [h1]
      exact aPush_ok g w h2 h
    · cases h
  · cases h
/-- kinds that are references -/
def yisR (t : Nat) : Bool := t == 2 || t == 3 || t == 5 || t == 6
theorem yisR_ok {h : Nat} {a : yV} {v : Value} (e : yisR a.1 = true) (hv : yv h r a v) : v = .null ∨ ∃ i, v = .ref i := by
  obtain ⟨t, l⟩ := a
  have e : (t == 2 || t == 3 || t == 5 || t == 6) = true := e
  simp only [Bool.or_eq_true, beq_iff_eq] at e
  rcases e with ((rfl | rfl) | rfl) | rfl
  · rcases hv with hv | hv
    · exact Or.inl hv.2
    · exact Or.inr ⟨_, hv.2⟩
  · rcases hv with hv | hv
    · exact Or.inl hv.2
    · exact Or.inr ⟨_, hv.2.2⟩
  · exact Or.inr ⟨_, hv.2.2⟩
  · exact Or.inr ⟨_, hv.2.2⟩
def aLoadA (k i : Nat) (pc : Nat) (S : yS) : yO := match yld S.2.2.2.2.1 i with
  | some a => if yisR a.1 = true then aPush k a pc S else none
  | none => none
theorem aLoadA_ok (g : yG hp r S lv st) {k i : Nat} {L : List (Nat × yS)} (h : aLoadA k i pc S = some L) : yD hp r S.1 L (zLoadA k i (pc, lv, st) hp) := by
  unfold aLoadA at h
  split at h
  · next a ha =>
    split at h
    · next h0 =>
      obtain ⟨w, v, h1, h2⟩ := g.2.2.2.1 i a ha
      unfold zLoadA
      dsimp only
      rw [h1]
      rcases yisR_ok h0 h2 with rfl | ⟨x, rfl⟩
      · exact aPush_ok g w h2 h
      · exact aPush_ok g w h2 h
    · cases h
  · cases h
def ylong (l : List (Nat × yV)) (j : Nat) : Bool := match yld l j with
  | some b => b.1 == 1
  | none => false
def ykd (i : Nat) (a : yV) (l : List (Nat × yV)) (j : Nat) : Bool := !(j == i) && (!(j + 1 == i && ylong l j) && !(j == i + 1 && a.1 == 1))
def ysto (i : Nat) (a : yV) (l : List (Nat × yV)) : List (Nat × yV) := (i, a) :: l.filter (fun q => ykd i a l q.1)
theorem yld_filter {p : Nat → Bool} : ∀ {l : List (Nat × yV)} {j : Nat} {a : yV}, yld (l.filter (fun q => p q.1)) j = some a → p j = true ∧ yld l j = some a
  | [], _, _, h => by cases h
  | q :: l, j, a, h => by
    unfold yld
    by_cases hq : p q.1 = true
    · rw [List.filter_cons_of_pos (p := fun q : Nat × yV => p q.1) hq] at h
      unfold yld at h
      by_cases e : q.1 = j
      · rw [if_pos e] at h ⊢
        exact ⟨e ▸ hq, h⟩
      · rw [if_neg e] at h ⊢
        exact yld_filter h
    · rw [List.filter_cons_of_neg (p := fun q : Nat × yV => p q.1) hq] at h
      have k := yld_filter h
      have e : ¬ q.1 = j := fun z => hq (z ▸ k.1)
      rw [if_neg e]
      exact k
theorem zld_filter {p : Nat × Value → Bool} : ∀ {l : List (Nat × Value)} {j : Nat} {v : Value}, zld l j = some v → p (j, v) = true → zld (l.filter p) j = some v
  | [], _, _, h, _ => by cases h
  | q :: l, j, v, h, hp => by
    unfold zld at h
    split at h
    · next e =>
      cases h
      cases e
      have hp : p q = true := hp
      rw [List.filter_cons_of_pos hp]
      unfold zld
      rw [if_pos rfl]
    · next e =>
      by_cases hq : p q = true
      · rw [List.filter_cons_of_pos hq]
        unfold zld
        rw [if_neg e]
        exact zld_filter h hp
      · rw [List.filter_cons_of_neg hq]
        exact zld_filter h hp
theorem ycat {h : Nat} {a : yV} {v : Value} (hv : yv h r a v) : v.category = if a.1 = 1 then 2 else 1 := by
  obtain ⟨t, l⟩ := a
  unfold yv at hv
  split at hv
  · next e => obtain ⟨x, rfl, -⟩ := hv; have e : t = 0 := e; subst e; rfl
  · next e => obtain ⟨x, rfl, -⟩ := hv; have e : t = 1 := e; subst e; rfl
  · next e => have e : t = 2 := e; subst e; rcases hv with ⟨-, rfl⟩ | ⟨-, rfl⟩ <;> rfl
  · next e => have e : t = 3 := e; subst e; rcases hv with ⟨-, rfl⟩ | ⟨-, -, rfl⟩ <;> rfl
  · next e => obtain ⟨x, rfl, -⟩ := hv; have e : t = 4 := e; subst e; rfl
  · next e => obtain ⟨-, -, rfl⟩ := hv; have e : t = 5 := e; subst e; rfl
  · next e => obtain ⟨-, -, rfl⟩ := hv; have e : t = 6 := e; subst e; rfl
  · next e => subst hv; have e : t = 7 := e; subst e; rfl
  · exact hv.elim
/-- a local is set -/
theorem yGl_set {h n : Nat} {l : List (Nat × yV)} (g : yGl h r n l lv) {i : Nat} {a : yV} {v : Value} (w : ywv n a) (hv : yv h r a v) {lv2 : List (Nat × Value)} (h0 : zld lv2 i = some v)
    (h1 : ∀ j u, zld lv j = some u → j ≠ i → ¬ (j + 1 = i ∧ u.category = 2) → ¬ (j = i + 1 ∧ a.1 = 1) → zld lv2 j = some u) : yGl h r n (ysto i a l) lv2 := by
  intro j b hb
  unfold ysto at hb
  by_cases e : j = i
  · subst e
    unfold yld at hb
    rw [if_pos rfl] at hb
    cases hb
    exact ⟨w, v, h0, hv⟩
  · unfold yld at hb
    rw [if_neg (fun z => e z.symm)] at hb
    obtain ⟨k, m⟩ := yld_filter hb
    unfold ykd at k
    simp only [Bool.and_eq_true, Bool.not_eq_true', Bool.and_eq_false_iff, beq_eq_false_iff_ne] at k
    obtain ⟨wb, u, hu, hub⟩ := g j b m
    refine ⟨wb, u, h1 j u hu e ?_ ?_, hub⟩
    · rintro ⟨z1, z2⟩
      rw [ycat hub] at z2
      split at z2
      · next z3 =>
        rcases k.2.1 with k1 | k1
        · exact k1 z1
        · unfold ylong at k1
          rw [m] at k1
          simp [z3] at k1
      · omega
    · rintro ⟨z1, z2⟩
      rcases k.2.2 with k1 | k1 <;> contradiction
theorem ystk_nil {h n : Nat} {s : List Value} (g : ystk h r n [] s) : s = [] := by
  cases s with
  | nil => rfl
  | cons a b => exact g.elim
theorem ystk_cons {h n : Nat} {a : yV} {l : List yV} {s : List Value} (g : ystk h r n (a :: l) s) : ∃ v m, s = v :: m ∧ (ywv n a ∧ yv h r a v) ∧ ystk h r n l m := by
  cases s with
  | nil => exact g.elim
  | cons v m => exact ⟨v, m, rfl, g.1, g.2⟩
def ysz (t : Nat) : Nat := if t = 1 then 1 else 0
def aSto (k i nL : Nat) (t : Nat → Bool) (pc : Nat) (S : yS) : yO := match S.2.2.2.2.2 with
  | a :: s => if t a.1 = true ∧ i + ysz a.1 < nL then some [(pc + k, (S.1, S.2.1, S.2.2.1, S.2.2.2.1, ysto i a S.2.2.2.2.1, s))] else none
  | _ => none
theorem zs1_ld (l : List (Nat × Value)) (i : Nat) (v : Value) : zld (zs1 l i v) i = some v := by unfold zs1 zld; rw [if_pos rfl]
theorem zs1_ot {l : List (Nat × Value)} {i j : Nat} {v u : Value} (h : zld l j = some u) (h1 : j ≠ i) (h2 : ¬ (j + 1 = i ∧ u.category = 2)) : zld (zs1 l i v) j = some u := by
  unfold zs1 zld
  rw [if_neg (fun z => h1 z.symm)]
  refine zld_filter h ?_
  simp only [Bool.and_eq_true, Bool.not_eq_true', Bool.and_eq_false_iff, beq_eq_false_iff_ne]
  refine ⟨h1, ?_⟩
  by_cases e : j + 1 = i
  · exact Or.inr (fun z => h2 ⟨e, z⟩)
  · exact Or.inl e
theorem zs2_ld (l : List (Nat × Value)) (i : Nat) (v : Value) : zld (zs2 l i v) i = some v := by unfold zs2 zld; rw [if_pos rfl]
theorem zs2_ot {l : List (Nat × Value)} {i j : Nat} {v u : Value} (h : zld l j = some u) (h1 : j ≠ i) (h2 : ¬ (j + 1 = i ∧ u.category = 2)) (h3 : j ≠ i + 1) : zld (zs2 l i v) j = some u := by
  unfold zs2 zld
  rw [if_neg (fun z => h1 z.symm)]
  refine zld_filter h ?_
  simp only [Bool.and_eq_true, Bool.not_eq_true', Bool.and_eq_false_iff, beq_eq_false_iff_ne]
  refine ⟨h1, h3, ?_⟩
  by_cases e : j + 1 = i
  · exact Or.inr (fun z => h2 ⟨e, z⟩)
  · exact Or.inl e
theorem aStoI_ok (g : yG hp r S lv st) {k i nL : Nat} {L : List (Nat × yS)} (h : aSto k i nL (fun t => t == 0) pc S = some L) : yD hp r S.1 L (zStoI k i nL (pc, lv, st) hp) := by
  unfold aSto at h
  split at h
  · next a s hs =>
    split at h
    · next c =>
      cases h
      have g5 := g.2.2.2.2
      rw [hs] at g5
      obtain ⟨v, m, rfl, ⟨w, hv⟩, gm⟩ := ystk_cons g5
      have e : a.1 = 0 := by simpa using c.1
      have h3 := hv
      unfold yv at h3
      rw [e] at h3
      obtain ⟨x, rfl, -⟩ := h3
      have c2 : i < nL := by have := c.2; rw [e] at this; exact this
      refine yD1 (k := pc + k) (lv2 := zs1 lv i (.int x)) (st2 := m) ?_ (yag_refl _ _) (Nat.le_refl _) ⟨g.1, g.2.1, g.2.2.1, yGl_set g.2.2.2.1 w hv (zs1_ld _ _ _) (fun j u h1 h2 h3 _ => zs1_ot h1 h2 h3), gm⟩
      unfold zStoI
      dsimp only
      rw [if_pos c2]
    · cases h
  · cases h
theorem aStoL_ok (g : yG hp r S lv st) {k i nL : Nat} {L : List (Nat × yS)} (h : aSto k i nL (fun t => t == 1) pc S = some L) : yD hp r S.1 L (zStoL k i nL (pc, lv, st) hp) := by
  unfold aSto at h
  split at h
  · next a s hs =>
    split at h
    · next c =>
      cases h
      have g5 := g.2.2.2.2
      rw [hs] at g5
      obtain ⟨v, m, rfl, ⟨w, hv⟩, gm⟩ := ystk_cons g5
      have e : a.1 = 1 := by simpa using c.1
      have h3 := hv
      unfold yv at h3
      rw [e] at h3
      obtain ⟨x, rfl, -⟩ := h3
      have c2 : i + 1 < nL := by have := c.2; rw [e] at this; exact this
      refine yD1 (k := pc + k) (lv2 := zs2 lv i (.long x)) (st2 := m) ?_ (yag_refl _ _) (Nat.le_refl _) ⟨g.1, g.2.1, g.2.2.1, yGl_set g.2.2.2.1 w hv (zs2_ld _ _ _) (fun j u h1 h2 h3 h4 => zs2_ot h1 h2 h3 (fun z => h4 ⟨z, e⟩)), gm⟩
      unfold zStoL
      dsimp only
      rw [if_pos c2]
    · cases h
  · cases h
theorem aStoA_ok (g : yG hp r S lv st) {k i nL : Nat} {L : List (Nat × yS)} (h : aSto k i nL yisR pc S = some L) : yD hp r S.1 L (zStoA k i nL (pc, lv, st) hp) := by
  unfold aSto at h
  split at h
  · next a s hs =>
    split at h
    · next c =>
      cases h
      have g5 := g.2.2.2.2
      rw [hs] at g5
      obtain ⟨v, m, rfl, ⟨w, hv⟩, gm⟩ := ystk_cons g5
      have e : ¬ a.1 = 1 := by
        intro z
        have := c.1
        rw [z] at this
        cases this
      have c2 : i < nL := by have := c.2; unfold ysz at this; rw [if_neg e] at this; exact this
      refine yD1 (k := pc + k) (lv2 := zs1 lv i v) (st2 := m) ?_ (yag_refl _ _) (Nat.le_refl _) ⟨g.1, g.2.1, g.2.2.1, yGl_set g.2.2.2.1 w hv (zs1_ld _ _ _) (fun j u h1 h2 h3 _ => zs1_ot h1 h2 h3), gm⟩
      rcases yisR_ok c.1 hv with rfl | ⟨x, rfl⟩
      · unfold zStoA
        dsimp only
        rw [if_pos c2]
      · unfold zStoA
        dsimp only
        rw [if_pos c2]
    · cases h
  · cases h
end YARM
