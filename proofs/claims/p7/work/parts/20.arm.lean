/-! Steps of the checker that touch no cell: operations and jumps. -/
section YARN
variable {hp : zHp} {r : Nat → Int} {S : yS} {lv : List (Nat × Value)} {st : List Value} {pc : Nat}
/-- behind an operation on the upper operands: T is S with new symbols -/
theorem yG_res {r2 : Nat → Int} {T : yS} (g : yG hp r2 T lv st) (e : T.2.2.2 = S.2.2.2) {s : List yV} {a : yV} {m : List Value} {v : Value} (hs : ystk hp.1 r2 T.1 s m) (w : ywv T.1 a) (hv : yv hp.1 r2 a v) : yG hp r2 (yst T (a :: s)) lv (v :: m) := yG_st g ⟨⟨w, hv⟩, hs⟩
def aBin (o : Nat) (pc : Nat) (S : yS) : yO := match S.2.2.2.2.2 with
  | b :: a :: s => if a.1 = 0 ∧ b.1 = 0 then (match ybi S o a.2.1 b.2.1 with
    | some T => some [(pc + 1, yst T.1 (yI T.2 :: s))]
    | none => none) else none
  | _ => none
theorem aBin_pre (g : yG hp r S lv st) {o : Nat} {L : List (Nat × yS)} (h : aBin o pc S = some L) : ∃ (x y : Int32) (m : List Value) (a b : yV) (s : List yV), st = .int y :: .int x :: m ∧ S.2.2.2.2.2 = b :: a :: s ∧ y.toInt = yev r b.2.1 ∧ ywv S.1 b ∧ ∃ (T : yS) (r2 : Nat → Int), L = [(pc + 1, T)] ∧ yag S.1 r r2 ∧ S.1 ≤ T.1 ∧ yG hp r2 T lv (.int (yfI o x y) :: m) := by
  unfold aBin at h
  split at h
  · next b a s hs =>
    split at h
    · next c =>
      have g5 := g.2.2.2.2
      rw [hs] at g5
      obtain ⟨v1, m1, rfl, ⟨w1, hv1⟩, g6⟩ := ystk_cons g5
      obtain ⟨v2, m, rfl, ⟨w2, hv2⟩, g7⟩ := ystk_cons g6
      obtain ⟨y, rfl, hy⟩ := yvI' c.2 hv1
      obtain ⟨x, rfl, hx⟩ := yvI' c.1 hv2
      split at h
      · next T hT =>
        cases h
        obtain ⟨r2, a1, a2, a3, a4, a5, a6⟩ := ybi_ok g w2.1 w1.1 hx hy hT
        exact ⟨x, y, m, a, b, s, rfl, hs, hy, w1, _, r2, rfl, a1, a2, yG_st a4 ⟨⟨ywI a5, yvI a6⟩, ystk_ag a2 a1 g7⟩⟩
      · cases h
    · cases h
  · cases h
theorem aBin_ok (g : yG hp r S lv st) {o : Nat} {L : List (Nat × yS)} (h : aBin o pc S = some L) : yD hp r S.1 L (zBin (yfI o) (pc, lv, st) hp) := by
  obtain ⟨x, y, m, a, b, s, rfl, -, -, -, T, r2, rfl, a1, a2, a3⟩ := aBin_pre g h
  exact yD1 rfl a1 a2 a3
def ynz (S : yS) : Bool := match S.2.2.2.2.2 with
  | b :: _ => (match yrg S.2.1 b.2.1 with
    | some p => decide (0 < p.1) || decide (p.2 < 0)
    | none => false)
  | _ => false
theorem aBinD_ok (g : yG hp r S lv st) {o : Nat} {L : List (Nat × yS)} (h : (if ynz S = true then aBin o pc S else none) = some L) : yD hp r S.1 L (zBinD (yfI o) (pc, lv, st) hp) := by
  split at h
  · next c =>
    obtain ⟨x, y, m, a, b, s, rfl, hs, hy, hw, T, r2, rfl, a1, a2, a3⟩ := aBin_pre g h
    have y0 : ¬ y = 0 := by
      intro e
      unfold ynz at c
      rw [hs] at c
      dsimp only at c
      split at c
      · next p hp1 =>
        have := yrg_ok g.1 hp1
        rw [← hy, e] at this
        have e0 : (0 : Int32).toInt = 0 := rfl
        rw [e0] at this
        simp only [Bool.or_eq_true, decide_eq_true_eq] at c
        omega
      · cases c
    refine yD1 (lv2 := lv) (st2 := .int (yfI o x y) :: m) ?_ a1 a2 a3
    unfold zBinD
    dsimp only
    rw [if_neg y0]
  · cases h
def aBnl (o : Nat) (pc : Nat) (S : yS) : yO := match S.2.2.2.2.2 with
  | b :: a :: s => if a.1 = 1 ∧ b.1 = 1 then (match ybl S o a.2.1 b.2.1 with
    | some T => some [(pc + 1, yst T.1 ((1, T.2, yc 0) :: s))]
    | none => none) else none
  | _ => none
theorem aBnl_pre (g : yG hp r S lv st) {o : Nat} {L : List (Nat × yS)} (h : aBnl o pc S = some L) : ∃ (x y : Int64) (m : List Value) (a b : yV) (s : List yV), st = .long y :: .long x :: m ∧ S.2.2.2.2.2 = b :: a :: s ∧ y.toInt = yev r b.2.1 ∧ ywv S.1 b ∧ ∃ (T : yS) (r2 : Nat → Int), L = [(pc + 1, T)] ∧ yag S.1 r r2 ∧ S.1 ≤ T.1 ∧ yG hp r2 T lv (.long (yfL o x y) :: m) := by
  unfold aBnl at h
  split at h
  · next b a s hs =>
    split at h
    · next c =>
      have g5 := g.2.2.2.2
      rw [hs] at g5
      obtain ⟨v1, m1, rfl, ⟨w1, hv1⟩, g6⟩ := ystk_cons g5
      obtain ⟨v2, m, rfl, ⟨w2, hv2⟩, g7⟩ := ystk_cons g6
      obtain ⟨y, rfl, hy⟩ := yvL' c.2 hv1
      obtain ⟨x, rfl, hx⟩ := yvL' c.1 hv2
      split at h
      · next T hT =>
        cases h
        obtain ⟨r2, a1, a2, a3, a4, a5, a6⟩ := ybl_ok g w2.1 w1.1 hx hy hT
        exact ⟨x, y, m, a, b, s, rfl, hs, hy, w1, _, r2, rfl, a1, a2, yG_st a4 ⟨⟨⟨a5, Or.inl rfl⟩, yvL a6⟩, ystk_ag a2 a1 g7⟩⟩
      · cases h
    · cases h
  · cases h
theorem aBnl_ok (g : yG hp r S lv st) {o : Nat} {L : List (Nat × yS)} (h : aBnl o pc S = some L) : yD hp r S.1 L (zBnl (yfL o) (pc, lv, st) hp) := by
  obtain ⟨x, y, m, a, b, s, rfl, -, -, -, T, r2, rfl, a1, a2, a3⟩ := aBnl_pre g h
  exact yD1 rfl a1 a2 a3
theorem aBnlD_ok (g : yG hp r S lv st) {o : Nat} {L : List (Nat × yS)} (h : (if ynz S = true then aBnl o pc S else none) = some L) : yD hp r S.1 L (zBnlD (yfL o) (pc, lv, st) hp) := by
  split at h
  · next c =>
    obtain ⟨x, y, m, a, b, s, rfl, hs, hy, hw, T, r2, rfl, a1, a2, a3⟩ := aBnl_pre g h
    have y0 : ¬ y = 0 := by
      intro e
      unfold ynz at c
      rw [hs] at c
      dsimp only at c
      split at c
      · next p hp1 =>
        have := yrg_ok g.1 hp1
        rw [← hy, e] at this
        have e0 : (0 : Int64).toInt = 0 := rfl
        rw [e0] at this
        simp only [Bool.or_eq_true, decide_eq_true_eq] at c
        omega
      · cases c
    refine yD1 (lv2 := lv) (st2 := .long (yfL o x y) :: m) ?_ a1 a2 a3
    unfold zBnlD
    dsimp only
    rw [if_neg y0]
  · cases h
def aInc (i : Nat) (n : Int) (nL : Nat) (pc : Nat) (S : yS) : yO := match yld S.2.2.2.2.1 i with
  | some a => if a.1 = 0 ∧ i < nL ∧ -2147483648 ≤ n ∧ n < 2147483648 then (match ybi S 0 a.2.1 (yc n) with
    | some T => some [(pc + 3, (T.1.1, T.1.2.1, T.1.2.2.1, T.1.2.2.2.1, ysto i (yI T.2) T.1.2.2.2.2.1, T.1.2.2.2.2.2))]
    | none => none) else none
  | none => none
theorem aInc_ok (g : yG hp r S lv st) {i nL : Nat} {n : Int} {L : List (Nat × yS)} (h : aInc i n nL pc S = some L) : yD hp r S.1 L (zInc i n nL (pc, lv, st) hp) := by
  unfold aInc at h
  split at h
  · next a ha =>
    split at h
    · next c =>
      obtain ⟨w, v, h1, h2⟩ := g.2.2.2.1 i a ha
      obtain ⟨x, rfl, hx⟩ := yvI' c.1 h2
      split at h
      · next T hT =>
        cases h
        obtain ⟨r2, a1, a2, a3, a4, a5, a6⟩ := ybi_ok g w.1 (ywc _ _) hx (y := Int32.ofInt n) (by rw [yev_c]; exact Int32.toInt_ofInt_of_le c.2.2.1 c.2.2.2) hT
        refine yD1 (lv2 := zs1 lv i (.int (x + Int32.ofInt n))) (st2 := st) ?_ a1 a2 ⟨a4.1, a4.2.1, a4.2.2.1, yGl_set a4.2.2.2.1 (ywI a5) (yvI a6) (zs1_ld _ _ _) (fun j u h1 h2 h3 _ => zs1_ot h1 h2 h3), a4.2.2.2.2⟩
        unfold zInc
        dsimp only
        rw [h1]
        dsimp only
        rw [if_pos c.2.1]
      · cases h
    · cases h
  · cases h
/-- an int or long by a function of one: a form that stays, or a new symbol -/
def aUn (t t2 : Nat) (lo hi : Int) (pc : Nat) (S : yS) : yO := match S.2.2.2.2.2 with
  | a :: s => if a.1 = t then (match yrg S.2.1 a.2.1 with
    | some p => if lo ≤ p.1 ∧ p.2 ≤ hi then some [(pc + 1, yst S ((t2, a.2.1, yc 0) :: s))] else some [(pc + 1, yst (yput S ((lo, hi), none)).1 ((t2, (yput S ((lo, hi), none)).2, yc 0) :: s))]
    | none => none) else none
  | _ => none
theorem aUn_ok (g : yG hp r S lv st) {t t2 : Nat} {lo hi : Int} {L : List (Nat × yS)} (h : aUn t t2 lo hi pc S = some L) :
    ∃ (a : yV) (v : Value) (m : List Value), st = v :: m ∧ a.1 = t ∧ yv hp.1 r a v ∧ ∀ (z : Int) (u : Value), (lo ≤ z ∧ z ≤ hi) → (lo ≤ yev r a.2.1 → yev r a.2.1 ≤ hi → z = yev r a.2.1) → (∀ (r2 : Nat → Int) (l : yL), yev r2 l = z → yv hp.1 r2 (t2, l, yc 0) u) → yD hp r S.1 L (zn (pc + 1) lv (u :: m) hp) := by
  unfold aUn at h
  split at h
  · next a s hs =>
    split at h
    · next c =>
      have g5 := g.2.2.2.2
      rw [hs] at g5
      obtain ⟨v, m, rfl, ⟨w, hv⟩, gm⟩ := ystk_cons g5
      refine ⟨a, v, m, rfl, c, hv, fun z u hz he hu => ?_⟩
      split at h
      · next p hp1 =>
        have b := yrg_ok g.1 hp1
        split at h
        · next c2 =>
          cases h
          exact yD1 rfl (yag_refl _ _) (Nat.le_refl _) (yG_st g ⟨⟨⟨w.1, Or.inl rfl⟩, hu r _ (he (by omega) (by omega)).symm⟩, gm⟩)
        · cases h
          obtain ⟨r2, a1, a2, a3, a4, a5, a6⟩ := yput_ok g (t := ((lo, hi), none)) (z := z) ⟨hz, fun l hl => by cases hl⟩
          exact yD1 rfl a1 a2 (yG_st a4 ⟨⟨⟨a5, Or.inl rfl⟩, hu r2 _ a6⟩, ystk_ag a2 a1 gm⟩)
      · cases h
    · cases h
  · cases h
theorem aI2l_ok (g : yG hp r S lv st) {L : List (Nat × yS)} (h : aUn 0 1 (-2147483648) 2147483647 pc S = some L) : yD hp r S.1 L (zUn (fun x => .long x.toInt64) (pc, lv, st) hp) := by
  obtain ⟨a, v, m, rfl, ha, hv, K⟩ := aUn_ok g h
  obtain ⟨x, rfl, hx⟩ := yvI' ha hv
  have := y32 x
  exact K x.toInt (.long x.toInt64) (by omega) (fun _ _ => hx) (fun r2 l e => yvL (by rw [Int32.toInt_toInt64]; exact e.symm))
theorem aL2i_ok (g : yG hp r S lv st) {L : List (Nat × yS)} (h : aUn 1 0 (-2147483648) 2147483647 pc S = some L) : yD hp r S.1 L (zUnl (fun x => .int x.toInt32) (pc, lv, st) hp) := by
  obtain ⟨a, v, m, rfl, ha, hv, K⟩ := aUn_ok g h
  obtain ⟨x, rfl, hx⟩ := yvL' ha hv
  have := y32 x.toInt32
  exact K x.toInt32.toInt (.int x.toInt32) (by omega) (fun h1 h2 => by rw [Int64.toInt_toInt32, hx]; exact Int.bmod_eq_of_le_mul_two (by omega) (by omega)) (fun r2 l e => yvI e.symm)
theorem aI2b_ok (g : yG hp r S lv st) {L : List (Nat × yS)} (h : aUn 0 0 (-128) 127 pc S = some L) : yD hp r S.1 L (zUn (fun x => .int x.toInt8.toInt32) (pc, lv, st) hp) := by
  obtain ⟨a, v, m, rfl, ha, hv, K⟩ := aUn_ok g h
  obtain ⟨x, rfl, hx⟩ := yvI' ha hv
  have e : x.toInt8.toInt32.toInt = x.toInt8.toInt := Int8.toInt_toInt32 _
  have b1 : -128 ≤ x.toInt8.toInt := x.toInt8.le_toInt
  have b2 : x.toInt8.toInt < 128 := x.toInt8.toInt_lt
  exact K x.toInt8.toInt32.toInt (.int x.toInt8.toInt32) (by rw [e]; omega) (fun h1 h2 => by rw [e, Int32.toInt_toInt8, hx]; exact Int.bmod_eq_of_le_mul_two (by omega) (by omega)) (fun r2 l e => yvI e.symm)
theorem y2c (x : Int32) : ((x.toUInt32 % 65536).toInt32).toInt = ((x.toBitVec.toNat % 65536 : Nat) : Int) := by
  have e : ((x.toUInt32 % 65536).toInt32).toBitVec.toNat = x.toBitVec.toNat % 65536 := by
    show (x.toBitVec % 65536#32).toNat = _
    rw [BitVec.toNat_umod]
    rfl
  have e2 := ynat_of (b := ((x.toUInt32 % 65536).toInt32).toBitVec) (by rw [e]; omega)
  rw [e] at e2
  exact e2
theorem aI2c_ok (g : yG hp r S lv st) {L : List (Nat × yS)} (h : aUn 0 0 0 65535 pc S = some L) : yD hp r S.1 L (zUn (fun x => .int (x.toUInt32 % 65536).toInt32) (pc, lv, st) hp) := by
  obtain ⟨a, v, m, rfl, ha, hv, K⟩ := aUn_ok g h
  obtain ⟨x, rfl, hx⟩ := yvI' ha hv
  exact K ((x.toUInt32 % 65536).toInt32).toInt (.int (x.toUInt32 % 65536).toInt32) (by rw [y2c]; omega) (fun h1 h2 => by
    rw [y2c, ← hx]
    have := ynat (x := x) (by omega)
    omega) (fun r2 l e => yvI e.symm)
def aLshl (pc : Nat) (S : yS) : yO := match S.2.2.2.2.2 with
  | b :: a :: s => if a.1 = 1 ∧ b.1 = 0 then some [(pc + 1, yst (yput S ((-9223372036854775808, 9223372036854775807), none)).1 ((1, (yput S ((-9223372036854775808, 9223372036854775807), none)).2, yc 0) :: s))] else none
  | _ => none
theorem aLshl_ok (g : yG hp r S lv st) {L : List (Nat × yS)} (h : aLshl pc S = some L) : yD hp r S.1 L (zLshl (pc, lv, st) hp) := by
  unfold aLshl at h
  split at h
  · next b a s hs =>
    split at h
    · next c =>
      have g5 := g.2.2.2.2
      rw [hs] at g5
      obtain ⟨v1, m1, rfl, ⟨w1, hv1⟩, g6⟩ := ystk_cons g5
      obtain ⟨v2, m, rfl, ⟨w2, hv2⟩, g7⟩ := ystk_cons g6
      obtain ⟨y, rfl, hy⟩ := yvI' c.2 hv1
      obtain ⟨x, rfl, hx⟩ := yvL' c.1 hv2
      cases h
      have := y64 (x <<< (y.toInt64 &&& 63))
      obtain ⟨r2, a1, a2, a3, a4, a5, a6⟩ := yput_ok g (t := ((-9223372036854775808, 9223372036854775807), none)) (z := (x <<< (y.toInt64 &&& 63)).toInt) ⟨⟨this.1, Int.le_of_lt_add_one this.2⟩, fun l hl => by cases hl⟩
      exact yD1 rfl a1 a2 (yG_st a4 ⟨⟨⟨a5, Or.inl rfl⟩, yvL a6.symm⟩, ystk_ag a2 a1 g7⟩)
    · cases h
  · cases h
def aLcmp (pc : Nat) (S : yS) : yO := match S.2.2.2.2.2 with
  | b :: a :: s => if a.1 = 1 ∧ b.1 = 1 then some [(pc + 1, yst S ((4, a.2.1, b.2.1) :: s))] else none
  | _ => none
theorem ylcmp (x y : Int64) : ((lg_cmp x y).toInt = -1 ∧ x.toInt < y.toInt) ∨ ((lg_cmp x y).toInt = 0 ∧ x.toInt = y.toInt) ∨ ((lg_cmp x y).toInt = 1 ∧ y.toInt < x.toInt) := by
  unfold lg_cmp
  split
  · next h => exact Or.inr (Or.inr ⟨rfl, Int64.lt_iff_toInt_lt.mp h⟩)
  · next h =>
    split
    · next h2 => exact Or.inr (Or.inl ⟨rfl, by rw [h2]⟩)
    · next h2 =>
      refine Or.inl ⟨rfl, ?_⟩
      have h3 : ¬ y.toInt < x.toInt := fun z => h (Int64.lt_iff_toInt_lt.mpr z)
      have h4 : ¬ x.toInt = y.toInt := fun z => h2 (Int64.toInt_inj.mp z)
      omega
theorem aLcmp_ok (g : yG hp r S lv st) {L : List (Nat × yS)} (h : aLcmp pc S = some L) : yD hp r S.1 L (zLcmp (pc, lv, st) hp) := by
  unfold aLcmp at h
  split at h
  · next b a s hs =>
    split at h
    · next c =>
      have g5 := g.2.2.2.2
      rw [hs] at g5
      obtain ⟨v1, m1, rfl, ⟨w1, hv1⟩, g6⟩ := ystk_cons g5
      obtain ⟨v2, m, rfl, ⟨w2, hv2⟩, g7⟩ := ystk_cons g6
      obtain ⟨y, rfl, hy⟩ := yvL' c.2 hv1
      obtain ⟨x, rfl, hx⟩ := yvL' c.1 hv2
      cases h
      refine yD1 rfl (yag_refl _ _) (Nat.le_refl _) (yG_st g ⟨⟨⟨w2.1, w1.1⟩, ?_⟩, g7⟩)
      show ∃ z : Int32, Value.int (lg_cmp x y) = .int z ∧ _
      refine ⟨lg_cmp x y, rfl, ?_⟩
      have e := ylcmp x y
      rw [hx, hy] at e
      exact e
    · cases h
  · cases h
def aDup (pc : Nat) (S : yS) : yO := match S.2.2.2.2.2 with
  | a :: s => if a.1 = 1 then none else some [(pc + 1, yst S (a :: a :: s))]
  | _ => none
theorem aDup_ok (g : yG hp r S lv st) {L : List (Nat × yS)} (h : aDup pc S = some L) : yD hp r S.1 L (zDup (pc, lv, st) hp) := by
  unfold aDup at h
  split at h
  · next a s hs =>
    split at h
    · cases h
    · next c =>
      cases h
      have g5 := g.2.2.2.2
      rw [hs] at g5
      obtain ⟨v, m, rfl, hv, gm⟩ := ystk_cons g5
      refine yD1 (lv2 := lv) (st2 := v :: v :: m) ?_ (yag_refl _ _) (Nat.le_refl _) (yG_st g ⟨hv, hv, gm⟩)
      unfold zDup
      dsimp only
      rw [if_pos (by rw [ycat hv.2, if_neg c])]
  · cases h
def aDup2 (pc : Nat) (S : yS) : yO := match S.2.2.2.2.2 with
  | a :: b :: s => if a.1 = 1 ∨ b.1 = 1 then none else some [(pc + 1, yst S (a :: b :: a :: b :: s))]
  | _ => none
theorem aDup2_ok (g : yG hp r S lv st) {L : List (Nat × yS)} (h : aDup2 pc S = some L) : yD hp r S.1 L (zDup2 (pc, lv, st) hp) := by
  unfold aDup2 at h
  split at h
  · next a b s hs =>
    split at h
    · cases h
    · next c =>
      cases h
      have g5 := g.2.2.2.2
      rw [hs] at g5
      obtain ⟨v, m1, rfl, hv, gm1⟩ := ystk_cons g5
      obtain ⟨u, m, rfl, hu, gm⟩ := ystk_cons gm1
      refine yD1 (lv2 := lv) (st2 := v :: u :: v :: u :: m) ?_ (yag_refl _ _) (Nat.le_refl _) (yG_st g ⟨hv, hu, hv, hu, gm⟩)
      unfold zDup2
      dsimp only
      rw [if_pos ⟨by rw [ycat hv.2, if_neg (fun z => c (Or.inl z))], by rw [ycat hu.2, if_neg (fun z => c (Or.inr z))]⟩]
  · cases h
def aPop (pc : Nat) (S : yS) : yO := match S.2.2.2.2.2 with
  | a :: s => if a.1 = 1 then none else some [(pc + 1, yst S s)]
  | _ => none
theorem aPop_ok (g : yG hp r S lv st) {L : List (Nat × yS)} (h : aPop pc S = some L) : yD hp r S.1 L (zPop (pc, lv, st) hp) := by
  unfold aPop at h
  split at h
  · next a s hs =>
    split at h
    · cases h
    · next c =>
      cases h
      have g5 := g.2.2.2.2
      rw [hs] at g5
      obtain ⟨v, m, rfl, hv, gm⟩ := ystk_cons g5
      refine yD1 (lv2 := lv) (st2 := m) ?_ (yag_refl _ _) (Nat.le_refl _) (yG_st g gm)
      unfold zPop
      dsimp only
      rw [if_pos (by rw [ycat hv.2, if_neg c])]
  · cases h
/-- both ways of a comparison -/
def ytry (c : _root_.Jvm.ClassFile.Cond) (k : Nat) (S : yS) (l1 l2 : yL) : List (Nat × yS) := match yref c S l1 l2 with
  | some T => [(k, T)]
  | none => []
def ybra (c : _root_.Jvm.ClassFile.Cond) (sp : Bool) (k : Nat) (S : yS) (l1 l2 : yL) : List (Nat × yS) := match sp, c with
  | true, .ne => ytry .lt k S l1 l2 ++ ytry .gt k S l1 l2
  | _, c => ytry c k S l1 l2
theorem ytry_ok (g : yG hp r S lv st) {c : _root_.Jvm.ClassFile.Cond} {k : Nat} {l1 l2 : yL} (w1 : yw S.1 l1) (w2 : yw S.1 l2) (h : yhl c (yev r l1) (yev r l2)) : ∃ q ∈ ytry c k S l1 l2, q.1 = k ∧ S.1 ≤ q.2.1 ∧ yG hp r q.2 lv st := by
  obtain ⟨T, e1, e2, e3, g2⟩ := yref_ok g w1 w2 h
  refine ⟨(k, T), ?_, rfl, Nat.le_of_eq e2.symm, g2⟩
  unfold ytry
  rw [e1]
  exact List.mem_cons_self
theorem ybra_ok (g : yG hp r S lv st) {c : _root_.Jvm.ClassFile.Cond} {sp : Bool} {k : Nat} {l1 l2 : yL} (w1 : yw S.1 l1) (w2 : yw S.1 l2) (h : yhl c (yev r l1) (yev r l2)) : ∃ q ∈ ybra c sp k S l1 l2, q.1 = k ∧ S.1 ≤ q.2.1 ∧ yG hp r q.2 lv st := by
  unfold ybra
  split
  · have h : yev r l1 ≠ yev r l2 := h
    by_cases e : yev r l1 < yev r l2
    · obtain ⟨q, m, x⟩ := ytry_ok (c := .lt) (k := k) g w1 w2 e
      exact ⟨q, List.mem_append_left _ m, x⟩
    · obtain ⟨q, m, x⟩ := ytry_ok (c := .gt) (k := k) g w1 w2 (show yev r l2 < yev r l1 by omega)
      exact ⟨q, List.mem_append_right _ m, x⟩
  · exact ytry_ok g w1 w2 h
def aIf (c : _root_.Jvm.ClassFile.Cond) (a : Nat) (pc : Nat) (S : yS) : yO := match S.2.2.2.2.2 with
  | v :: s => if v.1 = 0 then some (ybra c false a (yst S s) v.2.1 (yc 0) ++ ybra (ynot c) false (pc + 3) (yst S s) v.2.1 (yc 0)) else
    if v.1 = 4 then some (ybra c true a (yst S s) v.2.1 v.2.2 ++ ybra (ynot c) true (pc + 3) (yst S s) v.2.1 v.2.2) else none
  | _ => none
theorem yD_bra {sp : Bool} {c : _root_.Jvm.ClassFile.Cond} {a b : Nat} {l1 l2 : yL} {m : List Value} {z : Bool} {o : zO} (g : yG hp r S lv m) (w1 : yw S.1 l1) (w2 : yw S.1 l2) (hz : z = true ↔ yhl c (yev r l1) (yev r l2)) (ho : o = zn (if z = true then a else b) lv m hp) : yD hp r S.1 (ybra c sp a S l1 l2 ++ ybra (ynot c) sp b S l1 l2) o := by
  by_cases h : z = true
  · rw [if_pos h] at ho
    obtain ⟨q, h1, h2, h3, h4⟩ := ybra_ok (sp := sp) (k := a) g w1 w2 (hz.mp h)
    exact ⟨(a, lv, m), ho, q, List.mem_append_left _ h1, h2, r, yag_refl _ _, h3, h4⟩
  · rw [if_neg h] at ho
    obtain ⟨q, h1, h2, h3, h4⟩ := ybra_ok (sp := sp) (k := b) g w1 w2 ((yhl_not _ _ _).mp (fun z => h (hz.mpr z)))
    exact ⟨(b, lv, m), ho, q, List.mem_append_right _ h1, h2, r, yag_refl _ _, h3, h4⟩
theorem aIf_ok (g : yG hp r S lv st) {c : _root_.Jvm.ClassFile.Cond} {a : Nat} {L : List (Nat × yS)} (h : aIf c a pc S = some L) : yD hp r S.1 L (zIf c a (pc, lv, st) hp) := by
  unfold aIf at h
  split at h
  · next v s hs =>
    have g5 := g.2.2.2.2
    rw [hs] at g5
    obtain ⟨u, m, rfl, ⟨w, hv⟩, gm⟩ := ystk_cons g5
    have g2 := yG_st g gm
    split at h
    · next h0 =>
      cases h
      obtain ⟨x, rfl, hx⟩ := yvI' h0 hv
      refine yD_bra g2 w.1 (ywc _ _) (z := zcmp c x 0) ?_ rfl
      rw [yhl_cmp, hx, yev_c]
      exact Iff.rfl
    · split at h
      · next h4 =>
        cases h
        unfold yv at hv
        rw [h4] at hv
        obtain ⟨x, rfl, hx⟩ := hv
        refine yD_bra g2 w.1 w.2 (z := zcmp c x 0) ?_ rfl
        rw [yhl_cmp, show (0 : Int32).toInt = 0 from rfl]
        cases c <;> simp only [yhl] <;> omega
      · cases h
  · cases h
def aIfc (c : _root_.Jvm.ClassFile.Cond) (a : Nat) (pc : Nat) (S : yS) : yO := match S.2.2.2.2.2 with
  | v :: u :: s => if v.1 = 0 ∧ u.1 = 0 then some (ybra c false a (yst S s) u.2.1 v.2.1 ++ ybra (ynot c) false (pc + 3) (yst S s) u.2.1 v.2.1) else none
  | _ => none
theorem aIfc_ok (g : yG hp r S lv st) {c : _root_.Jvm.ClassFile.Cond} {a : Nat} {L : List (Nat × yS)} (h : aIfc c a pc S = some L) : yD hp r S.1 L (zIfc c a (pc, lv, st) hp) := by
  unfold aIfc at h
  split at h
  · next v u s hs =>
    have g5 := g.2.2.2.2
    rw [hs] at g5
    obtain ⟨v1, m1, rfl, ⟨w1, hv1⟩, g6⟩ := ystk_cons g5
    obtain ⟨v2, m, rfl, ⟨w2, hv2⟩, g7⟩ := ystk_cons g6
    split at h
    · next h0 =>
      cases h
      obtain ⟨y, rfl, hy⟩ := yvI' h0.1 hv1
      obtain ⟨x, rfl, hx⟩ := yvI' h0.2 hv2
      refine yD_bra (yG_st g g7) w2.1 w1.1 (z := zcmp c x y) ?_ rfl
      rw [yhl_cmp, hx, hy]
    · cases h
  · cases h
def aNul (n : Bool) (a : Nat) (pc : Nat) (S : yS) : yO := match S.2.2.2.2.2 with
  | v :: s => if v.1 = 3 then some (ytry .eq (if n then a else pc + 3) (yst S s) v.2.1 (yc (-1)) ++ ytry .ge (if n then pc + 3 else a) (yst S s) v.2.1 (yc 0)) else none
  | _ => none
theorem aNul_ok (g : yG hp r S lv st) {n : Bool} {a : Nat} {L : List (Nat × yS)} (h : aNul n a pc S = some L) : yD hp r S.1 L (if n = true then zNul a (pc, lv, st) hp else zNnl a (pc, lv, st) hp) := by
  unfold aNul at h
  split at h
  · next v s hs =>
    have g5 := g.2.2.2.2
    rw [hs] at g5
    obtain ⟨u, m, rfl, ⟨w, hv⟩, gm⟩ := ystk_cons g5
    have g2 := yG_st g gm
    split at h
    · next h3 =>
      cases h
      unfold yv at hv
      rw [h3] at hv
      rcases hv with ⟨hv, rfl⟩ | ⟨hv, -, rfl⟩
      · obtain ⟨q, h1, h2, h3, h4⟩ := ytry_ok (c := .eq) (k := if n then a else pc + 3) g2 w.1 (ywc _ _) (show yev r v.2.1 = yev r (yc (-1)) by rw [yev_c]; exact hv)
        refine ⟨(if n then a else pc + 3, lv, m), ?_, q, List.mem_append_left _ h1, h2, r, yag_refl _ _, h3, h4⟩
        cases n <;> rfl
      · obtain ⟨q, h1, h2, h3, h4⟩ := ytry_ok (c := .ge) (k := if n then pc + 3 else a) g2 w.1 (ywc _ _) (show yev r (yc 0) ≤ yev r v.2.1 by rw [yev_c]; exact hv)
        refine ⟨(if n then pc + 3 else a, lv, m), ?_, q, List.mem_append_right _ h1, h2, r, yag_refl _ _, h3, h4⟩
        cases n <;> rfl
    · cases h
  · cases h
def yj (pc : Nat) (off : Int) : Bool := decide ((pc : Int) + off = (((pc : Int) + off).toNat : Int))
def aTabL (pc : Nat) (S : yS) (l : yL) : Int → List Int → Option (List (Nat × yS))
  | _, [] => some []
  | k, off :: os => if yj pc off = true then (match aTabL pc S l (k + 1) os with
    | some R => some (ytry .eq ((pc : Int) + off).toNat S l (yc k) ++ R)
    | none => none) else none
def aTab (d lo hi : Int) (offs : Array Int) (pc : Nat) (S : yS) : yO := match S.2.2.2.2.2 with
  | v :: s => if v.1 = 0 ∧ yj pc d = true ∧ hi - lo + 1 = (offs.toList.length : Int) then (match aTabL pc (yst S s) v.2.1 lo offs.toList with
    | some R => some (ytry .lt ((pc : Int) + d).toNat (yst S s) v.2.1 (yc lo) ++ (ytry .gt ((pc : Int) + d).toNat (yst S s) v.2.1 (yc hi) ++ R))
    | none => none) else none
  | _ => none
theorem aTabL_ok (g : yG hp r S lv st) {l : yL} (w : yw S.1 l) : ∀ {os : List Int} {k : Int} {R : List (Nat × yS)}, aTabL pc S l k os = some R → ∀ {i : Nat} {off : Int}, os[i]? = some off → yev r l = k + (i : Int) → yj pc off = true ∧ ∃ q ∈ R, q.1 = ((pc : Int) + off).toNat ∧ S.1 ≤ q.2.1 ∧ yG hp r q.2 lv st
  | [], _, _, _, _, _, h, _ => by cases h
  | o :: os, k, R, h, i, off, hi, he => by
    unfold aTabL at h
    split at h
    · next c =>
      split at h
      · next R2 hR =>
        cases h
        cases i with
        | zero =>
          cases hi
          obtain ⟨q, h1, h2⟩ := ytry_ok (c := .eq) (k := ((pc : Int) + o).toNat) g w (ywc _ k) (show yev r l = yev r (yc k) by rw [yev_c]; omega)
          exact ⟨c, q, List.mem_append_left _ h1, h2⟩
        | succ i =>
          obtain ⟨a1, q, h1, h2⟩ := aTabL_ok g w hR (i := i) (off := off) (by simpa using hi) (by omega)
          exact ⟨a1, q, List.mem_append_right _ h1, h2⟩
      · cases h
    · cases h
theorem zJmp_ok {off : Int} {m : List Value} (h : yj pc off = true) : zJmp off lv m pc hp = zn ((pc : Int) + off).toNat lv m hp := by
  unfold zJmp
  rw [if_pos (of_decide_eq_true h)]
theorem aTab_ok (g : yG hp r S lv st) {d lo hi : Int} {offs : Array Int} {L : List (Nat × yS)} (h : aTab d lo hi offs pc S = some L) : yD hp r S.1 L (zTab d lo hi offs (pc, lv, st) hp) := by
  unfold aTab at h
  split at h
  · next v s hs =>
    have g5 := g.2.2.2.2
    rw [hs] at g5
    obtain ⟨u, m, rfl, ⟨w, hv⟩, gm⟩ := ystk_cons g5
    have g2 := yG_st g gm
    split at h
    · next c =>
      split at h
      · next R hR =>
        cases h
        obtain ⟨x, rfl, hx⟩ := yvI' c.1 hv
        unfold zTab
        dsimp only
        by_cases e1 : x.toInt < lo
        · rw [if_pos (Or.inl e1), zJmp_ok c.2.1]
          obtain ⟨q, h1, h2, h3, h4⟩ := ytry_ok (c := .lt) (k := ((pc : Int) + d).toNat) g2 w.1 (ywc _ lo) (show yev r v.2.1 < yev r (yc lo) by rw [yev_c]; omega)
          exact ⟨_, rfl, q, List.mem_append_left _ h1, h2, r, yag_refl _ _, h3, h4⟩
        · by_cases e2 : hi < x.toInt
          · rw [if_pos (Or.inr e2), zJmp_ok c.2.1]
            obtain ⟨q, h1, h2, h3, h4⟩ := ytry_ok (c := .gt) (k := ((pc : Int) + d).toNat) g2 w.1 (ywc _ hi) (show yev r (yc hi) < yev r v.2.1 by rw [yev_c]; omega)
            exact ⟨_, rfl, q, List.mem_append_right _ (List.mem_append_left _ h1), h2, r, yag_refl _ _, h3, h4⟩
          · rw [if_neg (by omega)]
            have hl : (x.toInt - lo).toNat < offs.toList.length := by omega
            obtain ⟨off, ho⟩ : ∃ off, offs.toList[(x.toInt - lo).toNat]? = some off := ⟨_, List.getElem?_eq_getElem hl⟩
            have ho2 : offs[(x.toInt - lo).toNat]? = some off := by rw [← Array.getElem?_toList]; exact ho
            rw [ho2]
            obtain ⟨a1, q, h1, h2, h3, h4⟩ := aTabL_ok (pc := pc) g2 w.1 hR ho (by omega)
            dsimp only
            rw [zJmp_ok a1]
            exact ⟨_, rfl, q, List.mem_append_right _ (List.mem_append_right _ h1), h2, r, yag_refl _ _, h3, h4⟩
      · cases h
    · cases h
  · cases h
/-- Math.max, Math.min -/
def ysl (s : List yV) : Nat := (s.map (fun a => if a.1 = 1 then 2 else 1)).sum
theorem ysl_ok {h n : Nat} : ∀ {s : List yV} {m : List Value}, ystk h r n s m → (m.map fun v => v.category).sum = ysl s
  | [], [], _ => rfl
  | [], _ :: _, g => g.elim
  | _ :: _, [], g => g.elim
  | a :: s, v :: m, g => by
    show ((v.category) :: (m.map fun v => v.category)).sum = ((if a.1 = 1 then 2 else 1) :: (s.map (fun a => if a.1 = 1 then 2 else 1))).sum
    rw [List.sum_cons, List.sum_cons, ycat g.1.2, ysl_ok g.2]
    rfl
def aMm (mx : Bool) (pc : Nat) (S : yS) : yO := match S.2.2.2.2.2 with
  | b :: a :: s => if a.1 = 0 ∧ b.1 = 0 ∧ ysl s ≤ 8 then (match yrg S.2.1 a.2.1, yrg S.2.1 b.2.1 with
    | some p, some q => some [(pc + 3, yst (yput S ((if mx then (ymax p.1 q.1, ymax p.2 q.2) else (ymin p.1 q.1, ymin p.2 q.2)), none)).1 (yI (yput S ((if mx then (ymax p.1 q.1, ymax p.2 q.2) else (ymin p.1 q.1, ymin p.2 q.2)), none)).2 :: s))]
    | _, _ => none) else none
  | _ => none
theorem aMm_ok (g : yG hp r S lv st) {mx : Bool} {L : List (Nat × yS)} (h : aMm mx pc S = some L) : yD hp r S.1 L (if mx = true then zMax (pc, lv, st) hp else zMin (pc, lv, st) hp) := by
  unfold aMm at h
  split at h
  · next b a s hs =>
    have g5 := g.2.2.2.2
    rw [hs] at g5
    obtain ⟨v1, m1, rfl, ⟨w1, hv1⟩, g6⟩ := ystk_cons g5
    obtain ⟨v2, m, rfl, ⟨w2, hv2⟩, g7⟩ := ystk_cons g6
    split at h
    · next c =>
      obtain ⟨y, rfl, hy⟩ := yvI' c.2.1 hv1
      obtain ⟨x, rfl, hx⟩ := yvI' c.1 hv2
      split at h
      · next p q h1 h2 =>
        have b1 := yrg_ok g.1 h1
        have b2 := yrg_ok g.1 h2
        rw [← hx] at b1
        rw [← hy] at b2
        cases h
        have sl : (m.map fun v => v.category).sum ≤ 8 := by rw [ysl_ok g7]; exact c.2.2
        cases mx with
        | true =>
          have a1 : ∃ z : Int32, zMax (pc, lv, .int y :: .int x :: m) hp = zn (pc + 3) lv (.int z :: m) hp ∧ ymax p.1 q.1 ≤ z.toInt ∧ z.toInt ≤ ymax p.2 q.2 := by
            refine ⟨if x < y then y else x, ?_, ?_⟩
            · unfold zMax
              dsimp only
              rw [if_pos sl]
            · by_cases e : x < y
              · rw [if_pos e]
                have e := Int32.lt_iff_toInt_lt.mp e
                unfold ymax
                split <;> split <;> omega
              · rw [if_neg e]
                have e : ¬ x.toInt < y.toInt := fun z => e (Int32.lt_iff_toInt_lt.mpr z)
                unfold ymax
                split <;> split <;> omega
          obtain ⟨z, e1, e2⟩ := a1
          obtain ⟨r2, a1, a2, a3, a4, a5, a6⟩ := yput_ok g (t := ((if true then (ymax p.1 q.1, ymax p.2 q.2) else (ymin p.1 q.1, ymin p.2 q.2)), none)) (z := z.toInt) ⟨e2, fun l hl => by cases hl⟩
          exact yD1 (lv2 := lv) (st2 := .int z :: m) (by rw [if_pos rfl]; exact e1) a1 a2 (yG_st a4 ⟨⟨ywI a5, yvI a6.symm⟩, ystk_ag a2 a1 g7⟩)
        | false =>
          have a1 : ∃ z : Int32, zMin (pc, lv, .int y :: .int x :: m) hp = zn (pc + 3) lv (.int z :: m) hp ∧ ymin p.1 q.1 ≤ z.toInt ∧ z.toInt ≤ ymin p.2 q.2 := by
            refine ⟨if y < x then y else x, ?_, ?_⟩
            · unfold zMin
              dsimp only
              rw [if_pos sl]
            · by_cases e : y < x
              · rw [if_pos e]
                have e := Int32.lt_iff_toInt_lt.mp e
                unfold ymin
                split <;> split <;> omega
              · rw [if_neg e]
                have e : ¬ y.toInt < x.toInt := fun z => e (Int32.lt_iff_toInt_lt.mpr z)
                unfold ymin
                split <;> split <;> omega
          obtain ⟨z, e1, e2⟩ := a1
          obtain ⟨r2, a1, a2, a3, a4, a5, a6⟩ := yput_ok g (t := ((if false then (ymax p.1 q.1, ymax p.2 q.2) else (ymin p.1 q.1, ymin p.2 q.2)), none)) (z := z.toInt) ⟨e2, fun l hl => by cases hl⟩
          exact yD1 (lv2 := lv) (st2 := .int z :: m) (by rw [if_neg (by decide)]; exact e1) a1 a2 (yG_st a4 ⟨⟨ywI a5, yvI a6.symm⟩, ystk_ag a2 a1 g7⟩)
      · cases h
    · cases h
  · cases h
end YARN
