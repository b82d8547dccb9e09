/-! The checker of a method against its spec. -/
/-- a cut: place, state, what falls from cut to cut -/
abbrev yCu : Type := Nat × yS × yX
/-- a method's matter: specs at hand, what may change, what must not, most locals, answer's type, code, entry's symbols, ends, cuts, places where a value is told apart -/
abbrev yCx : Type := List ySp × yM × yM × Nat × Option FieldType × List (Option zEn) × Nat × List yS × List yCu × List (Nat × Nat × Nat × Nat)
def ycut (x : yCx) (R0 : Option yX) (pc : Nat) (S : yS) : Bool := x.2.2.2.2.2.2.2.2.1.any (fun c => (c.1 == pc && yqk c.2.1.2.2.2.2.1 S.2.2.2.2.1) && (
  let A := yplcs S c.2.1.2.2.2.1
  let u := ybn x.2.2.2.2.2.2.1 c.2.1 A
  ymt x.2.2.2.2.2.2.1 u c.2.1 A && (match R0 with
    | none => true
    | some R => yprv A.2.1 A.2.2.1 (yadd (-1) (ysubx x.2.2.2.2.2.2.1 u c.2.2.1 c.2.2.2) (yadd 1 R ([], -1))))))
def yend (x : yCx) (S : yS) : Bool := x.2.2.2.2.2.2.2.1.any (fun q =>
  let A := yplcs (S.1, S.2.1, S.2.2.1, S.2.2.2.1, [], S.2.2.2.2.2) q.2.2.2.1
  ymt x.2.2.2.2.2.2.1 (ybn x.2.2.2.2.2.2.1 q A) q A)
def ynok (ty : FieldType) (p : Int × Int) : Bool := match ty with
  | .int => true
  | .boolean => decide (0 ≤ p.1) && decide (p.2 ≤ 1)
  | ty => decide (p.1 = p.2) && decide (narrow ty (.int (Int32.ofInt p.1)) = .int (Int32.ofInt p.1))
theorem ynok_ok {ty : FieldType} {p : Int × Int} {y : Int32} (h : ynok ty p = true) (h1 : p.1 ≤ y.toInt) (h2 : y.toInt ≤ p.2) : narrow ty (.int y) = .int y := by
  unfold ynok at h
  split at h
  · rfl
  · simp only [Bool.and_eq_true, decide_eq_true_eq] at h
    have e : narrow .boolean (.int y) = .int (ynv 2 y) := rfl
    rw [e, ynv_z2 (by omega) (by omega)]
  · simp only [Bool.and_eq_true, decide_eq_true_eq] at h
    rw [yofI (show y.toInt = p.1 by omega)]
    exact h.2
def yrtI (rt : Option FieldType) (S : yS) : Bool := match rt, S.2.2.2.2.2 with
  | some ty, [v] => v.1 == 0 && (match yrg S.2.1 v.2.1 with
    | some p => ynok ty p
    | none => false)
  | _, _ => false
def yrtL (rt : Option FieldType) (S : yS) : Bool := match rt, S.2.2.2.2.2 with
  | some .long, [v] => v.1 == 1
  | _, _ => false
def yrtV (rt : Option FieldType) (S : yS) : Bool := match rt, S.2.2.2.2.2 with
  | none, [] => true
  | _, _ => false
def yknd (b : yB) (v : yV) (ci : Nat) : Bool := if ci = 100 then v.1 == 2 && (match yrg b v.2.1 with
    | some p => decide (p.1 = p.2) && decide (1001 ≤ p.1) && decide (p.1 < 1007)
    | none => false) else match ycel b v with
  | some q => if v.1 = 3 then ci == 4 else v.1 == 2 && q.2.1 == 0 && q.2.2.1 == ci
  | none => false
/-- the script, where it may be read: its length's form, and elements by their places' forms -/
abbrev yZ : Type := Option (yL × List (yL × yL))
def yzf : List (yL × yL) → yL → Option yL
  | [], _ => none
  | t :: l, i => if yeq t.1 i = true then some t.2 else yzf l i
def ysimL (lz : yZ) (M F : yM) (nL : Nat) (q : zEn) (pc : Nat) (S : yS) : yO := match lz with
  | none => ysim M F nL q pc S
  | some l => match q.1, S.2.2.2.2.2 with
    | .arraylength, v :: s => if v.1 = 2 ∧ yrg S.2.1 v.2.1 = some (1000, 1000) then some [(pc + 1, yst S (yI l.1 :: s))] else ysim M F nL q pc S
    | .iaload, j :: v :: s => if v.1 = 2 ∧ yrg S.2.1 v.2.1 = some (1000, 1000) then (if j.1 = 0 ∧ yprv S.2.1 S.2.2.1 (yxl j.2.1) = true ∧ yprv S.2.1 S.2.2.1 (yadd (-1) (yxl j.2.1) (yadd 1 (yxl l.1) ([], -1))) = true then (match yzf l.2 j.2.1 with
      | some e => some [(pc + 1, yst S (yI e :: s))]
      | none => none) else none) else ysim M F nL q pc S
    | _, _ => ysim M F nL q pc S
def ystp (lz : yZ) (rec : Nat → yS → Bool) (x : yCx) (pc : Nat) (S : yS) : Bool := match zg x.2.2.2.2.2.1 pc with
  | none => false
  | some q => match q.1 with
    | .ireturn => yrtI x.2.2.2.2.1 S && yend x S
    | .lreturn => yrtL x.2.2.2.2.1 S && yend x S
    | .return_ => yrtV x.2.2.2.2.1 S && yend x S
    | .invokevirtual _ => decide (q.2.2.2.1 = 0) && (match S.2.2.2.2.2.drop (zar q.2.2.1).1 with
      | v :: rest => decide ((S.2.2.2.2.2.take (zar q.2.2.1).1).length = (zar q.2.2.1).1) && (yknd S.2.1 v (zar q.2.2.1).2 && (decide (ysl rest ≤ 8) && (match ytry2 x.1 q.2.2.1 x.2.1 S (v :: (S.2.2.2.2.2.take (zar q.2.2.1).1).reverse) rest with
        | some R => R.all (rec (pc + 3))
        | none => false)))
      | [] => false)
    | .invokestatic _ => if q.2.2.2.1 = 1 then decide ((S.2.2.2.2.2.take (zar q.2.2.1).1).length = (zar q.2.2.1).1) && (decide (ysl (S.2.2.2.2.2.drop (zar q.2.2.1).1) ≤ 8) && (match ytry2 x.1 q.2.2.1 x.2.1 S (S.2.2.2.2.2.take (zar q.2.2.1).1).reverse (S.2.2.2.2.2.drop (zar q.2.2.1).1) with
        | some R => R.all (rec (pc + 3))
        | none => false)) else (match ysimL lz x.2.1 x.2.2.1 x.2.2.2.1 q pc S with
      | some L => L.all (fun t => rec t.1 t.2)
      | none => false)
    | _ => match ysimL lz x.2.1 x.2.2.1 x.2.2.2.1 q pc S with
      | some L => L.all (fun t => rec t.1 t.2)
      | none => false
/-- a value is told apart -/
def yspv (S : yS) (s : Nat) : Nat → Int → List yS
  | 0, z => [(S.1, (s, z, z) :: S.2.1, S.2.2)]
  | n + 1, z => (S.1, (s, z, z) :: S.2.1, S.2.2) :: yspv S s n (z + 1)
def ysps (S : yS) (l : yL) : List yS := if l.1 = 1 then (match ybd S.2.1 l.2.1 with
  | some e => if e.1 ≤ e.2 ∧ e.2 - e.1 ≤ 40 then yspv S l.2.1 (e.2 - e.1).toNat e.1 else [S]
  | none => [S]) else [S]
def yspl (x : yCx) (pc : Nat) (S : yS) : List yS := match x.2.2.2.2.2.2.2.2.2.find? (fun q => q.1 == pc) with
  | none => [S]
  | some q => if q.2.1 = 0 then (match yld S.2.2.2.2.1 q.2.2.1 with
      | some a => ysps S a.2.1
      | none => [S]) else
    let A := yplc S (yc q.2.2.1) (yc q.2.2.2)
    (match ylk A.2.2.2.1 (yc q.2.2.1) (yc q.2.2.2) with
      | some a => ysps A a.2.1
      | none => [A])
def yexec (lz : yZ) (x : yCx) (R0 : Option yX) : Nat → Nat → yS → Bool
  | 0, _, _ => false
  | f + 1, pc, S => ycut x R0 pc S || (yspl x pc S).all (ystp lz (yexec lz x R0 f) x pc)
/-- as yexec, with states that are known to be good -/
def yexecO (lz : yZ) (x : yCx) (R0 : Option yX) (O : List (Nat × yS)) : Nat → Nat → yS → Bool
  | 0, _, _ => false
  | f + 1, pc, S => O.any (fun o => o.1 == pc && (o.2.1 == S.1 && ymt S.1 [] o.2 S)) || (ycut x R0 pc S || (yspl x pc S).all (ystp lz (yexecO lz x R0 O f) x pc))
/-- the whole check -/
def yver (x : yCx) (P : yS) (f : Nat) : Bool :=
  decide (x.2.2.2.1 ≤ 41) && (decide (x.2.2.2.2.2.2.1 = P.1) && (P.2.2.2.2.2.isEmpty && (x.2.2.2.2.2.2.2.1.all (fun q => ywf q && (decide (P.1 ≤ q.1) && q.2.2.2.2.1.isEmpty)) && (x.2.2.2.2.2.2.2.2.1.all (fun c => ywf c.2.1 && (decide (P.1 ≤ c.2.1.1) && (yge0 c.2.1.2.1 c.2.2 && (c.2.2.1.all (fun t => decide (t.2 < c.2.1.1)) && (yspl x c.1 c.2.1).all (ystp none (yexec none x (some c.2.2) f) x c.1))))) && yexec none x none f 0 P))))
section YVER
variable {hp hp' : zHp} {r : Nat → Int} {S : yS} {lv : List (Nat × Value)} {st : List Value} {pc : Nat}
theorem yspv_ok (g : yG hp r S lv st) {s : Nat} (hs : s < S.1) : ∀ {n : Nat} {z : Int}, z ≤ r s → r s ≤ z + (n : Int) → ∃ T ∈ yspv S s n z, T.1 = S.1 ∧ yG hp r T lv st
  | 0, z, h1, h2 => by
    refine ⟨_, List.mem_cons_self, rfl, fun e he => ?_, g.2⟩
    rcases List.mem_cons.mp he with rfl | he
    · exact ⟨hs, h1, by show r s ≤ z; omega⟩
    · exact g.1 e he
  | n + 1, z, h1, h2 => by
    by_cases e : r s = z
    · refine ⟨_, List.mem_cons_self, rfl, fun e he => ?_, g.2⟩
      rcases List.mem_cons.mp he with rfl | he
      · exact ⟨hs, h1, by show r s ≤ z; omega⟩
      · exact g.1 e he
    · obtain ⟨T, h3, h4⟩ := yspv_ok g hs (n := n) (z := z + 1) (by omega) (by omega)
      exact ⟨T, List.mem_cons_of_mem _ h3, h4⟩
theorem ysps_ok (g : yG hp r S lv st) (l : yL) : ∃ T ∈ ysps S l, T.1 = S.1 ∧ yG hp r T lv st := by
  unfold ysps
  split
  · split
    · next e he =>
      have m := g.1 _ (ybd_mem he)
      have m2 : e.1 ≤ r l.2.1 := m.2.1
      have m3 : r l.2.1 ≤ e.2 := m.2.2
      split
      · exact yspv_ok (s := l.2.1) g m.1 m2 (by omega)
      · exact ⟨S, List.mem_cons_self, rfl, g⟩
    · exact ⟨S, List.mem_cons_self, rfl, g⟩
  · exact ⟨S, List.mem_cons_self, rfl, g⟩
theorem yspl_ok (g : yG hp r S lv st) (H : yH0 hp) (x : yCx) (pc : Nat) : ∃ T ∈ yspl x pc S, ∃ r2, yag S.1 r r2 ∧ S.1 ≤ T.1 ∧ yG hp r2 T lv st := by
  unfold yspl
  split
  · exact ⟨S, List.mem_cons_self, r, yag_refl _ _, Nat.le_refl _, g⟩
  · next q hq =>
    split
    · split
      · next a ha =>
        obtain ⟨T, h1, h2, h3⟩ := ysps_ok g a.2.1
        exact ⟨T, h1, r, yag_refl _ _, Nat.le_of_eq h2.symm, h3⟩
      · exact ⟨S, List.mem_cons_self, r, yag_refl _ _, Nat.le_refl _, g⟩
    · obtain ⟨r2, a1, a2, a3, a4⟩ := yplc_ok g H (yc q.2.2.1) (yc q.2.2.2)
      dsimp only
      split
      · next a ha =>
        obtain ⟨T, h1, h2, h3⟩ := ysps_ok a4 a.2.1
        exact ⟨T, h1, r2, a1, by rw [h2]; exact a2, h3⟩
      · exact ⟨_, List.mem_cons_self, r2, a1, a2, a4⟩
theorem ystk_take {h n : Nat} : ∀ {k : Nat} {l : List yV} {s : List Value}, ystk h r n l s → ystk h r n (l.take k) (s.take k) ∧ ystk h r n (l.drop k) (s.drop k) ∧ s.length = l.length
  | 0, l, s, g => ⟨trivial, g, ystk_len g⟩
  | k + 1, [], [], g => ⟨trivial, trivial, rfl⟩
  | k + 1, [], _ :: _, g => g.elim
  | k + 1, _ :: _, [], g => g.elim
  | k + 1, a :: l, w :: s, g => by
    obtain ⟨h1, h2, h3⟩ := ystk_take (k := k) g.2
    exact ⟨⟨g.1, h1⟩, h2, congrArg (· + 1) h3⟩
theorem ystk_rev {h n : Nat} {l : List yV} {s : List Value} (g : ystk h r n l s) : ystk h r n l.reverse s.reverse := by
  induction l generalizing s with
  | nil =>
    rw [ystk_nil g]
    exact trivial
  | cons a l ih =>
    obtain ⟨v, m, rfl, h1, h2⟩ := ystk_cons g
    rw [List.reverse_cons, List.reverse_cons]
    exact ystk_app (ih h2) ⟨h1, trivial⟩
theorem yknd_ok (g : yG hp r S lv st) (H : yH0 hp) {v : yV} {w : Value} {ci : Nat} (hw : ywv S.1 v) (hv : yv hp.1 r v w) (h : yknd S.2.1 v ci = true) : ∃ i : Nat, w = .ref i ∧ zKd i hp = some ci := by
  unfold yknd at h
  split at h
  · next hc =>
    rw [Bool.and_eq_true] at h
    have h0 : v.1 = 2 := by simpa using h.1
    have h2 := h.2
    split at h2
    · next p hp1 =>
      have bb := yrg_ok g.1 hp1
      simp only [Bool.and_eq_true, decide_eq_true_eq] at h2
      unfold yv at hv
      rw [h0] at hv
      rcases hv with ⟨hv, -⟩ | ⟨hv, rfl⟩
      · omega
      · refine ⟨_, rfl, ?_⟩
        unfold zKd
        rw [if_neg (show ¬ (yev r v.2.1).toNat < zSC by show ¬ _ < 1000; omega), if_pos (show zSC + 1 ≤ (yev r v.2.1).toNat ∧ (yev r v.2.1).toNat < zSC + 7 from ⟨by show 1001 ≤ _; omega, by show _ < 1007; omega⟩), hc]
    · cases h2
  · split at h
    · next q hq =>
      obtain ⟨i, rfl, hi, ei, wq, hok, h2, h3⟩ := ycel_ok g.1 H hw hv hq
      refine ⟨i, rfl, ?_⟩
      have kd : ∀ ci fs, hp.2 i = .inr (ci, fs) → zKd i hp = some ci := by
        intro ci fs e
        unfold zKd
        rw [if_pos (show i < zSC from Nat.lt_of_lt_of_le hi H.2.1), if_pos hi, e]
      split at h
      · next e3 =>
        obtain ⟨k, rfl, -, -⟩ := h3 e3
        have hc := H.2.2 _ hi
        rw [yty_r0] at hc
        obtain ⟨fs, e, -⟩ := hc
        rw [kd _ _ e]
        have : ci = 4 := by simpa using h
        rw [this]
      · simp only [Bool.and_eq_true, beq_iff_eq] at h
        obtain ⟨⟨a1, a2⟩, a3⟩ := h
        have hc := hok (by rw [a2]; decide)
        unfold yokc at hc
        rw [a2] at hc
        obtain ⟨fs, e, -⟩ := hc
        rw [kd _ _ e, a3]
    · cases h
/-- from here the body comes to an end that the spec tells -/
def yEv (lz : yZ) (ev : zEv) (r : Nat → Int) : Prop := match lz with
  | none => True
  | some q => ∃ (n : Nat) (f : Nat → Int32), ev = some (n, f) ∧ (n : Int) = yev r q.1 ∧ n ≤ 3072 ∧ ∀ t ∈ q.2, (f (yev r t.1).toNat).toInt = yev r t.2
def ywz (n : Nat) (lz : yZ) : Prop := ∀ q, lz = some q → yw n q.1 ∧ ∀ t ∈ q.2, yw n t.1 ∧ yw n t.2
theorem yEv_ag {n : Nat} {lz : yZ} {ev : zEv} {r r2 : Nat → Int} (w : ywz n lz) (ha : yag n r r2) (h : yEv lz ev r) : yEv lz ev r2 := by
  cases lz with
  | none => exact trivial
  | some q =>
    obtain ⟨m, f, e1, e2, e3, e4⟩ := h
    have k := w q rfl
    refine ⟨m, f, e1, by rw [yev_ag ha k.1]; exact e2, e3, fun t ht => ?_⟩
    rw [yev_ag ha (k.2 t ht).1, yev_ag ha (k.2 t ht).2]
    exact e4 t ht
theorem yzf_mem : ∀ {l : List (yL × yL)} {i e : yL}, yzf l i = some e → (i, e) ∈ l
  | [], _, _, h => by cases h
  | t :: l, i, e, h => by
    unfold yzf at h
    split at h
    · next c =>
      cases h
      have := yeq_ok c
      obtain ⟨t1, t2⟩ := t
      cases this
      exact List.mem_cons_self
    · exact List.mem_cons_of_mem _ (yzf_mem h)
theorem zdo_ev {ev : zEv} {nL : Nat} {rt : Option FieldType} {q : zEn} {fr fr' : zFr} {o : zO} (h : ∀ call : zCa, zdo zts none call nL rt q fr hp = o) (e : o = some (.inl (fr', hp'))) (call : zCa) : zdo zts ev call nL rt q fr hp = o := by
  rw [e]
  exact zdo_mono (fun _ _ _ _ k => k) ((h call).trans e)
theorem ysimL_ok {E : zHp → Prop} {M F : yM} {lz : yZ} {ev : zEv} (hE : yEF E F) (g : yG hp r S lv st) (H : yH0 hp ∧ E hp) (hv : yEv lz ev r) (hl : ywz S.1 lz) {nL : Nat} {rt : Option FieldType} {q : zEn} {L : List (Nat × yS)} (h : ysimL lz M F nL q pc S = some L) : ∃ o : zO, (∀ call : zCa, zdo zts ev call nL rt q (pc, lv, st) hp = o) ∧ yW E M hp r S.1 L o := by
  have old : ysim M F nL q pc S = some L → ∃ o : zO, (∀ call : zCa, zdo zts ev call nL rt q (pc, lv, st) hp = o) ∧ yW E M hp r S.1 L o := by
    intro k
    obtain ⟨o, h1, h2⟩ := ysim_ok (rt := rt) hE g H k
    obtain ⟨fr', hp2, e, h3⟩ := h2
    exact ⟨o, fun call => zdo_ev h1 e call, fr', hp2, e, h3⟩
  unfold ysimL at h
  split at h
  · exact old h
  · next l =>
    obtain ⟨n, f, rfl, hn, hn2, hn3⟩ := hv
    have ref : ∀ {v : yV} {w : Value}, v.1 = 2 → yrg S.2.1 v.2.1 = some (1000, 1000) → yv hp.1 r v w → w = .ref (1000 : Nat) := by
      intro v w e1 e2 e3
      have bb := yrg_ok g.1 e2
      have b1 : (1000 : Int) ≤ yev r v.2.1 := bb.1
      have b2 : yev r v.2.1 ≤ 1000 := bb.2
      unfold yv at e3
      rw [e1] at e3
      rcases e3 with ⟨e3, -⟩ | ⟨e3, e4⟩
      · omega
      · rw [e4]
        exact congrArg Value.ref (show (yev r v.2.1).toNat = 1000 by omega)
    split at h
    · next v s hi hs =>
      split at h
      · next c =>
        cases h
        obtain ⟨ins, len, a, b, v0⟩ := q
        have hi : ins = .arraylength := hi
        subst hi
        have g5 := g.2.2.2.2
        rw [hs] at g5
        obtain ⟨w, m, rfl, ⟨ww, hw⟩, gm⟩ := ystk_cons g5
        have e := ref c.1 c.2 hw
        subst e
        refine ⟨zn (pc + 1) lv (.int (Int32.ofNat n) :: m) hp, fun call => rfl, yW_D H (yD1 rfl (yag_refl _ _) (Nat.le_refl _) (yG_st g ⟨⟨ywI (hl l rfl).1, yvI ?_⟩, gm⟩))⟩
        rw [← hn]
        exact Int32.toInt_ofNat_of_lt (by omega)
      · exact old h
    · next j v s hi hs =>
      split at h
      · next c =>
        split at h
        · next k =>
          split at h
          case h_2 => cases h
          next e he =>
          cases h
          obtain ⟨ins, len, a, b, v0⟩ := q
          have hi : ins = .iaload := hi
          subst hi
          have g5 := g.2.2.2.2
          rw [hs] at g5
          obtain ⟨u1, m1, rfl, ⟨w1, hu1⟩, g6⟩ := ystk_cons g5
          obtain ⟨u2, m, rfl, ⟨w2, hu2⟩, g7⟩ := ystk_cons g6
          obtain ⟨x, rfl, hx⟩ := yvI' k.1 hu1
          have er := ref c.1 c.2 hu2
          subst er
          have p1 := yprv_ok g.1 g.2.1 k.2.1
          have p2 := yprv_ok g.1 g.2.1 k.2.2
          rw [yxl_ok] at p1
          rw [yadd_ok, yxl_ok, yadd_ok, yxl_ok] at p2
          have e1 : yex r (([] : List (Int × Nat)), (-1 : Int)) = -1 := rfl
          rw [e1] at p2
          obtain ⟨i1, i2⟩ := yix (n := n) hx (by omega)
          have mem := yzf_mem he
          refine ⟨zn (pc + 1) lv (.int (f x.toNatClampNeg) :: m) hp, fun call => ?_, yW_D H (yD1 rfl (yag_refl _ _) (Nat.le_refl _) (yG_st g ⟨⟨ywI ((hl l rfl).2 _ mem).2, yvI (by rw [i2]; exact hn3 _ mem)⟩, g7⟩))⟩
          show (if ¬ (x < 0 ∨ n ≤ x.toNatClampNeg) then zn (pc + 1) lv (.int (f x.toNatClampNeg) :: m) hp else none) = _
          rw [if_pos i1]
        · cases h
      · exact old h
    · exact old h
def yOt (ev : zEv) (E : zHp → Prop) (d : Nat) (x : yCx) (hp0 : zHp) (r0 : Nat → Int) (fr : zFr) (hp : zHp) : Prop := ∃ z : zRe, zR ev d x.2.2.2.1 x.2.2.2.2.1 x.2.2.2.2.2.1 fr hp z ∧ yPo E x.2.1 hp0 r0 x.2.2.2.2.2.2.1 x.2.2.2.2.2.2.2.1 z
theorem yend_ok {E : zHp → Prop} {x : yCx} {hp0 : zHp} {r0 : Nat → Int} (hQ : ∀ q ∈ x.2.2.2.2.2.2.2.1, ywf q = true ∧ x.2.2.2.2.2.2.1 ≤ q.1) (g : yG hp r S lv st) (H : yH0 hp ∧ E hp) (hf : yF x.2.1 hp0 hp) (ha : yag x.2.2.2.2.2.2.1 r0 r) (hn : x.2.2.2.2.2.2.1 ≤ S.1) (h : yend x S = true) {rv : Option Value} (hrv : rv.toList = st) : yPo E x.2.1 hp0 r0 x.2.2.2.2.2.2.1 x.2.2.2.2.2.2.2.1 (rv, hp) := by
  unfold yend at h
  rw [List.any_eq_true] at h
  obtain ⟨q, hq, h⟩ := h
  dsimp only at h
  have g0 : yG hp r (S.1, S.2.1, S.2.2.1, S.2.2.2.1, [], S.2.2.2.2.2) [] st := ⟨g.1, g.2.1, g.2.2.1, (fun i a e => by cases e), g.2.2.2.2⟩
  obtain ⟨r2, a1, a2, a3, a4⟩ := yplcs_ok H.1 (l := q.2.2.2.1) g0
  have k := hQ q hq
  have g1 := ymt_ok a4 k.1 h
  rw [← hrv] at g1
  exact ⟨H, hf, q, hq, _, fun s hs => by rw [yrs_ag _ _ _ s hs, a1 s (Nat.lt_of_lt_of_le hs hn), ha s hs], k.2, g1⟩
theorem ycut_ok {E : zHp → Prop} {x : yCx} {R0 : Option yX} (hC : ∀ c ∈ x.2.2.2.2.2.2.2.2.1, ywf c.2.1 = true ∧ x.2.2.2.2.2.2.1 ≤ c.2.1.1) (g : yG hp r S lv st) (H : yH0 hp ∧ E hp) {r0 : Nat → Int} (ha : yag x.2.2.2.2.2.2.1 r0 r) (hn : x.2.2.2.2.2.2.1 ≤ S.1) (hR : ∀ R, R0 = some R → ∀ t ∈ R.1, t.2 < S.1) (h : ycut x R0 pc S = true) :
    ∃ c ∈ x.2.2.2.2.2.2.2.2.1, c.1 = pc ∧ ∃ r2, yag x.2.2.2.2.2.2.1 r0 r2 ∧ yG hp r2 c.2.1 lv st ∧ ∀ R, R0 = some R → yex r2 c.2.2 < yex r R := by
  unfold ycut at h
  rw [List.any_eq_true] at h
  obtain ⟨c, hc, h⟩ := h
  rw [Bool.and_eq_true] at h
  obtain ⟨h1, h⟩ := h
  dsimp only at h
  rw [Bool.and_eq_true] at h
  obtain ⟨r2, a1, a2, a3, a4⟩ := yplcs_ok H.1 (l := c.2.1.2.2.2.1) g
  have g1 := ymt_ok a4 (hC c hc).1 h.1
  rw [Bool.and_eq_true] at h1
  refine ⟨c, hc, by simpa using h1.1, _, fun s hs => ?_, g1, fun R hR0 => ?_⟩
  · rw [yrs_ag _ _ _ s hs, a1 s (Nat.lt_of_lt_of_le hs hn), ha s hs]
  · have h2 := h.2
    rw [hR0] at h2
    dsimp only at h2
    have k := yprv_ok a4.1 a4.2.1 h2
    rw [yadd_ok, ysubx_ok, yadd_ok] at k
    have e1 : yex r2 (([] : List (Int × Nat)), (-1 : Int)) = -1 := rfl
    rw [e1] at k
    have e2 : yex r2 R = yex r R := by
      unfold yex
      rw [yxs_ag a1 (hR R hR0)]
    have e3 : yex (yrs x.2.2.2.2.2.2.1 (ybn x.2.2.2.2.2.2.1 c.2.1 (yplcs S c.2.1.2.2.2.1)) r2) c.2.2 = yxs (yrs x.2.2.2.2.2.2.1 (ybn x.2.2.2.2.2.2.1 c.2.1 (yplcs S c.2.1.2.2.2.1)) r2) c.2.2.1 + c.2.2.2 := rfl
    omega
/-- what a check of a method gives: a run from any state that it knows -/
theorem ystp_ok {lz : yZ} {ev : zEv} {E : zHp → Prop} {d : Nat} {x : yCx} (hE : yEF E x.2.2.1) (hs : ∀ sp ∈ x.1, yTr E d sp ∧ ywf sp.2.2.1 = true) (hQ : ∀ q ∈ x.2.2.2.2.2.2.2.1, ywf q = true ∧ x.2.2.2.2.2.2.1 ≤ q.1) {hp0 : zHp} {r0 : Nat → Int} {rec : Nat → yS → Bool} {n0 : Nat}
    (ih : ∀ (pc : Nat) (S : yS) (r : Nat → Int) (hp : zHp) (lv : List (Nat × Value)) (st : List Value), rec pc S = true → yG hp r S lv st → (yH0 hp ∧ E hp) → yF x.2.1 hp0 hp → yag n0 r0 r → n0 ≤ S.1 → yOt ev E d x hp0 r0 (pc, lv, st) hp)
    (g : yG hp r S lv st) (H : yH0 hp ∧ E hp) (hf : yF x.2.1 hp0 hp) (hp0n : x.2.2.2.2.2.2.1 ≤ n0) (ha : yag n0 r0 r) (hlw : ywz n0 lz) (hev : yEv lz ev r0) (hn : n0 ≤ S.1) (h : ystp lz rec x pc S = true) : yOt ev E d x hp0 r0 (pc, lv, st) hp := by
  unfold ystp at h
  split at h
  · cases h
  · next q hq =>
    have hap : yag x.2.2.2.2.2.2.1 r0 r := fun s z => ha s (Nat.lt_of_lt_of_le z hp0n)
    have hnp : x.2.2.2.2.2.2.1 ≤ S.1 := Nat.le_trans hp0n hn
    have hev2 : yEv lz ev r := yEv_ag hlw ha hev
    have hlz : ywz S.1 lz := fun q e => ⟨yw_le hn (hlw q e).1, fun t ht => ⟨yw_le hn ((hlw q e).2 t ht).1, yw_le hn ((hlw q e).2 t ht).2⟩⟩
    have sim : ∀ {L : List (Nat × yS)}, ysimL lz x.2.1 x.2.2.1 x.2.2.2.1 q pc S = some L → L.all (fun t => rec t.1 t.2) = true → yOt ev E d x hp0 r0 (pc, lv, st) hp := by
      intro L hL hA
      obtain ⟨o, ho, fr', hp', e1, H', F', t, ht, et, r2, a1, a2, g2⟩ := ysimL_ok (rt := x.2.2.2.2.1) hE g H hev2 hlz hL
      have k := List.all_eq_true.mp hA t ht
      obtain ⟨z, hz, hz2⟩ := ih t.1 t.2 r2 hp' fr'.2.1 fr'.2.2 k g2 H' (yF_trans hf F') (fun s hs => (a1 s (Nat.lt_of_lt_of_le hs hn)).trans (ha s hs)) (Nat.le_trans hn a2)
      refine ⟨z, r_s (fr' := fr') hq (fun call => (ho call).trans e1) F'.1 ?_, hz2⟩
      rw [et] at hz
      exact hz
    have simd : (match ysimL lz x.2.1 x.2.2.1 x.2.2.2.1 q pc S with
      | some L => L.all (fun t => rec t.1 t.2)
      | none => false) = true → yOt ev E d x hp0 r0 (pc, lv, st) hp := by
      intro k
      split at k
      · next L hL => exact sim hL k
      · cases k
    obtain ⟨ins, len, a, b, v⟩ := q
    dsimp only at h
    split at h
    · rw [Bool.and_eq_true] at h
      have h1 := h.1
      unfold yrtI at h1
      split at h1
      · next ty w hrt hst =>
        rw [Bool.and_eq_true] at h1
        have g5 := g.2.2.2.2
        rw [hst] at g5
        obtain ⟨u, m, rfl, ⟨ww, hu⟩, gm⟩ := ystk_cons g5
        have := ystk_nil gm
        subst this
        obtain ⟨y, rfl, hy⟩ := yvI' (by simpa using h1.1) hu
        have nar : narrow ty (.int y) = .int y := by
          have h2 := h1.2
          split at h2
          · next p hp1 =>
            have bb := yrg_ok g.1 hp1
            exact ynok_ok h2 (by omega) (by omega)
          · cases h2
        refine ⟨(some (.int y), hp), r_ret hq rfl (fun call => ?_), yend_ok hQ g H hf hap hnp h.2 rfl⟩
        show zIret x.2.2.2.2.1 (pc, lv, [.int y]) hp = _
        rw [hrt]
        unfold zIret
        dsimp only
        rw [if_pos nar]
      · cases h1
    · rw [Bool.and_eq_true] at h
      have h1 := h.1
      unfold yrtL at h1
      split at h1
      · next w hrt hst =>
        have g5 := g.2.2.2.2
        rw [hst] at g5
        obtain ⟨u, m, rfl, ⟨ww, hu⟩, gm⟩ := ystk_cons g5
        have := ystk_nil gm
        subst this
        obtain ⟨y, rfl, hy⟩ := yvL' (by simpa using h1) hu
        refine ⟨(some (.long y), hp), r_ret hq rfl (fun call => ?_), yend_ok hQ g H hf hap hnp h.2 rfl⟩
        show zLret x.2.2.2.2.1 (pc, lv, [.long y]) hp = _
        rw [hrt]
        rfl
      · cases h1
    · rw [Bool.and_eq_true] at h
      have h1 := h.1
      unfold yrtV at h1
      split at h1
      · next hrt hst =>
        have g5 := g.2.2.2.2
        rw [hst] at g5
        have := ystk_nil g5
        subst this
        refine ⟨(none, hp), r_ret hq rfl (fun call => ?_), yend_ok hQ g H hf hap hnp h.2 rfl⟩
        show zVret x.2.2.2.2.1 (pc, lv, []) hp = _
        rw [hrt]
        rfl
      · cases h1
    · next i =>
      rw [Bool.and_eq_true] at h
      obtain ⟨hb0, h⟩ := h
      have hb0 : b = 0 := of_decide_eq_true hb0
      subst hb0
      split at h
      · next w rest hd =>
        simp only [Bool.and_eq_true, decide_eq_true_eq] at h
        obtain ⟨h1, h2, h3, h4⟩ := h
        obtain ⟨k1, k2, k3⟩ := ystk_take (k := (zar a).1) g.2.2.2.2
        rw [hd] at k2
        obtain ⟨u, m, em, ⟨ww, hu⟩, gm⟩ := ystk_cons k2
        obtain ⟨ix, rfl, hkd⟩ := yknd_ok g H.1 ww hu h2
        split at h4
        · next R hR =>
          obtain ⟨z, z1, zH, zF, T, hT, r2, a1, a2, g2⟩ := ytry2_ok (lv := lv) H (yG_st g trivial) (args := w :: (S.2.2.2.2.2.take (zar a).1).reverse) (as := .ref ix :: (st.take (zar a).1).reverse) (rest := rest) (m := m) ⟨⟨ww, hu⟩, ystk_rev k1⟩ gm hs hR
          have k := List.all_eq_true.mp h4 T hT
          obtain ⟨y, hy, hy2⟩ := ih (pc + 3) T r2 z.2 lv (z.1.toList ++ m) k g2 zH (yF_trans hf zF) (fun s hs => (a1 s (Nat.lt_of_lt_of_le hs hn)).trans (ha s hs)) (Nat.le_trans hn a2)
          refine ⟨y, r_call (hp' := z.2) (rv := z.1) (n := (zar a).1) (ci := (zar a).2) hq rfl em rfl ?_ hkd ?_ z1 zF.1 hy, hy2⟩
          · rw [List.length_take, k3]
            rw [List.length_take] at h1
            exact h1
          · rw [ysl_ok gm]
            exact h3
        · cases h4
      · cases h
    · next i =>
      split at h
      · next hb =>
        have hb : b = 1 := hb
        subst hb
        simp only [Bool.and_eq_true, decide_eq_true_eq] at h
        obtain ⟨h1, h3, h4⟩ := h
        obtain ⟨k1, k2, k3⟩ := ystk_take (k := (zar a).1) g.2.2.2.2
        split at h4
        · next R hR =>
          obtain ⟨z, z1, zH, zF, T, hT, r2, a1, a2, g2⟩ := ytry2_ok (lv := lv) H (yG_st g trivial) (args := (S.2.2.2.2.2.take (zar a).1).reverse) (as := (st.take (zar a).1).reverse) (rest := S.2.2.2.2.2.drop (zar a).1) (m := st.drop (zar a).1) (ystk_rev k1) k2 hs hR
          have k := List.all_eq_true.mp h4 T hT
          obtain ⟨y, hy, hy2⟩ := ih (pc + 3) T r2 z.2 lv (z.1.toList ++ st.drop (zar a).1) k g2 zH (yF_trans hf zF) (fun s hs => (a1 s (Nat.lt_of_lt_of_le hs hn)).trans (ha s hs)) (Nat.le_trans hn a2)
          refine ⟨y, r_callS (hp' := z.2) (rv := z.1) (n := (zar a).1) (ci := (zar a).2) hq rfl rfl rfl ?_ ?_ z1 zF.1 hy, hy2⟩
          · rw [List.length_take, k3]
            rw [List.length_take] at h1
            exact h1
          · rw [ysl_ok k2]
            exact h3
        · cases h4
      · exact simd h
    · exact simd h
theorem yexec_ok {lz : yZ} {ev : zEv} {E : zHp → Prop} {d : Nat} {x : yCx} (hE : yEF E x.2.2.1) (hs : ∀ sp ∈ x.1, yTr E d sp ∧ ywf sp.2.2.1 = true) (hQ : ∀ q ∈ x.2.2.2.2.2.2.2.1, ywf q = true ∧ x.2.2.2.2.2.2.1 ≤ q.1) (hC : ∀ c ∈ x.2.2.2.2.2.2.2.2.1, ywf c.2.1 = true ∧ x.2.2.2.2.2.2.1 ≤ c.2.1.1) {hp0 : zHp} {r0 : Nat → Int} {rb : Nat → Int} {n0 : Nat} {R0 : Option yX} (hn0 : x.2.2.2.2.2.2.1 ≤ n0) (hR : ∀ R, R0 = some R → ∀ t ∈ R.1, t.2 < n0) (hrb : yag x.2.2.2.2.2.2.1 r0 rb) (hlw : ywz n0 lz) (hev : yEv lz ev rb)
    (hcut : ∀ c ∈ x.2.2.2.2.2.2.2.2.1, ∀ (r2 : Nat → Int) (hp : zHp) (lv : List (Nat × Value)) (st : List Value), yG hp r2 c.2.1 lv st → (yH0 hp ∧ E hp) → yF x.2.1 hp0 hp → yag x.2.2.2.2.2.2.1 r0 r2 → (∀ R, R0 = some R → yex r2 c.2.2 < yex rb R) → yOt ev E d x hp0 r0 (c.1, lv, st) hp) :
    ∀ (f : Nat) (pc : Nat) (S : yS) (r : Nat → Int) (hp : zHp) (lv : List (Nat × Value)) (st : List Value), yexec lz x R0 f pc S = true → yG hp r S lv st → (yH0 hp ∧ E hp) → yF x.2.1 hp0 hp → yag n0 rb r → n0 ≤ S.1 → yOt ev E d x hp0 r0 (pc, lv, st) hp := by
  intro f
  induction f with
  | zero => intro pc S r hp lv st h; cases h
  | succ f ih =>
    intro pc S r hp lv st h g H hf ha hn
    have hap : yag x.2.2.2.2.2.2.1 r0 r := fun s z => (ha s (Nat.lt_of_lt_of_le z hn0)).trans (hrb s z)
    unfold yexec at h
    rw [Bool.or_eq_true] at h
    rcases h with h | h
    · obtain ⟨c, hc, rfl, r2, a1, g2, a2⟩ := ycut_ok (r0 := r0) hC g H hap (Nat.le_trans hn0 hn) (fun R hR0 t ht => Nat.lt_of_lt_of_le (hR R hR0 t ht) hn) h
      refine hcut c hc r2 hp lv st g2 H hf a1 (fun R hR0 => ?_)
      have e : yex r R = yex rb R := by
        unfold yex
        rw [yxs_ag ha (hR R hR0)]
      rw [← e]
      exact a2 R hR0
    · obtain ⟨T, hT, r2, a1, a2, g2⟩ := yspl_ok g H.1 x pc
      have k := List.all_eq_true.mp h T hT
      -- rb stands for the entry's reading here: agreement below the entry's symbols is carried by r0
      have ih2 : ∀ (pc : Nat) (S : yS) (r : Nat → Int) (hp : zHp) (lv : List (Nat × Value)) (st : List Value), yexec lz x R0 f pc S = true → yG hp r S lv st → (yH0 hp ∧ E hp) → yF x.2.1 hp0 hp → yag n0 (fun s => if s < x.2.2.2.2.2.2.1 then r0 s else rb s) r → n0 ≤ S.1 → yOt ev E d x hp0 r0 (pc, lv, st) hp := by
        intro pc S r hp lv st q1 q2 q3 q4 q5 q6
        refine ih pc S r hp lv st q1 q2 q3 q4 (fun s hs => ?_) q6
        rw [q5 s hs]
        by_cases c : s < x.2.2.2.2.2.2.1
        · show (if s < x.2.2.2.2.2.2.1 then r0 s else rb s) = rb s
          rw [if_pos c, hrb s c]
        · show (if s < x.2.2.2.2.2.2.1 then r0 s else rb s) = rb s
          rw [if_neg c]
      have hev3 : yEv lz ev (fun s => if s < x.2.2.2.2.2.2.1 then r0 s else rb s) := yEv_ag hlw (fun s hs => by
        by_cases c : s < x.2.2.2.2.2.2.1
        · show (if s < x.2.2.2.2.2.2.1 then r0 s else rb s) = rb s
          rw [if_pos c, hrb s c]
        · show (if s < x.2.2.2.2.2.2.1 then r0 s else rb s) = rb s
          rw [if_neg c]) hev
      have := ystp_ok (r0 := fun s => if s < x.2.2.2.2.2.2.1 then r0 s else rb s) (n0 := n0) hE hs hQ (hp0 := hp0) (rec := yexec lz x R0 f) (fun pc S r hp lv st q1 q2 q3 q4 q5 q6 => by
        obtain ⟨z, z1, z2, z3, q, z4, r3, z5, z6⟩ := ih2 pc S r hp lv st q1 q2 q3 q4 q5 q6
        exact ⟨z, z1, z2, z3, q, z4, r3, fun s hs => by rw [z5 s hs]; exact (if_pos hs).symm, z6⟩) g2 H hf hn0 (fun s hs => by
          rw [a1 s (Nat.lt_of_lt_of_le hs hn), ha s hs]
          by_cases c : s < x.2.2.2.2.2.2.1
          · show rb s = (if s < x.2.2.2.2.2.2.1 then r0 s else rb s)
            rw [if_pos c, hrb s c]
          · show rb s = (if s < x.2.2.2.2.2.2.1 then r0 s else rb s)
            rw [if_neg c]) hlw hev3 (Nat.le_trans hn a2) k
      obtain ⟨z, z1, z2, z3, q, z4, r3, z5, z6⟩ := this
      exact ⟨z, z1, z2, z3, q, z4, r3, fun s hs => by rw [z5 s hs]; exact if_pos hs, z6⟩
theorem yexecO_ok {O : List (Nat × yS)} {lz : yZ} {ev : zEv} {E : zHp → Prop} {d : Nat} {x : yCx} (hE : yEF E x.2.2.1) (hs : ∀ sp ∈ x.1, yTr E d sp ∧ ywf sp.2.2.1 = true) (hQ : ∀ q ∈ x.2.2.2.2.2.2.2.1, ywf q = true ∧ x.2.2.2.2.2.2.1 ≤ q.1) (hC : ∀ c ∈ x.2.2.2.2.2.2.2.2.1, ywf c.2.1 = true ∧ x.2.2.2.2.2.2.1 ≤ c.2.1.1) {hp0 : zHp} {r0 : Nat → Int} {rb : Nat → Int} {n0 : Nat} {R0 : Option yX} (hn0 : x.2.2.2.2.2.2.1 ≤ n0) (hR : ∀ R, R0 = some R → ∀ t ∈ R.1, t.2 < n0) (hrb : yag x.2.2.2.2.2.2.1 r0 rb) (hlw : ywz n0 lz) (hev : yEv lz ev rb)
    (hcut : ∀ c ∈ x.2.2.2.2.2.2.2.2.1, ∀ (r2 : Nat → Int) (hp : zHp) (lv : List (Nat × Value)) (st : List Value), yG hp r2 c.2.1 lv st → (yH0 hp ∧ E hp) → yF x.2.1 hp0 hp → yag x.2.2.2.2.2.2.1 r0 r2 → (∀ R, R0 = some R → yex r2 c.2.2 < yex rb R) → yOt ev E d x hp0 r0 (c.1, lv, st) hp) :
    (∀ o ∈ O, ywf o.2 = true ∧ ∀ (r : Nat → Int) (hp : zHp) (lv : List (Nat × Value)) (st : List Value), yG hp r o.2 lv st → (yH0 hp ∧ E hp) → yF x.2.1 hp0 hp → yag n0 rb r → n0 ≤ o.2.1 → yOt ev E d x hp0 r0 (o.1, lv, st) hp) → ∀ (f : Nat) (pc : Nat) (S : yS) (r : Nat → Int) (hp : zHp) (lv : List (Nat × Value)) (st : List Value), yexecO lz x R0 O f pc S = true → yG hp r S lv st → (yH0 hp ∧ E hp) → yF x.2.1 hp0 hp → yag n0 rb r → n0 ≤ S.1 → yOt ev E d x hp0 r0 (pc, lv, st) hp := by
  intro hO f
  induction f with
  | zero => intro pc S r hp lv st h; cases h
  | succ f ih =>
    intro pc S r hp lv st h g H hf ha hn
    have hap : yag x.2.2.2.2.2.2.1 r0 r := fun s z => (ha s (Nat.lt_of_lt_of_le z hn0)).trans (hrb s z)
    unfold yexecO at h
    rw [Bool.or_eq_true, Bool.or_eq_true] at h
    rcases h with h | h | h
    · rw [List.any_eq_true] at h
      obtain ⟨o, ho, h⟩ := h
      simp only [Bool.and_eq_true, beq_iff_eq] at h
      obtain ⟨h1, h2, h3⟩ := h
      subst h1
      obtain ⟨k1, k2⟩ := hO o ho
      have g1 := ymt_ok g k1 h3
      exact k2 _ hp lv st g1 H hf (fun s hs => (yrs_ag S.1 [] r s (Nat.lt_of_lt_of_le hs hn)).trans (ha s hs)) (by rw [h2]; exact hn)
    · obtain ⟨c, hc, rfl, r2, a1, g2, a2⟩ := ycut_ok (r0 := r0) hC g H hap (Nat.le_trans hn0 hn) (fun R hR0 t ht => Nat.lt_of_lt_of_le (hR R hR0 t ht) hn) h
      refine hcut c hc r2 hp lv st g2 H hf a1 (fun R hR0 => ?_)
      have e : yex r R = yex rb R := by
        unfold yex
        rw [yxs_ag ha (hR R hR0)]
      rw [← e]
      exact a2 R hR0
    · obtain ⟨T, hT, r2, a1, a2, g2⟩ := yspl_ok g H.1 x pc
      have k := List.all_eq_true.mp h T hT
      -- rb stands for the entry's reading here: agreement below the entry's symbols is carried by r0
      have ih2 : ∀ (pc : Nat) (S : yS) (r : Nat → Int) (hp : zHp) (lv : List (Nat × Value)) (st : List Value), yexecO lz x R0 O f pc S = true → yG hp r S lv st → (yH0 hp ∧ E hp) → yF x.2.1 hp0 hp → yag n0 (fun s => if s < x.2.2.2.2.2.2.1 then r0 s else rb s) r → n0 ≤ S.1 → yOt ev E d x hp0 r0 (pc, lv, st) hp := by
        intro pc S r hp lv st q1 q2 q3 q4 q5 q6
        refine ih pc S r hp lv st q1 q2 q3 q4 (fun s hs => ?_) q6
        rw [q5 s hs]
        by_cases c : s < x.2.2.2.2.2.2.1
        · show (if s < x.2.2.2.2.2.2.1 then r0 s else rb s) = rb s
          rw [if_pos c, hrb s c]
        · show (if s < x.2.2.2.2.2.2.1 then r0 s else rb s) = rb s
          rw [if_neg c]
      have hev3 : yEv lz ev (fun s => if s < x.2.2.2.2.2.2.1 then r0 s else rb s) := yEv_ag hlw (fun s hs => by
        by_cases c : s < x.2.2.2.2.2.2.1
        · show (if s < x.2.2.2.2.2.2.1 then r0 s else rb s) = rb s
          rw [if_pos c, hrb s c]
        · show (if s < x.2.2.2.2.2.2.1 then r0 s else rb s) = rb s
          rw [if_neg c]) hev
      have := ystp_ok (r0 := fun s => if s < x.2.2.2.2.2.2.1 then r0 s else rb s) (n0 := n0) hE hs hQ (hp0 := hp0) (rec := yexecO lz x R0 O f) (fun pc S r hp lv st q1 q2 q3 q4 q5 q6 => by
        obtain ⟨z, z1, z2, z3, q, z4, r3, z5, z6⟩ := ih2 pc S r hp lv st q1 q2 q3 q4 q5 q6
        exact ⟨z, z1, z2, z3, q, z4, r3, fun s hs => by rw [z5 s hs]; exact (if_pos hs).symm, z6⟩) g2 H hf hn0 (fun s hs => by
          rw [a1 s (Nat.lt_of_lt_of_le hs hn), ha s hs]
          by_cases c : s < x.2.2.2.2.2.2.1
          · show rb s = (if s < x.2.2.2.2.2.2.1 then r0 s else rb s)
            rw [if_pos c, hrb s c]
          · show rb s = (if s < x.2.2.2.2.2.2.1 then r0 s else rb s)
            rw [if_neg c]) hlw hev3 (Nat.le_trans hn a2) k
      obtain ⟨z, z1, z2, z3, q, z4, r3, z5, z6⟩ := this
      exact ⟨z, z1, z2, z3, q, z4, r3, fun s hs => by rw [z5 s hs]; exact if_pos hs, z6⟩
theorem ylg_len (as : List Value) : (lg_sl as).length = (as.map fun v => v.category).sum := by
  induction as with
  | nil => rfl
  | cons v t ih =>
    have e : lg_sl (v :: t) = (if v.category = 2 then [.val v, .second] else [.val v]) ++ lg_sl t := rfl
    rw [e, List.length_append, ih, List.map_cons, List.sum_cons]
    cases v <;> rfl
theorem ywz_none (n : Nat) : ywz n none := fun q e => by cases e
/-- a method that the checker accepts does what its spec says -/
theorem yver_ok {E : zHp → Prop} {d k : Nat} {x : yCx} {P : yS} {f : Nat} (hE : yEF E x.2.2.1) (hs : ∀ sp ∈ x.1, yTr E d sp ∧ ywf sp.2.2.1 = true) (hm : zg zms k = some (x.2.2.2.1, x.2.2.2.2.1, x.2.2.2.2.2.1)) (h : yver x P f = true) : yTr E (d + 1) (k, x.2.2.2.1, P, x.2.2.2.2.2.2.2.1, x.2.1) := by
  unfold yver at h
  simp only [Bool.and_eq_true, decide_eq_true_eq] at h
  obtain ⟨h1, h2, h3, h4, h5, h6⟩ := h
  have hQ : ∀ q ∈ x.2.2.2.2.2.2.2.1, ywf q = true ∧ x.2.2.2.2.2.2.1 ≤ q.1 := by
    intro q hq
    have := List.all_eq_true.mp h4 q hq
    simp only [Bool.and_eq_true, decide_eq_true_eq] at this
    exact ⟨this.1, by rw [h2]; exact this.2.1⟩
  have hC5 : ∀ c ∈ x.2.2.2.2.2.2.2.2.1, ywf c.2.1 = true ∧ P.1 ≤ c.2.1.1 ∧ yge0 c.2.1.2.1 c.2.2 = true ∧ (∀ t ∈ c.2.2.1, t.2 < c.2.1.1) ∧ (yspl x c.1 c.2.1).all (ystp none (yexec none x (some c.2.2) f) x c.1) = true := by
    intro c hc
    have := List.all_eq_true.mp h5 c hc
    simp only [Bool.and_eq_true, decide_eq_true_eq] at this
    obtain ⟨k1, k2, k3, k4, k5⟩ := this
    exact ⟨k1, k2, k3, fun t ht => of_decide_eq_true (List.all_eq_true.mp k4 t ht), k5⟩
  have hC : ∀ c ∈ x.2.2.2.2.2.2.2.2.1, ywf c.2.1 = true ∧ x.2.2.2.2.2.2.1 ≤ c.2.1.1 := fun c hc => ⟨(hC5 c hc).1, by rw [h2]; exact (hC5 c hc).2.1⟩
  intro hp r as H g hl hlen
  have g : yG hp r P (lv_args 0 as) [] := g
  -- from each cut, by what falls
  have cuts : ∀ (n : Nat), ∀ c ∈ x.2.2.2.2.2.2.2.2.1, ∀ (r2 : Nat → Int) (hp2 : zHp) (lv : List (Nat × Value)) (st : List Value), yG hp2 r2 c.2.1 lv st → (yH0 hp2 ∧ E hp2) → yF x.2.1 hp hp2 → yag x.2.2.2.2.2.2.1 r r2 → yex r2 c.2.2 < (n : Int) → yOt none E d x hp r (c.1, lv, st) hp2 := by
    intro n
    induction n with
    | zero =>
      intro c hc r2 hp2 lv st gc _ _ _ hr
      have := yge0_ok gc.1 (hC5 c hc).2.2.1
      omega
    | succ n ih =>
      intro c hc r2 hp2 lv st gc Hc fc ac hr
      obtain ⟨k1, k2, k3, k4, k5⟩ := hC5 c hc
      obtain ⟨T, hT, r3, a1, a2, g3⟩ := yspl_ok gc Hc.1 x c.1
      have kT := List.all_eq_true.mp k5 T hT
      have hn0 : x.2.2.2.2.2.2.1 ≤ c.2.1.1 := (hC c hc).2
      have ex := yexec_ok (lz := none) (ev := none) (x := x) hE hs hQ hC (hp0 := hp) (r0 := r) (rb := r2) (n0 := c.2.1.1) (R0 := some c.2.2) hn0 (fun R hR => by cases hR; exact k4) ac (ywz_none _) trivial (fun c2 hc2 r4 hp4 lv4 st4 g4 H4 f4 a4 q4 => ih c2 hc2 r4 hp4 lv4 st4 g4 H4 f4 a4 (by have := q4 c.2.2 rfl; omega)) f
      have st := ystp_ok (lz := none) (ev := none) (r0 := r2) (n0 := c.2.1.1) hE hs hQ (hp0 := hp) (rec := yexec none x (some c.2.2) f) (fun pc S r5 hp5 lv5 st5 q1 q2 q3 q4 q5 q6 => by
        obtain ⟨z, z1, z2, z3, q, z4, r6, z5, z6⟩ := ex pc S r5 hp5 lv5 st5 q1 q2 q3 q4 q5 q6
        exact ⟨z, z1, z2, z3, q, z4, r6, fun s hs => by rw [z5 s hs, ac s hs], z6⟩) g3 Hc fc hn0 a1 (ywz_none _) trivial a2 kT
      obtain ⟨z, z1, z2, z3, q, z4, r6, z5, z6⟩ := st
      exact ⟨z, z1, z2, z3, q, z4, r6, fun s hs => by rw [z5 s hs, ac s hs], z6⟩
  obtain ⟨z, z1, z2⟩ := yexec_ok (lz := none) (ev := none) (x := x) hE hs hQ hC (hp0 := hp) (r0 := r) (rb := r) (n0 := P.1) (R0 := none) (Nat.le_of_eq h2) (fun R hR => by cases hR) (yag_refl _ _) (ywz_none _) trivial (fun c hc r2 hp2 lv st g2 H2 f2 a2 _ => cuts (yex r2 c.2.2 + 1).toNat c hc r2 hp2 lv st g2 H2 f2 a2 (by have := yge0_ok g2.1 (hC5 c hc).2.2.1; omega)) f 0 P r hp (lv_args 0 as) [] h6 g H (yF_refl _ _) (yag_refl _ _) (Nat.le_refl _)
  refine ⟨z, zCan_body hm ⟨by rw [ylg_len]; exact hl, h1⟩ z2.2.1.1 z1, ?_⟩
  show yPo E x.2.1 hp r P.1 x.2.2.2.2.2.2.2.1 z
  rw [← h2]
  exact z2
/-- the law's loop: six new elements of the script at each turn -/
def ysix (C : yS) : yS := (C.1 + 6, (C.1 + 5, -2147483648, 2147483647) :: (C.1 + 4, -2147483648, 2147483647) :: (C.1 + 3, -2147483648, 2147483647) :: (C.1 + 2, -2147483648, 2147483647) :: (C.1 + 1, -2147483648, 2147483647) :: (C.1, -2147483648, 2147483647) :: C.2.1, C.2.2)
def ylz (C : yS) (s : Nat) : yZ := some ((1, 0, 0), [((1, s, 0), (1, C.1, 0)), ((1, s, 1), (1, C.1 + 1, 0)), ((1, s, 2), (1, C.1 + 2, 0)), ((1, s, 3), (1, C.1 + 3, 0)), ((1, s, 4), (1, C.1 + 4, 0)), ((1, s, 5), (1, C.1 + 5, 0))])
def ylaw (x : yCx) (P C : yS) (R : yX) (s pc0 f : Nat) (O : List (Nat × yS)) : Bool :=
  decide (x.2.2.2.2.2.2.1 = 1) && (decide (P.1 = 1) && (decide (1 ≤ C.1) && (decide (s < C.1) && (x.2.2.2.2.2.2.2.1.all (fun q => ywf q && decide (1 ≤ q.1)) && (ywf C && (yge0 C.2.1 R && (R.1.all (fun t => decide (t.2 < C.1)) && (ystp (ylz C s) (yexecO (ylz C s) x (some R) O f) x pc0 (ysix C) && (ycut x none pc0 P && O.all (fun o => ywf o.2))))))))))
theorem ylaw_ok {E : zHp → Prop} {d : Nat} {x : yCx} {P C : yS} {R : yX} {s pc0 f : Nat} {O : List (Nat × yS)} (hO : ∀ o ∈ O, yexec (ylz C s) x (some R) f o.1 o.2 = true) (hcu : x.2.2.2.2.2.2.2.2.1 = [(pc0, C, R)]) (hE : yEF E x.2.2.1) (hs : ∀ sp ∈ x.1, yTr E d sp ∧ ywf sp.2.2.1 = true) (h : ylaw x P C R s pc0 f O = true) {L : Nat} {xs : Nat → Int32} (hL : L ≤ 3072) {hp : zHp} {r : Nat → Int} {lv0 : List (Nat × Value)} (H : yH0 hp ∧ E hp) (g : yG hp r P lv0 []) (h0 : r 0 = (L : Int)) : yOt (some (L, xs)) E d x hp r (pc0, lv0, []) hp := by
  unfold ylaw at h
  simp only [Bool.and_eq_true, decide_eq_true_eq] at h
  obtain ⟨h1, h2, h3, h4, h5, h6, h7, h8, h9, h10, h11⟩ := h
  have hQ : ∀ q ∈ x.2.2.2.2.2.2.2.1, ywf q = true ∧ x.2.2.2.2.2.2.1 ≤ q.1 := by
    intro q hq
    have := List.all_eq_true.mp h5 q hq
    simp only [Bool.and_eq_true, decide_eq_true_eq] at this
    exact ⟨this.1, by rw [h1]; exact this.2⟩
  have hC : ∀ c ∈ x.2.2.2.2.2.2.2.2.1, ywf c.2.1 = true ∧ x.2.2.2.2.2.2.1 ≤ c.2.1.1 := by
    intro c hc
    rw [hcu] at hc
    rcases List.mem_cons.mp hc with rfl | hc
    · exact ⟨h6, by rw [h1]; exact h3⟩
    · cases hc
  have hRw : ∀ t ∈ R.1, t.2 < C.1 := fun t ht => of_decide_eq_true (List.all_eq_true.mp h8 t ht)
  have main : ∀ (n : Nat) (r2 : Nat → Int) (hp2 : zHp) (lv : List (Nat × Value)) (st : List Value), yG hp2 r2 C lv st → (yH0 hp2 ∧ E hp2) → yF x.2.1 hp hp2 → yag x.2.2.2.2.2.2.1 r r2 → yex r2 R < (n : Int) → yOt (some (L, xs)) E d x hp r (pc0, lv, st) hp2 := by
    intro n
    induction n with
    | zero =>
      intro r2 hp2 lv st gc _ _ _ hr
      have := yge0_ok gc.1 h7
      omega
    | succ n ih =>
      intro r2 hp2 lv st gc Hc fc ac hr
      generalize hr3 : (fun t : Nat => if t < C.1 then r2 t else (xs (yev r2 (1, s, ((t - C.1 : Nat) : Int))).toNat).toInt) = r3
      have ag : yag C.1 r2 r3 := fun t ht => by rw [← hr3]; exact if_pos ht
      have nw : ∀ k : Nat, r3 (C.1 + k) = (xs (yev r2 (1, s, (k : Int))).toNat).toInt := fun k => by
        rw [← hr3]
        show (if C.1 + k < C.1 then r2 (C.1 + k) else (xs (yev r2 (1, s, ((C.1 + k - C.1 : Nat) : Int))).toNat).toInt) = _
        rw [if_neg (by omega), show C.1 + k - C.1 = k by omega]
      have le6 : C.1 ≤ C.1 + 6 := Nat.le_add_right _ _
      have bd : ∀ k : Nat, k < 6 → C.1 + k < C.1 + 6 ∧ (-2147483648 : Int) ≤ r3 (C.1 + k) ∧ r3 (C.1 + k) ≤ 2147483647 := fun k hk => by
        rw [nw k]
        have := y32 (xs (yev r2 (1, s, (k : Int))).toNat)
        omega
      have g3 : yG hp2 r3 (ysix C) lv st := by
        refine ⟨fun e he => ?_, yGf_ag le6 ag gc.2.1, yGt_ag le6 ag gc.2.2.1, yGl_ag le6 ag gc.2.2.2.1, ystk_ag le6 ag gc.2.2.2.2⟩
        have he : e ∈ (C.1 + 5, (-2147483648 : Int), (2147483647 : Int)) :: (C.1 + 4, -2147483648, 2147483647) :: (C.1 + 3, -2147483648, 2147483647) :: (C.1 + 2, -2147483648, 2147483647) :: (C.1 + 1, -2147483648, 2147483647) :: (C.1, -2147483648, 2147483647) :: C.2.1 := he
        simp only [List.mem_cons] at he
        rcases he with rfl | rfl | rfl | rfl | rfl | rfl | he
        · exact bd 5 (by omega)
        · exact bd 4 (by omega)
        · exact bd 3 (by omega)
        · exact bd 2 (by omega)
        · exact bd 1 (by omega)
        · exact bd 0 (by omega)
        · exact yGe_ag le6 ag gc.1 e he
      have w0 : yw C.1 (1, 0, 0) := Or.inr (by show 0 < C.1; omega)
      have ws : ∀ k : Int, yw C.1 (1, s, k) := fun k => Or.inr h4
      have el : ∀ k : Nat, (xs (yev r3 (1, s, (k : Int))).toNat).toInt = yev r3 (1, C.1 + k, 0) := fun k => by
        rw [yev_ag ag (ws k)]
        show _ = 1 * r3 (C.1 + k) + 0
        rw [nw k]
        omega
      have ev : yEv (ylz C s) (some (L, xs)) r3 := by
        refine ⟨L, xs, rfl, ?_, hL, fun t ht => ?_⟩
        · rw [yev_ag ag w0]
          show (L : Int) = 1 * r2 0 + 0
          rw [ac 0 (by rw [h1]; omega), h0]
          omega
        · simp only [List.mem_cons, List.mem_nil_iff, or_false] at ht
          rcases ht with rfl | rfl | rfl | rfl | rfl | rfl
          · exact el 0
          · exact el 1
          · exact el 2
          · exact el 3
          · exact el 4
          · exact el 5
      have wz : ywz (C.1 + 6) (ylz C s) := by
        intro q hq
        cases hq
        refine ⟨yw_le le6 w0, fun t ht => ?_⟩
        simp only [List.mem_cons, List.mem_nil_iff, or_false] at ht
        rcases ht with rfl | rfl | rfl | rfl | rfl | rfl <;> exact ⟨yw_le le6 (ws _), Or.inr (by dsimp only; omega)⟩
      have ap : yag x.2.2.2.2.2.2.1 r r3 := fun t ht => (ag t (by rw [h1] at ht; omega)).trans (ac t ht)
      have hp6 : x.2.2.2.2.2.2.1 ≤ C.1 + 6 := by rw [h1]; omega
      have er : yex r3 R = yex r2 R := by
        unfold yex
        rw [yxs_ag ag hRw]
      have ex0 := yexec_ok (lz := ylz C s) (ev := some (L, xs)) (x := x) hE hs hQ hC (hp0 := hp) (r0 := r) (rb := r3) (n0 := C.1 + 6) (R0 := some R) hp6 (fun R2 hR => by cases hR; exact fun t ht => Nat.lt_of_lt_of_le (hRw t ht) le6) ap wz ev (fun c2 hc2 r4 hp4 lv4 st4 g4 H4 f4 a4 q4 => by
        rw [hcu] at hc2
        rcases List.mem_cons.mp hc2 with rfl | hc2
        · exact ih r4 hp4 lv4 st4 g4 H4 f4 a4 (by
            have k1 : yex r4 R < yex r3 R := q4 R rfl
            omega)
        · cases hc2) f
      have ex := yexecO_ok (O := O) (lz := ylz C s) (ev := some (L, xs)) (x := x) hE hs hQ hC (hp0 := hp) (r0 := r) (rb := r3) (n0 := C.1 + 6) (R0 := some R) hp6 (fun R2 hR => by cases hR; exact fun t ht => Nat.lt_of_lt_of_le (hRw t ht) le6) ap wz ev (fun c2 hc2 r4 hp4 lv4 st4 g4 H4 f4 a4 q4 => by
        rw [hcu] at hc2
        rcases List.mem_cons.mp hc2 with rfl | hc2
        · exact ih r4 hp4 lv4 st4 g4 H4 f4 a4 (by
            have k1 : yex r4 R < yex r3 R := q4 R rfl
            omega)
        · cases hc2) (fun o ho => ⟨List.all_eq_true.mp h11 o ho, fun r4 hp4 lv4 st4 g4 H4 f4 a4 n4 => ex0 o.1 o.2 r4 hp4 lv4 st4 (hO o ho) g4 H4 f4 a4 n4⟩) f
      have stp := ystp_ok (lz := ylz C s) (ev := some (L, xs)) (r0 := r3) (n0 := C.1 + 6) hE hs hQ (hp0 := hp) (rec := yexecO (ylz C s) x (some R) O f) (fun pc S r5 hp5 lv5 st5 q1 q2 q3 q4 q5 q6 => by
        obtain ⟨z, z1, z2, z3, q, z4, r6, z5, z6⟩ := ex pc S r5 hp5 lv5 st5 q1 q2 q3 q4 q5 q6
        exact ⟨z, z1, z2, z3, q, z4, r6, fun s hs => by rw [z5 s hs, ap s hs], z6⟩) g3 Hc fc hp6 (yag_refl _ _) wz ev (Nat.le_refl _) h9
      obtain ⟨z, z1, z2, z3, q, z4, r6, z5, z6⟩ := stp
      exact ⟨z, z1, z2, z3, q, z4, r6, fun s hs => by rw [z5 s hs, ap s hs], z6⟩
  obtain ⟨c, hc, ec, r2, a1, g2, -⟩ := ycut_ok (r0 := r) hC g H (yag_refl _ _) (by rw [h1, h2]; exact Nat.le_refl _) (fun R hR => by cases hR) h10
  rw [hcu] at hc
  rcases List.mem_cons.mp hc with rfl | hc
  · exact main (yex r2 R + 1).toNat r2 hp lv0 [] g2 H (yF_refl _ _) a1 (by have := yge0_ok g2.1 h7; omega)
  · cases hc
end YVER
