/-! Steps of the checker that read cells. -/
section YRD
variable {hp : zHp} {r : Nat → Int} {S : yS} {lv : List (Nat × Value)} {st : List Value} {pc : Nat}
theorem yG_tr {t : yK} (g : yG hp r S lv st) (w : yw S.1 t.1 ∧ yw S.1 t.2.1 ∧ ywv S.1 t.2.2) (h : ytk hp r t) : yG hp r (S.1, S.2.1, S.2.2.1, t :: S.2.2.2.1, S.2.2.2.2) lv st :=
  ⟨g.1, g.2.1, fun q hq => by
    rcases List.mem_cons.mp hq with rfl | hq
    · exact ⟨w, h⟩
    · exact g.2.2.1 q hq, g.2.2.2⟩
/-- a place by its bounds: a new symbol, kept as the place's -/
def yfrs (S : yS) (tag : Nat) (q : Int × Int) (keep : Bool) (cl il : yL) : yS × yV :=
  if keep && !((yput S (q, none)).2.1 == 0) then (((yput S (q, none)).1.1, (yput S (q, none)).1.2.1, (yput S (q, none)).1.2.2.1, (cl, il, (tag, (yput S (q, none)).2, yc 0)) :: (yput S (q, none)).1.2.2.2.1, (yput S (q, none)).1.2.2.2.2), (tag, (yput S (q, none)).2, yc 0)) else ((yput S (q, none)).1, (tag, (yput S (q, none)).2, yc 0))
theorem yfrs_ok (g : yG hp r S lv st) {tag : Nat} {q : Int × Int} {keep : Bool} {cl il : yL} {z : Int} {w : Value} (hz : q.1 ≤ z ∧ z ≤ q.2) (hw : ∀ (r2 : Nat → Int) (l : yL), yev r2 l = z → yv hp.1 r2 (tag, l, yc 0) w) (wc : yw S.1 cl) (wi : yw S.1 il) (hr : keep = true → 0 ≤ yev r cl ∧ yrd hp (yev r cl).toNat (yev r il) = some w) :
    ∃ r2, yag S.1 r r2 ∧ S.1 ≤ (yfrs S tag q keep cl il).1.1 ∧ (yfrs S tag q keep cl il).1.2.2.2.2 = S.2.2.2.2 ∧ yG hp r2 (yfrs S tag q keep cl il).1 lv st ∧ ywv (yfrs S tag q keep cl il).1.1 (yfrs S tag q keep cl il).2 ∧ yv hp.1 r2 (yfrs S tag q keep cl il).2 w := by
  obtain ⟨r2, a1, a2, a3, a4, a5, a6⟩ := yput_ok g (t := (q, none)) (z := z) ⟨hz, fun l hl => by cases hl⟩
  unfold yfrs
  split
  · next c =>
    rw [Bool.and_eq_true] at c
    obtain ⟨h1, h2⟩ := hr c.1
    refine ⟨r2, a1, a2, congrArg (fun z => z.2.2) a3, yG_tr a4 ⟨yw_le a2 wc, yw_le a2 wi, a5, Or.inl rfl⟩ ?_, ⟨a5, Or.inl rfl⟩, hw r2 _ a6⟩
    refine ⟨?_, w, ?_, hw r2 _ a6⟩
    · show 0 ≤ yev r2 cl
      rw [yev_ag a1 wc]
      exact h1
    · show yrd hp (yev r2 cl).toNat (yev r2 il) = some w
      rw [yev_ag a1 wc, yev_ag a1 wi]
      exact h2
  · exact ⟨r2, a1, a2, congrArg (fun z => z.2.2) a3, a4, ⟨a5, Or.inl rfl⟩, hw r2 _ a6⟩
theorem yft_v {h : Nat} {t : Nat × Int × Int} {w : Value} (ht : t.1 < 3) (hw : yft t w) : ∃ z : Int, (t.2.1 ≤ z ∧ z ≤ t.2.2) ∧ ∀ (r2 : Nat → Int) (l : yL), yev r2 l = z → yv h r2 (t.1, l, yc 0) w := by
  obtain ⟨t, lo, hi⟩ := t
  match t, ht with
  | 0, _ =>
    obtain ⟨x, rfl, h1⟩ : ∃ x : Int32, w = .int x ∧ lo ≤ x.toInt ∧ x.toInt ≤ hi := hw
    exact ⟨x.toInt, h1, fun r2 l e => yvI e.symm⟩
  | 1, _ =>
    obtain ⟨x, rfl, h1⟩ : ∃ x : Int64, w = .long x ∧ lo ≤ x.toInt ∧ x.toInt ≤ hi := hw
    exact ⟨x.toInt, h1, fun r2 l e => yvL e.symm⟩
  | 2, _ =>
    obtain ⟨i, rfl, h1⟩ : ∃ i : Nat, w = .ref i ∧ lo ≤ (i : Int) ∧ (i : Int) ≤ hi := hw
    refine ⟨(i : Int), h1, fun r2 l e => ?_⟩
    show (yev r2 l = -1 ∧ Value.ref i = .null) ∨ (0 ≤ yev r2 l ∧ Value.ref i = .ref (yev r2 l).toNat)
    rw [e]
    exact Or.inr ⟨by omega, by rw [Int.toNat_natCast]⟩
def aGetf (a b : Nat) (pc : Nat) (S : yS) : yO := match S.2.2.2.2.2 with
  | v :: s =>
    if a = 100 then (if v.1 = 2 then (match yrg S.2.1 v.2.1 with
      | some p => if p.1 = p.2 ∧ 1001 ≤ p.1 ∧ p.1 < 1007 then (if b = 0 then some [(pc + 3, yst S ((2, yc (p.1 + 19), yc 0) :: s))] else some [(pc + 3, yst S (yI (yc 0) :: s))]) else none
      | none => none) else none) else
    match ycel S.2.1 v with
    | some q =>
      if v.1 = 3 then (if a = 4 ∧ b < 2 then some [(pc + 3, yst S ((5 + b, v.2.1, yc 0) :: s))] else none) else
      if v.1 = 2 ∧ q.2.1 = 0 ∧ q.2.2.1 = a then (match ylk S.2.2.2.1 q.1 (yc b) with
        | some w => some [(pc + 3, yst S (w :: s))]
        | none => match q.2.2.2.2.2[b]? with
          | some t => if t.1 < 3 then some [(pc + 3, yst (yfrs S t.1 t.2 true q.1 (yc b)).1 ((yfrs S t.1 t.2 true q.1 (yc b)).2 :: s))] else none
          | none => none) else none
    | none => none
  | _ => none
theorem yrd_o {i : Nat} {ci : Nat} {fs : List Value} (h : hp.2 i = .inr (ci, fs)) (b : Nat) : yrd hp i (b : Int) = fs[b]? := by
  unfold yrd
  rw [h]
  dsimp only
  rw [if_neg (by omega), Int.toNat_natCast]
theorem zGetf_ok {a b i : Nat} {m fs : List Value} {w : Value} (ha : ¬ a = 100) (hi : i < hp.1) (h1 : hp.1 ≤ 1000) (hc : hp.2 i = .inr (a, fs)) (hv : fs[b]? = some w) : zGetf a b (pc, lv, .ref i :: m) hp = zn (pc + 3) lv (w :: m) hp := by
  unfold zGetf
  dsimp only
  rw [if_neg ha, if_pos ⟨hi, Nat.lt_of_lt_of_le hi h1⟩, hc]
  dsimp only
  rw [if_pos rfl, hv]
theorem yv_ref {h : Nat} {i : Nat} {l : yL} (e : yev r l = (i : Int)) : yv h r (2, l, yc 0) (.ref i) := by
  show (yev r l = -1 ∧ Value.ref i = .null) ∨ (0 ≤ yev r l ∧ Value.ref i = .ref (yev r l).toNat)
  rw [e]
  exact Or.inr ⟨by omega, by rw [Int.toNat_natCast]⟩
theorem aGetf_ok (g : yG hp r S lv st) (H : yH0 hp) {a b : Nat} {L : List (Nat × yS)} (h : aGetf a b pc S = some L) : yD hp r S.1 L (zGetf a b (pc, lv, st) hp) := by
  unfold aGetf at h
  split at h
  · next v s hs =>
    have g5 := g.2.2.2.2
    rw [hs] at g5
    obtain ⟨u, m, rfl, ⟨w, hv⟩, gm⟩ := ystk_cons g5
    split at h
    · next ha =>
      split at h
      · next h2 =>
        split at h
        · next p hp1 =>
          split at h
          · next c =>
            have bb := yrg_ok g.1 hp1
            unfold yv at hv
            rw [h2] at hv
            rcases hv with ⟨hv, -⟩ | ⟨hv, rfl⟩
            · omega
            · unfold zGetf
              dsimp only
              rw [if_pos ha, if_pos (show zSC + 1 ≤ (yev r v.2.1).toNat ∧ (yev r v.2.1).toNat < zSC + 7 from ⟨by show 1001 ≤ _; omega, by show _ < 1007; omega⟩)]
              split at h
              · next hb =>
                cases h
                rw [if_pos hb]
                exact yD1 rfl (yag_refl _ _) (Nat.le_refl _) (yG_st g ⟨⟨⟨Or.inl rfl, Or.inl rfl⟩, yv_ref (by rw [yev_c]; show _ = (((yev r v.2.1).toNat + 19 : Nat) : Int); omega)⟩, gm⟩)
              · next hb =>
                cases h
                rw [if_neg hb]
                exact yD1 rfl (yag_refl _ _) (Nat.le_refl _) (yG_st g ⟨⟨ywI (ywc _ _), yvI (by rw [yev_c]; rfl)⟩, gm⟩)
          · cases h
        · cases h
      · cases h
    · next ha =>
      split at h
      · next q hq =>
        obtain ⟨i, rfl, hi, ei, wq, hok, h2, h3⟩ := ycel_ok g.1 H w hv hq
        split at h
        · next e3 =>
          split at h
          · next c =>
            cases h
            obtain ⟨k, rfl, hk, hk2⟩ := h3 e3
            have hc := H.2.2 (88 + 3 * k) hi
            rw [yty_r0] at hc
            obtain ⟨fs, hc1, hc2, hc3⟩ := hc
            have hv2 : 0 ≤ yev r v.2.1 := by omega
            have ek : (yev r v.2.1).toNat = k := by omega
            obtain ⟨ca, cb⟩ := c
            subst ca
            have hb : ∀ b, b < 2 → ∃ x, fs[b]? = some x ∧ x = .ref (89 + b + 3 * k) := by
              intro b hb
              match b, hb with
              | 0, _ =>
                obtain ⟨x, x1, x2⟩ := hc3 0 _ rfl
                obtain ⟨j, rfl, j1, j2⟩ : ∃ j : Nat, x = .ref j ∧ ((88 + 3 * k : Nat) : Int) + 1 ≤ (j : Int) ∧ (j : Int) ≤ ((88 + 3 * k : Nat) : Int) + 1 := x2
                exact ⟨_, x1, congrArg Value.ref (show (j : Nat) = 89 + 0 + 3 * k by omega)⟩
              | 1, _ =>
                obtain ⟨x, x1, x2⟩ := hc3 1 _ rfl
                obtain ⟨j, rfl, j1, j2⟩ : ∃ j : Nat, x = .ref j ∧ ((88 + 3 * k : Nat) : Int) + 2 ≤ (j : Int) ∧ (j : Int) ≤ ((88 + 3 * k : Nat) : Int) + 2 := x2
                exact ⟨_, x1, congrArg Value.ref (show (j : Nat) = 89 + 1 + 3 * k by omega)⟩
            obtain ⟨x, x1, rfl⟩ := hb b cb
            rw [zGetf_ok ha hi H.2.1 hc1 x1]
            refine yD1 rfl (yag_refl _ _) (Nat.le_refl _) (yG_st g ⟨⟨⟨w.1, Or.inl rfl⟩, ?_⟩, gm⟩)
            match b, cb with
            | 0, _ =>
              show 0 ≤ yev r v.2.1 ∧ 88 + 3 * (yev r v.2.1).toNat + 2 < hp.1 ∧ Value.ref (89 + 0 + 3 * k) = .ref (89 + 3 * (yev r v.2.1).toNat)
              rw [ek]
              exact ⟨hv2, by omega, rfl⟩
            | 1, _ =>
              show 0 ≤ yev r v.2.1 ∧ 88 + 3 * (yev r v.2.1).toNat + 2 < hp.1 ∧ Value.ref (89 + 1 + 3 * k) = .ref (90 + 3 * (yev r v.2.1).toNat)
              rw [ek]
              exact ⟨hv2, by omega, rfl⟩
          · cases h
        · next e3 =>
          split at h
          · next c =>
            obtain ⟨c1, c2, c3⟩ := c
            have hc := hok (by rw [c2]; decide)
            unfold yokc at hc
            rw [c2] at hc
            obtain ⟨fs, hc1, hc2, hc3⟩ := hc
            rw [c3] at hc1
            split at h
            · next x hx =>
              cases h
              obtain ⟨⟨-, -, wx⟩, k1, k2, k3, k4⟩ := g.2.2.1 _ (ylk_mem hx)
              have e1 : (yev r q.1).toNat = i := by omega
              have k3 : yrd hp (yev r q.1).toNat (yev r (yc b)) = some k2 := k3
              rw [e1, yev_c, yrd_o hc1] at k3
              rw [zGetf_ok ha hi H.2.1 hc1 k3]
              exact yD1 rfl (yag_refl _ _) (Nat.le_refl _) (yG_st g ⟨⟨wx, k4⟩, gm⟩)
            · split at h
              · next t ht =>
                split at h
                · next ct =>
                  cases h
                  obtain ⟨x, x1, x2⟩ := hc3 b t ht
                  obtain ⟨z, z1, z2⟩ := yft_v (h := hp.1) ct x2
                  obtain ⟨r2, a1, a2, a3, a4, a5, a6⟩ := yfrs_ok g (tag := t.1) (q := t.2) (keep := true) (cl := q.1) (il := yc b) z1 z2 wq (ywc _ _) (fun _ => ⟨by omega, by
                    rw [show (yev r q.1).toNat = i by omega, yev_c, yrd_o hc1]
                    exact x1⟩)
                  rw [zGetf_ok ha hi H.2.1 hc1 x1]
                  exact yD1 rfl a1 a2 (yG_st a4 ⟨⟨a5, a6⟩, ystk_ag a2 a1 gm⟩)
                · cases h
              · cases h
          · cases h
      · cases h
  · cases h
end YRD
