/-! Steps of the checker that write longs, and copy rows. -/
section YCP
variable {hp hp' : zHp} {r : Nat → Int} {S : yS} {lv : List (Nat × Value)} {st : List Value} {pc : Nat}
theorem yokc_L {h : Nat} {c : yC} {n : Nat} {f f2 : Nat → Int64} (k : yokc h c (.inl (3, n, .inr (.inl f)))) : yokc h c (.inl (3, n, .inr (.inl f2))) := by
  obtain ⟨c1, c2, c3, c4, c5⟩ := c
  match c1, k with
  | 0, k =>
    obtain ⟨fs, e, -⟩ := k
    cases e
  | 1, k =>
    match c2, k with
    | 0, k =>
      obtain ⟨-, f3, e, -⟩ := k
      cases e
    | 1, k =>
      obtain ⟨-, f3, e, -⟩ := k
      cases e
    | 2, k =>
      obtain ⟨-, f3, e, -⟩ := k
      cases e
    | 3, k =>
      obtain ⟨f3, e⟩ := k
      cases e
      exact ⟨f2, rfl⟩
    | 4, k =>
      obtain ⟨f3, e, -⟩ := k
      cases e
    | 5, k =>
      obtain ⟨f3, e, -⟩ := k
      cases e
    | n2 + 6, k =>
      obtain ⟨f3, -⟩ := k
      have f3 : n2 + 6 < 3 := f3
      omega
  | n2 + 2, k =>
    obtain ⟨n3, f3, -, e⟩ := k
    cases e
def aLst (M F : yM) (pc : Nat) (S : yS) : yO := match S.2.2.2.2.2 with
  | x :: j :: v :: s => if x.1 = 1 ∧ j.1 = 0 then (match ycel S.2.1 v with
    | some q => (match yrg S.2.1 q.1 with
      | some p => if ykL q.2 = true ∧ ybnd S q.1 (ynm S.2.1 j.2.1) q.2 = true ∧ ymok M p.1 p.2 (ynm S.2.1 j.2.1) = true ∧ ynof S.2.1 F p.1 p.2 (ynm S.2.1 j.2.1) = true then some [(pc + 1, (S.1, S.2.1, S.2.2.1, ykill S.2.1 q.1 (ynm S.2.1 j.2.1) S.2.2.2.1, S.2.2.2.2.1, s))] else none
      | none => none)
    | none => none) else none
  | _ => none
theorem aLst_ok {E : zHp → Prop} {M F : yM} (hE : yEF E F) (g : yG hp r S lv st) (H : yH0 hp ∧ E hp) {L : List (Nat × yS)} (h : aLst M F pc S = some L) : yW E M hp r S.1 L (zLast (pc, lv, st) hp) := by
  unfold aLst at h
  split at h
  · next x j v s hs =>
    have g5 := g.2.2.2.2
    rw [hs] at g5
    obtain ⟨u1, m1, rfl, ⟨w1, hu1⟩, g6⟩ := ystk_cons g5
    obtain ⟨u2, m2, rfl, ⟨w2, hu2⟩, g7⟩ := ystk_cons g6
    obtain ⟨u3, m, rfl, ⟨w3, hu3⟩, g8⟩ := ystk_cons g7
    split at h
    · next k =>
      obtain ⟨y, rfl, hy⟩ := yvL' k.1 hu1
      obtain ⟨jx, rfl, hj⟩ := yvI' k.2 hu2
      split at h
      · next q hq =>
        split at h
        · next p hp1 =>
          split at h
          · next d =>
            obtain ⟨d1, d2, d3, d4⟩ := d
            cases h
            obtain ⟨i, rfl, hi, ei, wq, hok, -, -⟩ := ycel_ok g.1 H.1 w3 hu3 hq
            obtain ⟨f, hc, k5, -⟩ := ykL_c d1 hok
            have nm := ynm_ok g.1 w2.1
            have bd := ybnd_ok g d2 ei hc (fun _ => rfl) k5
            obtain ⟨i1, i2⟩ := yix (hj.trans nm.1.symm) bd
            have bp := yrg_ok g.1 hp1
            generalize hjn : (yev r (ynm S.2.1 j.2.1)).toNat = jn at *
            have ez : zLast (pc, lv, .long y :: .int jx :: .ref i :: m) hp = zn (pc + 1) lv m (hp.1, zup hp.2 i (.inl (3, q.2.2.2.1, .inr (.inl (vp_updL f jn y))))) := by
              unfold zLast
              dsimp only
              rw [if_pos (show i < hp.1 ∧ i < zSC from ⟨hi, Nat.lt_of_lt_of_le hi H.1.2.1⟩), hc, ← i2]
              show (if ¬ (jx < 0 ∨ q.2.2.2.1 ≤ jx.toNatClampNeg) then zn (pc + 1) lv m (hp.1, zup hp.2 i (.inl (3, q.2.2.2.1, .inr (.inl (vp_updL f jx.toNatClampNeg y))))) else none) = _
              rw [if_pos i1]
            have ejn : yev r (ynm S.2.1 j.2.1) = (jn : Int) := by omega
            have nr : ∀ c l, ¬ (c = i ∧ l = (jn : Int)) → yrd (hp.1, zup hp.2 i (.inl (3, q.2.2.2.1, .inr (.inl (vp_updL f jn y))))) c l = yrd hp c l := by
              intro c l hcl
              by_cases e : c = i
              · subst e
                unfold yrd
                rw [yrd_at, hc]
                dsimp only
                split
                · rfl
                · show some (Value.long (vp_updL f jn _ l.toNat)) = some (Value.long (f l.toNat))
                  unfold vp_updL
                  rw [if_neg (fun z => hcl ⟨rfl, by omega⟩)]
              · exact yrd_ne e l
            have mk := ymok_ok (r := r) d3 (i := i) (by omega) (by omega)
            have nf := ynof_ok g.1 d4 (i := i) (by omega) (by omega)
            rw [ejn] at mk nf
            refine ⟨(pc + 1, lv, m), _, ez, ⟨yset_H H.1 (fun hl => ?_), yE_set (hp := hp) hE rfl nr nf H.2⟩, yF_set rfl nr mk (by omega), _, List.mem_cons_self, rfl, r, yag_refl _ _, Nat.le_refl _, ?_⟩
            · have := H.1.2.2 i hl
              rw [hc] at this
              exact yokc_L this
            · have g9 := ykill_ok (S := S) (hp' := (hp.1, zup hp.2 i (.inl (3, q.2.2.2.1, .inr (.inl (vp_updL f jn y)))))) g (cl := q.1) (i := i) ei (il := ynm S.2.1 j.2.1) (j := (jn : Int)) ejn.symm rfl nr
              exact yG_st g9 g8
          · cases h
        · cases h
      · cases h
    · cases h
  · cases h
def yis0 (b : yB) (v : yV) : Bool := v.1 == 0 && (match yrg b v.2.1 with
  | some p => decide (p.1 = 0) && decide (p.2 = 0)
  | none => false)
theorem yis0_ok {h n : Nat} {b : yB} (g : yGe r n b) {v : yV} {w : Value} (hv : yv h r v w) (k : yis0 b v = true) : w = .int 0 := by
  unfold yis0 at k
  rw [Bool.and_eq_true] at k
  obtain ⟨x, rfl, hx⟩ := yvI' (by simpa using k.1) hv
  have k2 := k.2
  split at k2
  · next p hp1 =>
    have := yrg_ok g hp1
    simp only [Bool.and_eq_true, decide_eq_true_eq] at k2
    rw [yofI (show x.toInt = 0 by omega)]
    rfl
  · cases k2
def aCpy (M F : yM) (pc : Nat) (S : yS) : yO := match S.2.2.2.2.2 with
  | n :: dp :: d :: sp :: c :: s => if n.1 = 0 ∧ yis0 S.2.1 dp = true ∧ yis0 S.2.1 sp = true ∧ d.1 = 2 ∧ ysl s ≤ 8 then (match ycel S.2.1 c, ycel S.2.1 d, yrg S.2.1 n.2.1, yrg S.2.1 d.2.1 with
    | some qc, some qd, some p, some pd => if ykW false qc.2 = true ∧ ykW false qd.2 = true ∧ yap S.2.1 qc.1 qd.1 = true ∧ 0 ≤ p.1 ∧ p.2 ≤ (qc.2.2.2.1 : Int) ∧ p.2 ≤ (qd.2.2.2.1 : Int) ∧ (qd.2.2.2.2.1 = 0 ∨ qd.2.2.2.2.1 = qc.2.2.2.2.1) ∧ ymok M pd.1 pd.2 (1, 0, 0) = true ∧ F.all (fun m => decide (pd.2 < (m.1 : Int)) || decide ((m.2.1 : Int) < pd.1)) = true then
        some [(pc + 3, (S.1, S.2.1, S.2.2.1, S.2.2.2.1.filter (fun t => yap S.2.1 qd.1 t.1), S.2.2.2.2.1, s))] else none
    | _, _, _, _ => none) else none
  | _ => none
theorem aCpy_ok {E : zHp → Prop} {M F : yM} (hE : yEF E F) (g : yG hp r S lv st) (H : yH0 hp ∧ E hp) {L : List (Nat × yS)} (h : aCpy M F pc S = some L) : yW E M hp r S.1 L (zCpy (pc, lv, st) hp) := by
  unfold aCpy at h
  split at h
  · next n dp d sp c s hs =>
    have g5 := g.2.2.2.2
    rw [hs] at g5
    obtain ⟨u1, m1, rfl, ⟨w1, hu1⟩, g6⟩ := ystk_cons g5
    obtain ⟨u2, m2, rfl, ⟨w2, hu2⟩, g7⟩ := ystk_cons g6
    obtain ⟨u3, m3, rfl, ⟨w3, hu3⟩, g8⟩ := ystk_cons g7
    obtain ⟨u4, m4, rfl, ⟨w4, hu4⟩, g9⟩ := ystk_cons g8
    obtain ⟨u5, m, rfl, ⟨w5, hu5⟩, g10⟩ := ystk_cons g9
    split at h
    · next k =>
      obtain ⟨k1, k2, k3, k4, k5⟩ := k
      obtain ⟨x, rfl, hx⟩ := yvI' k1 hu1
      have e2 := yis0_ok g.1 hu2 k2
      have e4 := yis0_ok g.1 hu4 k3
      subst e2
      subst e4
      split at h
      · next qc qd p pd hc hd hp1 hpd =>
        split at h
        · next a =>
          obtain ⟨a1, a2, a3, a4, a5, a6, a7, a8, a9⟩ := a
          cases h
          obtain ⟨ic, rfl, hic, eic, wqc, okc, -, -⟩ := ycel_ok g.1 H.1 w5 hu5 hc
          obtain ⟨jd, rfl, hid, eid, wqd, okd, htd, -⟩ := ycel_ok g.1 H.1 w3 hu3 hd
          obtain ⟨-, htd⟩ := htd k4
          obtain ⟨f, b1, b2, b3, b4, b5, bc, bf⟩ := ykW_c a1 okc
          obtain ⟨f2, c1, c2, c3, c4, c5, cc, cf⟩ := ykW_c a2 okd
          have bp := yrg_ok g.1 hp1
          have bpd := yrg_ok g.1 hpd
          have ne := yap_ok g.1 a3
          have hne : ic ≠ jd := fun z => ne (by rw [← eic, ← eid, z])
          have er : (jd : Int) = yev r d.2.1 := by
            unfold yv at hu3
            rw [k4] at hu3
            rcases hu3 with ⟨-, hu3⟩ | ⟨hu3, hu4⟩
            · cases hu3
            · cases hu4
              show (((yev r d.2.1).toNat : Nat) : Int) = _
              omega
          have xn : x.toNatClampNeg = (yev r n.2.1).toNat := by rw [← hx]; rfl
          have ez : zCpy (pc, lv, .int x :: .int 0 :: .ref jd :: .int 0 :: .ref ic :: m) hp = zn (pc + 3) lv m (hp.1, zup hp.2 jd (.inl (0, qd.2.2.2.1, .inl (va_cpy f f2 0 0 x.toNatClampNeg)))) := by
            unfold zCpy
            dsimp only
            rw [if_pos (show ic < hp.1 ∧ ic < zSC ∧ jd < hp.1 ∧ jd < zSC ∧ ic ≠ jd ∧ ¬ (0 : Int32) < 0 ∧ ¬ (0 : Int32) < 0 ∧ ¬ x < 0 from ⟨hic, Nat.lt_of_lt_of_le hic H.1.2.1, hid, Nat.lt_of_lt_of_le hid H.1.2.1, hne, by decide, by decide, fun z => by
              have := Int32.lt_iff_toInt_lt.mp z
              have e0 : (0 : Int32).toInt = 0 := rfl
              omega⟩), bc, cc, b4 rfl, c4 rfl]
            show (if (0 : Int32).toNatClampNeg + x.toNatClampNeg ≤ qc.2.2.2.1 ∧ (0 : Int32).toNatClampNeg + x.toNatClampNeg ≤ qd.2.2.2.1 ∧ (m.map fun v => v.category).sum ≤ 8 then zn (pc + 3) lv m (hp.1, zup hp.2 jd (.inl (0, qd.2.2.2.1, .inl (va_cpy f f2 (0 : Int32).toNatClampNeg (0 : Int32).toNatClampNeg x.toNatClampNeg)))) else none) = _
            have z0 : (0 : Int32).toNatClampNeg = 0 := rfl
            rw [z0, if_pos ⟨by omega, by omega, by rw [ysl_ok g10]; exact k5⟩]
          have nr : ∀ a l, ¬ a = jd → yrd (hp.1, zup hp.2 jd (.inl (0, qd.2.2.2.1, .inl (va_cpy f f2 0 0 x.toNatClampNeg)))) a l = yrd hp a l := fun a l e => yrd_ne e l
          have mk : ∀ l : Int, yinM M jd l = true := fun l => by
            have := ymok_ok (r := fun _ => l) a8 (i := jd) (by omega) (by omega)
            rw [show yev (fun _ => l) (1, 0, 0) = l by show 1 * l + 0 = l; omega] at this
            exact this
          have nf : ∀ l : Int, yinM F jd l = false := fun l => by
            cases e : yinM F jd l with
            | false => rfl
            | true =>
              exfalso
              unfold yinM at e
              rw [List.any_eq_true] at e
              obtain ⟨m, hm, e⟩ := e
              have k := List.all_eq_true.mp a9 m hm
              simp only [Bool.and_eq_true, Bool.or_eq_true, decide_eq_true_eq] at e k
              omega
          have ln : ∀ l : Int, l < 0 → yrd (hp.1, zup hp.2 jd (.inl (0, qd.2.2.2.1, .inl (va_cpy f f2 0 0 x.toNatClampNeg)))) jd l = yrd hp jd l := by
            intro l hl
            unfold yrd
            rw [yrd_at, cc, c4 rfl]
            dsimp only
            rw [if_pos hl, if_pos hl]
          refine ⟨(pc + 3, lv, m), _, ez, ⟨yset_H H.1 (fun _ => ?_), ?_⟩, ⟨Nat.le_refl _, fun _ => rfl, fun a l q => ?_⟩, _, List.mem_cons_self, rfl, r, yag_refl _ _, Nat.le_refl _, ?_⟩
          · rw [← htd]
            unfold yokc
            rw [c1, c4 rfl]
            refine ⟨by decide, _, rfl, fun l hl => ?_⟩
            unfold va_cpy
            split
            · next e =>
              rcases a7 with a7 | a7
              · rw [a7]
                exact yany _
              · rw [a7]
                have := bf (0 + (l - 0)) (by omega)
                rw [show 0 + (l - 0) = l by omega] at this ⊢
                exact this
            · exact cf l hl
          · refine hE hp _ H.2 rfl (fun a l q => nr a l (fun z => ?_))
            subst z
            rw [nf l] at q
            cases q
          · by_cases e : a = jd
            · subst e
              rcases q with q | q
              · exact ln l q.1
              · rw [mk l] at q
                cases q
            · exact nr a l e
          · refine yG_st (yG_hp (S := S) (hp' := (hp.1, zup hp.2 jd (.inl (0, qd.2.2.2.1, .inl (va_cpy f f2 0 0 x.toNatClampNeg))))) g rfl (tr := S.2.2.2.1.filter (fun t => yap S.2.1 qd.1 t.1)) (fun t ht => ?_)) g10
            rw [List.mem_filter] at ht
            refine ⟨ht.1, fun h0 => nr _ _ (fun z => ?_)⟩
            have := yap_ok g.1 ht.2
            omega
        · cases h
      · cases h
    · cases h
  · cases h
end YCP
