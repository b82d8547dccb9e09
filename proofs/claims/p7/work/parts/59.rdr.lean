/-! The class's rule: its reader's loop. -/
set_option maxRecDepth 4000 in
theorem xg51 : zg zms 51 = some (zm51.2.2.1, zm51.2.2.2.1, zc51) := rfl
set_option maxRecDepth 4000 in
theorem xg33 : zg zms 33 = some (zm33.2.2.1, zm33.2.2.2.1, zc33) := rfl
theorem xr51 : zar 51 = (0, 6) := by decide +kernel
theorem xr34 : zar 34 = (1, 5) := by decide +kernel
theorem xr35 : zar 35 = (1, 5) := by decide +kernel
theorem xr36 : zar 36 = (1, 5) := by decide +kernel
theorem xr38 : zar 38 = (1, 5) := by decide +kernel
theorem xr33 : zar 33 = (1, 5) := by decide +kernel
abbrev yRT : Option FieldType := some (.object "LentTools$Rule")
abbrev yMR : yM := [(0, 0, 1), (2, 2, 0), (2, 2, 1), (2, 2, 2), (2, 2, 3), (2, 2, 4), (6, 6, 1), (6, 6, 3), (6, 6, 4), (6, 6, 5), (6, 6, 6), (6, 6, 7), (6, 6, 8), (6, 6, 9), (7, 8, 1000)]
def yJ (hp0 hp : zHp) : Prop := (yH0 hp ∧ yEA yAr hp) ∧ yrd hp 2 0 = some (.ref 1) ∧ yF yMR hp0 hp
section YRDR
variable {hp hp0 : zHp} {ev : zEv} {d nL : Nat} {rt : Option FieldType} {cd : List (Option zEn)} {r : zRe} {pc : Nat} {lv : List (Nat × Value)}
theorem h_gi {i len a b ix : Nat} {rest : List Value} {v0 : Value} (H : yH0 hp) (hq : zg cd pc = some (.getfield i, len, a, b, v0)) (ha : ¬ a = 100) (ht : xti ix a b = true) (K : zR ev d nL rt cd (pc + 3, lv, .int ((xof hp).1 ix b) :: rest) hp r) : zR ev d nL rt cd (pc, lv, .ref ix :: rest) hp r := by
  obtain ⟨h1, h2, fs, x, h3, h4⟩ := xti_ok H ht
  have e : (xof hp).1 ix b = x := by
    unfold xof
    dsimp only
    rw [h3]
    dsimp only
    rw [h4]
  rw [e] at K
  exact r_get hq ha ⟨h1, h2⟩ h3 h4 K
theorem h_gr {i len a b ix c : Nat} {rest : List Value} {v0 : Value} (H : yH0 hp) (hq : zg cd pc = some (.getfield i, len, a, b, v0)) (ha : ¬ a = 100) (ht : xtr ix a b c = true) (K : zR ev d nL rt cd (pc + 3, lv, .ref c :: rest) hp r) : zR ev d nL rt cd (pc, lv, .ref ix :: rest) hp r := by
  obtain ⟨h1, h2, fs, h3, h4⟩ := xtr_ok H ht
  exact r_get hq ha ⟨h1, h2⟩ h3 h4 K
theorem h_kd (H : yH0 hp) {ix a : Nat} (h : xto ix a = true) : zKd ix hp = some a := by
  have q := xkd (s := xof hp) H h
  rw [xW_of] at q
  exact q
/-- isSound -/
theorem h_snd (H : yH0 hp) (hd : 1 ≤ d) : zCan d 51 [.ref 2] hp (some (.int (if (xof hp).1 2 4 = 0 then 1 else 0)), hp) := by
  obtain ⟨e, rfl⟩ : ∃ e, d = e + 1 := ⟨d - 1, by omega⟩
  refine zCan_body (nL := 1) (rt := some .boolean) (cd := zc51) xg51 ⟨Nat.le_of_ble_eq_true rfl, by decide⟩ (Nat.le_refl _) ?_
  refine q_lr (k := 1) (i := 0) (x := 2) (q := (.aload_n 0, 1, 0, 0, .null)) rfl (fun _ => rfl) rfl ?_
  refine h_gi H (ix := 2) (pc := 1) rfl (by decide) (by decide) ?_
  refine r_if (len := 3) (a := 11) (b := 0) (v0 := .null) (cn := .ne) (off := 7) rfl (fun c => ?_) (fun c => ?_)
  · have c : (xof hp).1 2 4 ≠ 0 := znet c
    rw [if_neg c]
    refine r_s (fr' := (12, lv_args 0 [.ref 2], [.int 0])) (hp' := hp) (q := (.iconst 0, 1, 0, 0, .null)) rfl (fun _ => rfl) (Nat.le_refl _) ?_
    exact q_ri (q := (.ireturn, 1, 0, 0, .null)) rfl (fun _ => rfl) rfl rfl
  · have c : (xof hp).1 2 4 = 0 := zne c
    rw [if_pos c]
    refine r_s (fr' := (8, lv_args 0 [.ref 2], [.int 1])) (hp' := hp) (q := (.iconst 1, 1, 0, 0, .null)) rfl (fun _ => rfl) (Nat.le_refl _) ?_
    refine r_s (fr' := (12, lv_args 0 [.ref 2], [.int 1])) (hp' := hp) (q := (.goto 4, 3, 12, 0, .null)) rfl (fun _ => rfl) (Nat.le_refl _) ?_
    exact q_ri (q := (.ireturn, 1, 0, 0, .null)) rfl (fun _ => rfl) rfl rfl
/-- what the readers begin with -/
abbrev yPR : yS := (1, [(0, 0, 2147483647)], [], [(yc 2, yc 0, (2, yc 1, yc 0)), (yc 2, yc 4, (0, (1, 0, 0), yc 0))], [(0, (2, yc 6, yc 0)), (1, (2, yc 2, yc 0))], [])
theorem yrfc {n : Nat} {r : Nat → Int} {c : Nat} : yv n r ((2, yc c, yc 0) : yV) (.ref c) := by
  refine Or.inr ⟨?_, ?_⟩
  · show 0 ≤ yev r (yc c)
    rw [yev_c]
    omega
  · show Value.ref c = .ref (yev r (yc c)).toNat
    rw [yev_c]
    rfl
theorem yPR_ok (H : yH0 hp) (h1 : yrd hp 2 0 = some (.ref 1)) : yG hp (fun _ => ((xof hp).1 2 4).toInt) yPR (lv_args 0 [.ref 6, .ref 2]) [] := by
  have b := xT_of H 2 4 (0, 4000) rfl
  have b1 : (0 : Int) ≤ ((xof hp).1 2 4).toInt := b.1
  have b2 : ((xof hp).1 2 4).toInt ≤ 4000 := b.2
  obtain ⟨-, -, fs, x, h3, h4⟩ := xti_ok H (show xti 2 6 4 = true by decide)
  have ex : (xof hp).1 2 4 = x := by
    unfold xof
    dsimp only
    rw [h3]
    dsimp only
    rw [h4]
  have rx : yrd hp 2 4 = some (.int x) := by
    unfold yrd
    rw [h3]
    exact h4
  refine ⟨fun e he => ?_, (fun y hy => by cases hy), fun t ht => ?_, fun i a ha => ?_, trivial⟩
  · rcases List.mem_cons.mp he with rfl | he
    · exact ⟨by decide, b1, by show ((xof hp).1 2 4).toInt ≤ 2147483647; omega⟩
    · cases he
  · rcases List.mem_cons.mp ht with rfl | ht
    · refine ⟨⟨Or.inl rfl, Or.inl rfl, Or.inl rfl, Or.inl rfl⟩, ?_, .ref 1, ?_, yrfc⟩
      · show 0 ≤ yev _ (yc 2)
        rw [yev_c]
        decide
      · show yrd hp (yev _ (yc 2)).toNat (yev _ (yc 0)) = _
        rw [yev_c, yev_c]
        exact h1
    · rcases List.mem_cons.mp ht with rfl | ht
      · refine ⟨⟨Or.inl rfl, Or.inl rfl, Or.inr (by decide), Or.inl rfl⟩, ?_, .int x, ?_, yvI (by show x.toInt = 1 * ((xof hp).1 2 4).toInt + 0; rw [ex]; omega)⟩
        · show 0 ≤ yev _ (yc 2)
          rw [yev_c]
          decide
        · show yrd hp (yev _ (yc 2)).toNat (yev _ (yc 4)) = _
          rw [yev_c, yev_c]
          exact rx
      · cases ht
  · have m := yld_mem ha
    have m : (i, a) ∈ [((0 : Nat), ((2, yc 6, yc 0) : yV)), (1, (2, yc 2, yc 0))] := m
    simp only [List.mem_cons, List.mem_nil_iff, or_false, Prod.mk.injEq] at m
    rcases m with ⟨rfl, rfl⟩ | ⟨rfl, rfl⟩
    · exact ⟨⟨Or.inl rfl, Or.inl rfl⟩, .ref 6, rfl, yrfc⟩
    · exact ⟨⟨Or.inl rfl, Or.inl rfl⟩, .ref 2, rfl, yrfc⟩
theorem yat_r {r : Nat → Int} {q : yS} {st : List Value} {c k : Nat} {j : Int} (g : yG hp r q lv st) (m : (yc c, yc j, ((2, yc k, yc 0) : yV)) ∈ q.2.2.2.1) : yrd hp c j = some (.ref k) := by
  obtain ⟨-, k1, w, k2, k3⟩ := g.2.2.1 _ m
  have k2 : yrd hp (yev r (yc c)).toNat (yev r (yc j)) = some w := k2
  rw [yev_c, yev_c, Int.toNat_natCast] at k2
  rcases k3 with ⟨k3, -⟩ | ⟨-, k3⟩
  · have k3 : yev r (yc k) = -1 := k3
    rw [yev_c] at k3
    omega
  · have k3 : w = .ref (yev r (yc k)).toNat := k3
    rw [yev_c] at k3
    rw [k2, k3]
    rfl
theorem h_read {sp : ySp} {n : Nat} (ts : yTs (yEA yAr) n sp) (hn : n ≤ d) (hP : sp.2.2.1 = yPR) (hQ : ∀ q ∈ sp.2.2.2.1, (yc 2, yc 0, ((2, yc 1, yc 0) : yV)) ∈ q.2.2.2.1 ∧ q.2.2.2.2.2 = []) (hM : yleM sp.2.2.2.2 yMR = true) (h2 : 2 ≤ sp.2.1) (J : yJ hp0 hp) : ∃ hp2, yJ hp0 hp2 ∧ hp.1 ≤ hp2.1 ∧ zCan d sp.1 [.ref 6, .ref 2] hp (none, hp2) := by
  obtain ⟨x, x1, x2, x3, q, hq, r2, a1, a2, g2⟩ := ts d hn hp (fun _ => ((xof hp).1 2 4).toInt) [.ref 6, .ref 2] J.1 (by rw [hP]; exact yPR_ok J.1.1 J.2.1) h2 (by rw [hP]; rfl)
  obtain ⟨m1, m2⟩ := hQ q hq
  have e := g2.2.2.2.2
  rw [m2] at e
  obtain ⟨x0, xh⟩ := x
  have e0 : x0 = none := by
    cases x0 with
    | none => rfl
    | some v => exact e.elim
  subst e0
  exact ⟨xh, ⟨x2, yat_r g2 m1, yF_trans J.2.2 (yF_le hM x3)⟩, x3.1, x1⟩
theorem yrr_loop (hd : 8 ≤ d) : ∀ (n : Nat) {hp : zHp} {lv : List (Nat × Value)} {i : Int32}, yJ hp0 hp → 0 ≤ i.toInt → i.toInt ≤ 401 → 401 - i.toInt < (n : Int) → zld lv 0 = some (.ref 6) → zld lv 1 = some (.ref 2) → zld lv 2 = some (.int i) → ∃ hp2 lv2, yJ hp0 hp2 ∧ hp.1 ≤ hp2.1 ∧ zld lv2 0 = some (.ref 6) ∧ zld lv2 1 = some (.ref 2) ∧ ∀ r, zR none d 3 yRT zc33 (117, lv2, []) hp2 r → zR none d 3 yRT zc33 (37, lv, []) hp r
  | 0, hp, lv, i, J, i0, i1, hi, l0, l1, l2 => by omega
  | n + 1, hp, lv, i, J, i0, i1, hi, l0, l1, l2 => by
    have head : ∀ {r : zRe}, zR none d 3 yRT zc33 (41, lv, [.int 400, .int i]) hp r → zR none d 3 yRT zc33 (37, lv, []) hp r := by
      intro r K
      refine q_li (k := 1) (i := 2) (q := (.iload_n 2, 1, 0, 0, .null)) rfl (fun _ => rfl) l2 ?_
      exact r_s (fr' := (41, lv, [.int 400, .int i])) (hp' := hp) (q := (.sipush 400, 3, 0, 0, .null)) rfl (fun _ => rfl) (Nat.le_refl _) K
    by_cases c1 : zcmp .gt i 400 = true
    · exact ⟨hp, lv, J, Nat.le_refl _, l0, l1, fun r K => head (r_ifc (len := 3) (a := 117) (b := 0) (v0 := .null) (cn := .gt) (off := 76) rfl (fun _ => K) (fun c => by rw [c1] at c; cases c))⟩
    · have c1f : zcmp .gt i 400 = false := by
        cases h : zcmp .gt i 400 with
        | true => exact absurd h c1
        | false => rfl
      have c1i : ¬ (400 : Int) < i.toInt := zf c1f
      by_cases c2 : (xof hp).1 6 8 = 4
      · refine ⟨hp, lv, J, Nat.le_refl _, l0, l1, fun r K => head (r_ifc (len := 3) (a := 117) (b := 0) (v0 := .null) (cn := .gt) (off := 76) rfl (fun c => absurd c c1) (fun _ => ?_))⟩
        refine q_lr (k := 1) (i := 0) (q := (.aload_n 0, 1, 0, 0, .null)) rfl (fun _ => rfl) l0 ?_
        refine h_gi J.1.1 (ix := 6) (pc := 45) rfl (by decide) (by decide) ?_
        refine r_s (fr' := (49, lv, [.int 4, .int ((xof hp).1 6 8)])) (hp' := hp) (q := (.iconst 4, 1, 0, 0, .null)) rfl (fun _ => rfl) (Nat.le_refl _) ?_
        exact r_ifc (len := 3) (a := 117) (b := 0) (v0 := .null) (cn := .eq) (off := 68) rfl (fun _ => K) (fun c => absurd c2 (zneq c))
      · have head2 : ∀ {r : zRe}, zR none d 3 yRT zc33 (56, lv, [.int (if (xof hp).1 2 4 = 0 then 1 else 0)]) hp r → zR none d 3 yRT zc33 (37, lv, []) hp r := by
          intro r K
          refine head (r_ifc (len := 3) (a := 117) (b := 0) (v0 := .null) (cn := .gt) (off := 76) rfl (fun c => absurd c c1) (fun _ => ?_))
          refine q_lr (k := 1) (i := 0) (q := (.aload_n 0, 1, 0, 0, .null)) rfl (fun _ => rfl) l0 ?_
          refine h_gi J.1.1 (ix := 6) (pc := 45) rfl (by decide) (by decide) ?_
          refine r_s (fr' := (49, lv, [.int 4, .int ((xof hp).1 6 8)])) (hp' := hp) (q := (.iconst 4, 1, 0, 0, .null)) rfl (fun _ => rfl) (Nat.le_refl _) ?_
          refine r_ifc (len := 3) (a := 117) (b := 0) (v0 := .null) (cn := .eq) (off := 68) rfl (fun c => absurd (zeq c) c2) (fun _ => ?_)
          refine q_lr (k := 1) (i := 1) (q := (.aload_n 1, 1, 0, 0, .null)) rfl (fun _ => rfl) l1 ?_
          exact r_call (ix := 2) (as := []) (rest := []) (rv := some (.int (if (xof hp).1 2 4 = 0 then 1 else 0))) (hp' := hp) (pc := 53) rfl xr51 rfl rfl rfl (h_kd J.1.1 (by decide)) (Nat.le_of_ble_eq_true rfl) (h_snd J.1.1 (by omega)) (Nat.le_refl _) K
        by_cases c3 : (xof hp).1 2 4 = 0
        · rw [if_pos c3] at head2
          have step : ∃ hp2, yJ hp0 hp2 ∧ hp.1 ≤ hp2.1 ∧ ∀ r, zR none d 3 yRT zc33 (111, lv, []) hp2 r → zR none d 3 yRT zc33 (59, lv, []) hp r := by
            have hE : yEF (yEA yAr) yFP := yEA_F yAr_F
            by_cases d0 : (xof hp).1 6 8 = 0
            · obtain ⟨hp2, J2, n2, z⟩ := h_read (d := d) (yt276 hE) (by omega) rfl (fun q hq => by
                rcases List.mem_cons.mp hq with rfl | hq
                · exact ⟨List.mem_of_getElem? (i := 0) rfl, rfl⟩
                · cases hq) (by decide) (by decide) J
              refine ⟨hp2, J2, n2, fun r K => ?_⟩
              refine q_lr (k := 1) (i := 0) (q := (.aload_n 0, 1, 0, 0, .null)) rfl (fun _ => rfl) l0 ?_
              refine h_gi J.1.1 (ix := 6) (pc := 60) rfl (by decide) (by decide) ?_
              refine r_if (len := 3) (a := 74) (b := 0) (v0 := .null) (cn := .ne) (off := 11) rfl (fun c => absurd d0 (znet c)) (fun _ => ?_)
              refine q_lr (k := 1) (i := 0) (q := (.aload_n 0, 1, 0, 0, .null)) rfl (fun _ => rfl) l0 ?_
              refine q_lr (k := 1) (i := 1) (q := (.aload_n 1, 1, 0, 0, .null)) rfl (fun _ => rfl) l1 ?_
              refine r_call (ix := 6) (as := [.ref 2]) (rest := []) (rv := none) (hp' := hp2) (pc := 68) rfl xr34 rfl rfl rfl (h_kd J.1.1 (by decide)) (Nat.le_of_ble_eq_true rfl) z n2 ?_
              exact r_s (fr' := (111, lv, [])) (hp' := hp2) (q := (.goto 40, 3, 111, 0, .null)) rfl (fun _ => rfl) (Nat.le_refl _) K
            · have h74 : ∀ {r : zRe}, zR none d 3 yRT zc33 (74, lv, []) hp r → zR none d 3 yRT zc33 (59, lv, []) hp r := by
                intro r K
                refine q_lr (k := 1) (i := 0) (q := (.aload_n 0, 1, 0, 0, .null)) rfl (fun _ => rfl) l0 ?_
                refine h_gi J.1.1 (ix := 6) (pc := 60) rfl (by decide) (by decide) ?_
                exact r_if (len := 3) (a := 74) (b := 0) (v0 := .null) (cn := .ne) (off := 11) rfl (fun _ => K) (fun c => absurd (zne c) d0)
              by_cases d1 : (xof hp).1 6 8 = 1
              · obtain ⟨hp2, J2, n2, z⟩ := h_read (d := d) (yt576 hE) (by omega) rfl (fun q hq => by
                  rcases List.mem_cons.mp hq with rfl | hq
                  · exact ⟨List.mem_of_getElem? (i := 0) rfl, rfl⟩
                  · cases hq) (by decide) (by decide) J
                refine ⟨hp2, J2, n2, fun r K => h74 ?_⟩
                refine q_lr (k := 1) (i := 0) (q := (.aload_n 0, 1, 0, 0, .null)) rfl (fun _ => rfl) l0 ?_
                refine h_gi J.1.1 (ix := 6) (pc := 75) rfl (by decide) (by decide) ?_
                refine r_s (fr' := (79, lv, [.int 1, .int ((xof hp).1 6 8)])) (hp' := hp) (q := (.iconst 1, 1, 0, 0, .null)) rfl (fun _ => rfl) (Nat.le_refl _) ?_
                refine r_ifc (len := 3) (a := 90) (b := 0) (v0 := .null) (cn := .ne) (off := 11) rfl (fun c => absurd d1 (znet c)) (fun _ => ?_)
                refine q_lr (k := 1) (i := 0) (q := (.aload_n 0, 1, 0, 0, .null)) rfl (fun _ => rfl) l0 ?_
                refine q_lr (k := 1) (i := 1) (q := (.aload_n 1, 1, 0, 0, .null)) rfl (fun _ => rfl) l1 ?_
                refine r_call (ix := 6) (as := [.ref 2]) (rest := []) (rv := none) (hp' := hp2) (pc := 84) rfl xr35 rfl rfl rfl (h_kd J.1.1 (by decide)) (Nat.le_of_ble_eq_true rfl) z n2 ?_
                exact r_s (fr' := (111, lv, [])) (hp' := hp2) (q := (.goto 24, 3, 111, 0, .null)) rfl (fun _ => rfl) (Nat.le_refl _) K
              · have h90 : ∀ {r : zRe}, zR none d 3 yRT zc33 (90, lv, []) hp r → zR none d 3 yRT zc33 (59, lv, []) hp r := by
                  intro r K
                  refine h74 ?_
                  refine q_lr (k := 1) (i := 0) (q := (.aload_n 0, 1, 0, 0, .null)) rfl (fun _ => rfl) l0 ?_
                  refine h_gi J.1.1 (ix := 6) (pc := 75) rfl (by decide) (by decide) ?_
                  refine r_s (fr' := (79, lv, [.int 1, .int ((xof hp).1 6 8)])) (hp' := hp) (q := (.iconst 1, 1, 0, 0, .null)) rfl (fun _ => rfl) (Nat.le_refl _) ?_
                  exact r_ifc (len := 3) (a := 90) (b := 0) (v0 := .null) (cn := .ne) (off := 11) rfl (fun _ => K) (fun c => absurd (zne c) d1)
                by_cases d2 : (xof hp).1 6 8 = 2
                · obtain ⟨hp2, J2, n2, z⟩ := h_read (d := d) (yt575 hE) (by omega) rfl (fun q hq => by
                    rcases List.mem_cons.mp hq with rfl | hq
                    · exact ⟨List.mem_of_getElem? (i := 2) rfl, rfl⟩
                    · cases hq) (by decide) (by decide) J
                  refine ⟨hp2, J2, n2, fun r K => h90 ?_⟩
                  refine q_lr (k := 1) (i := 0) (q := (.aload_n 0, 1, 0, 0, .null)) rfl (fun _ => rfl) l0 ?_
                  refine h_gi J.1.1 (ix := 6) (pc := 91) rfl (by decide) (by decide) ?_
                  refine r_s (fr' := (95, lv, [.int 2, .int ((xof hp).1 6 8)])) (hp' := hp) (q := (.iconst 2, 1, 0, 0, .null)) rfl (fun _ => rfl) (Nat.le_refl _) ?_
                  refine r_ifc (len := 3) (a := 106) (b := 0) (v0 := .null) (cn := .ne) (off := 11) rfl (fun c => absurd d2 (znet c)) (fun _ => ?_)
                  refine q_lr (k := 1) (i := 0) (q := (.aload_n 0, 1, 0, 0, .null)) rfl (fun _ => rfl) l0 ?_
                  refine q_lr (k := 1) (i := 1) (q := (.aload_n 1, 1, 0, 0, .null)) rfl (fun _ => rfl) l1 ?_
                  refine r_call (ix := 6) (as := [.ref 2]) (rest := []) (rv := none) (hp' := hp2) (pc := 100) rfl xr36 rfl rfl rfl (h_kd J.1.1 (by decide)) (Nat.le_of_ble_eq_true rfl) z n2 ?_
                  exact r_s (fr' := (111, lv, [])) (hp' := hp2) (q := (.goto 8, 3, 111, 0, .null)) rfl (fun _ => rfl) (Nat.le_refl _) K
                · obtain ⟨hp2, J2, n2, z⟩ := h_read (d := d) (yt643 hE) (by omega) rfl (fun q hq => by
                    rcases List.mem_cons.mp hq with rfl | hq
                    · exact ⟨List.mem_of_getElem? (i := 0) rfl, rfl⟩
                    · cases hq) (by decide) (by decide) J
                  refine ⟨hp2, J2, n2, fun r K => h90 ?_⟩
                  refine q_lr (k := 1) (i := 0) (q := (.aload_n 0, 1, 0, 0, .null)) rfl (fun _ => rfl) l0 ?_
                  refine h_gi J.1.1 (ix := 6) (pc := 91) rfl (by decide) (by decide) ?_
                  refine r_s (fr' := (95, lv, [.int 2, .int ((xof hp).1 6 8)])) (hp' := hp) (q := (.iconst 2, 1, 0, 0, .null)) rfl (fun _ => rfl) (Nat.le_refl _) ?_
                  refine r_ifc (len := 3) (a := 106) (b := 0) (v0 := .null) (cn := .ne) (off := 11) rfl (fun _ => ?_) (fun c => absurd (zne c) d2)
                  refine q_lr (k := 1) (i := 0) (q := (.aload_n 0, 1, 0, 0, .null)) rfl (fun _ => rfl) l0 ?_
                  refine q_lr (k := 1) (i := 1) (q := (.aload_n 1, 1, 0, 0, .null)) rfl (fun _ => rfl) l1 ?_
                  exact r_call (ix := 6) (as := [.ref 2]) (rest := []) (rv := none) (hp' := hp2) (pc := 108) rfl xr38 rfl rfl rfl (h_kd J.1.1 (by decide)) (Nat.le_of_ble_eq_true rfl) z n2 K
          obtain ⟨hp2, J2, n2, st⟩ := step
          have e5 : (i + Int32.ofInt 1).toInt = i.toInt + 1 := xa1 (by show _ ≤ _ + (1 : Int); omega) (by show _ + (1 : Int) ≤ _; omega)
          obtain ⟨hp3, lv3, J3, n3, m0, m1, k3⟩ := yrr_loop hd n (hp := hp2) (lv := zs1 lv 2 (.int (i + Int32.ofInt 1))) (i := i + Int32.ofInt 1) J2 (by omega) (by omega) (by omega) (x_o1 l0 rfl rfl) (x_o1 l1 rfl rfl) (zs1_ld _ _ _)
          refine ⟨hp3, lv3, J3, Nat.le_trans n2 n3, m0, m1, fun r K => head2 (r_if (len := 3) (a := 117) (b := 0) (v0 := .null) (cn := .eq) (off := 61) rfl (fun c => absurd (zeq c) (by decide)) (fun _ => st r ?_))⟩
          refine q_inc (i := 2) (n := 1) (q := (.iinc 2 1, 3, 0, 0, .null)) rfl (fun _ => rfl) l2 (by decide) ?_
          exact r_s (fr' := (37, zs1 lv 2 (.int (i + Int32.ofInt 1)), [])) (hp' := hp2) (q := (.goto (-77), 3, 37, 0, .null)) rfl (fun _ => rfl) (Nat.le_refl _) (k3 r K)
        · rw [if_neg c3] at head2
          exact ⟨hp, lv, J, Nat.le_refl _, l0, l1, fun r K => head2 (r_if (len := 3) (a := 117) (b := 0) (v0 := .null) (cn := .eq) (off := 61) rfl (fun _ => K) (fun c => absurd rfl (zneq c)))⟩
end YRDR
