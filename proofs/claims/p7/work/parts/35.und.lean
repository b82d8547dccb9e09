/-! undo of the reference, from its two kinds. -/
theorem yend1 {hp : zHp} {r : Nat → Int} {q : yS} {l a : yL} {s : List Value} (g : yG hp r q [] s) (hq : q.2.2.2.2.2 = [((0, l, a) : yV)]) : ∃ y : Int32, s = [.int y] := by
  have g5 := g.2.2.2.2
  rw [hq] at g5
  obtain ⟨v, m, rfl, ⟨-, hv⟩, gm⟩ := ystk_cons g5
  have e := ystk_nil gm
  subst e
  obtain ⟨y, rfl, -⟩ := yvI' rfl hv
  exact ⟨y, rfl⟩
/-- an end that says nothing but that an int is answered -/
theorem yany1 {hp : zHp} {y : Int32} : yG hp (fun _ => y.toInt) (1, [(0, -2147483648, 2147483647)], [], [], [], [((0, (1, 0, 0), yc 0) : yV)]) [] [.int y] := by
  refine ⟨fun e he => ?_, (fun x hx => by cases hx), (fun t ht => by cases ht), (fun i a e => by cases e), ⟨⟨Or.inr (by decide), Or.inl rfl⟩, yvI (by show y.toInt = 1 * y.toInt + 0; omega)⟩, trivial⟩
  rcases List.mem_cons.mp he with rfl | he
  · have := y32 y
    exact ⟨by decide, this.1, Int.le_of_lt_add_one this.2⟩
  · cases he
theorem yu81 : yty 81 = (1, 0, 2480, 9, []) := rfl
theorem yu9 (k : Nat) : yel 9 (124 * k) = (0, 6) ∧ yel 9 (124 * k + 2) = (0, 6) := by
  have e1 : 124 * k % 124 = 0 := by omega
  have e2 : (124 * k + 2) % 124 = 2 := by omega
  constructor
  · show (if 124 * k % 124 = 0 ∨ 124 * k % 124 = 2 ∨ 124 * k % 124 = 3 then _ else _) = _
    rw [if_pos (Or.inl e1)]
  · show (if (124 * k + 2) % 124 = 0 ∨ (124 * k + 2) % 124 = 2 ∨ (124 * k + 2) % 124 = 3 then _ else _) = _
    rw [if_pos (Or.inr (Or.inl e2))]
theorem yundo {A : zHp → Prop} (hA : yEF A yFA) : yTs (yEA A) 1 ys246 := by
  intro d hd hp r as H g hl hlen
  have g : yG hp r (0, [], [], [], [(0, (2, yc 70, yc 0))], []) (lv_args 0 as) [] := g
  obtain ⟨r2, -, -, -, g2⟩ := yplc_ok g H.1 (yc 70) (yc 25)
  have g2 : yG hp r2 (1, [(0, 0, 20)], [], [(yc 70, yc 25, (0, (1, 0, 0), yc 0))], [(0, (2, yc 70, yc 0))], []) (lv_args 0 as) [] := g2
  obtain ⟨x, hx, ex⟩ := yat (c := 70) (j := 25) g2 List.mem_cons_self
  have hb := g2.1 _ List.mem_cons_self
  have hb1 : 0 ≤ r2 0 := hb.2.1
  have hb2 : r2 0 ≤ 20 := hb.2.2
  have ex : x.toInt = r2 0 := ex.trans (by show 1 * r2 0 + 0 = _; omega)
  have hlv : ∀ (n : Nat) (r3 : Nat → Int), yGl hp.1 r3 n [(0, (2, yc 70, yc 0))] (lv_args 0 as) := by
    intro n r3 i a ha
    obtain ⟨-, w, w1, w2⟩ := g.2.2.2.1 i a ha
    have m := yld_mem ha
    have m : (i, a) ∈ [((0 : Nat), ((2, yc 70, yc 0) : yV))] := m
    simp only [List.mem_cons, List.mem_nil_iff, or_false, Prod.mk.injEq] at m
    obtain ⟨rfl, rfl⟩ := m
    refine ⟨⟨Or.inl rfl, Or.inl rfl⟩, w, w1, ?_⟩
    have e1 : yev r3 (yc 70) = yev r (yc 70) := by rw [yev_c, yev_c]
    unfold yv at w2 ⊢
    dsimp only at w2 ⊢
    rw [e1]
    exact w2
  by_cases h0 : r2 0 = 0
  · have gP : yG hp r2 ys245.2.2.1 (lv_args 0 as) [] := by
      refine ⟨(fun e he => by cases he), (fun y hy => by cases hy), fun t ht => ?_, hlv _ _, trivial⟩
      have ht : t ∈ [((yc 70, yc 25, (0, yc 0, yc 0)) : yK)] := ht
      rcases List.mem_cons.mp ht with rfl | ht
      · refine ⟨⟨Or.inl rfl, Or.inl rfl, Or.inl rfl, Or.inl rfl⟩, ?_, .int x, ?_, yvI (by rw [yev_c]; omega)⟩
        · show 0 ≤ yev r2 (yc 70)
          rw [yev_c]
          decide
        · show yrd hp (yev r2 (yc 70)).toNat (yev r2 (yc 25)) = _
          rw [yev_c, yev_c]
          exact hx
      · cases ht
    obtain ⟨z, z1, z2, z3, q, hq, r3, a1, a2, g3⟩ := yt245 d hd hp r2 as ⟨H.1, trivial⟩ gP hl hlen
    have hq : q ∈ [((0, [], [], [(yc 70, yc 25, (0, yc 0, yc 0))], [], [(0, yc (-1), yc 0)]) : yS)] := hq
    rcases List.mem_cons.mp hq with rfl | hq
    · obtain ⟨y, hy⟩ := yend1 g3 rfl
      have hE := H.2
      have nf : ∀ c j, yinM ys245.2.2.2.2 c j = false := fun _ _ => rfl
      refine ⟨z, z1, ⟨z2.1, ⟨yP_F z3 (nf _ _) (nf _ _) hE.1.1, yP_F z3 (nf _ _) (nf _ _) hE.1.2.1, fun k hk => yP_F z3 (nf _ _) (nf _ _) (hE.1.2.2.1 k hk), fun k hk => yP_F z3 (nf _ _) (nf _ _) (hE.1.2.2.2 k hk)⟩, yA_F hA (M := ys245.2.2.2.2) rfl (fun _ _ _ => rfl) z3 hE.2⟩, yF_le (by decide) z3, _, List.mem_cons_self, (fun _ => y.toInt), fun s hs => absurd hs (Nat.not_lt_zero _), Nat.zero_le _, ?_⟩
      rw [hy]
      exact yany1
    · cases hq
  · obtain ⟨k, hk⟩ : ∃ k : Nat, r2 0 = (k : Int) + 1 := ⟨(r2 0 - 1).toNat, by omega⟩
    have kl : k < 20 := by omega
    have h81 := H.1.2.2 81 (Nat.lt_of_lt_of_le (by decide) H.1.1)
    rw [yu81] at h81
    obtain ⟨-, f, ef, tf⟩ : (0 < 3 ∧ ∃ f : Nat → Int32, hp.2 81 = .inl (0, 2480, .inl f) ∧ ∀ j, j < 2480 → (yel 9 j).1 ≤ (f j).toInt ∧ (f j).toInt ≤ (yel 9 j).2) := h81
    have t0 := tf (124 * k) (by omega)
    have t2 := tf (124 * k + 2) (by omega)
    rw [(yu9 k).1] at t0
    rw [(yu9 k).2] at t2
    have t01 : 0 ≤ (f (124 * k)).toInt := t0.1
    have t02 : (f (124 * k)).toInt ≤ 6 := t0.2
    have t21 : 0 ≤ (f (124 * k + 2)).toInt := t2.1
    have t22 : (f (124 * k + 2)).toInt ≤ 6 := t2.2
    have rd0 : yrd hp 81 ((124 * k : Nat) : Int) = some (.int (f (124 * k))) := by
      rw [yrd_r ef (by omega), Int.toNat_natCast]
    have rd2 : yrd hp 81 ((124 * k + 2 : Nat) : Int) = some (.int (f (124 * k + 2))) := by
      rw [yrd_r ef (by omega), Int.toNat_natCast]
    generalize hr4 : (fun s : Nat => if s = 0 then (k : Int) + 1 else if s = 1 then (f (124 * k)).toInt else (f (124 * k + 2)).toInt) = r4
    have v0 : r4 0 = (k : Int) + 1 := by rw [← hr4]; rfl
    have v1 : r4 1 = (f (124 * k)).toInt := by rw [← hr4]; rfl
    have v2 : r4 2 = (f (124 * k + 2)).toInt := by rw [← hr4]; rfl
    have gP : yG hp r4 ys244.2.2.1 (lv_args 0 as) [] := by
      refine ⟨fun e he => ?_, (fun y hy => by cases hy), fun t ht => ?_, hlv _ _, trivial⟩
      · have he : e ∈ [((0 : Nat), (1 : Int), (20 : Int)), (1, 0, 6), (2, 0, 6)] := he
        simp only [List.mem_cons, List.mem_nil_iff, or_false] at he
        rcases he with rfl | rfl | rfl
        · exact ⟨by decide, by show 1 ≤ r4 0; omega, by show r4 0 ≤ 20; omega⟩
        · exact ⟨by decide, by show 0 ≤ r4 1; omega, by show r4 1 ≤ 6; omega⟩
        · exact ⟨by decide, by show 0 ≤ r4 2; omega, by show r4 2 ≤ 6; omega⟩
      · have ht : t ∈ [((yc 70, yc 25, (0, (1, 0, 0), yc 0)) : yK), (yc 81, (124, 0, (-124)), (0, (1, 1, 0), yc 0)), (yc 81, (124, 0, (-122)), (0, (1, 2, 0), yc 0))] := ht
        simp only [List.mem_cons, List.mem_nil_iff, or_false] at ht
        have w3 : ∀ (a c : Int) (s : Nat), s < 3 → yw 3 (a, s, c) := fun a c s h => Or.inr h
        rcases ht with rfl | rfl | rfl
        · refine ⟨⟨Or.inl rfl, Or.inl rfl, w3 _ _ _ (by decide), Or.inl rfl⟩, ?_, .int x, ?_, yvI (by show x.toInt = 1 * r4 0 + 0; omega)⟩
          · show 0 ≤ yev r4 (yc 70)
            rw [yev_c]
            decide
          · show yrd hp (yev r4 (yc 70)).toNat (yev r4 (yc 25)) = _
            rw [yev_c, yev_c]
            exact hx
        · refine ⟨⟨Or.inl rfl, w3 _ _ _ (by decide), w3 _ _ _ (by decide), Or.inl rfl⟩, ?_, .int (f (124 * k)), ?_, yvI (by show _ = 1 * r4 1 + 0; omega)⟩
          · show 0 ≤ yev r4 (yc 81)
            rw [yev_c]
            decide
          · show yrd hp (yev r4 (yc 81)).toNat (124 * r4 0 + (-124)) = _
            rw [yev_c, show 124 * r4 0 + (-124) = ((124 * k : Nat) : Int) by omega]
            exact rd0
        · refine ⟨⟨Or.inl rfl, w3 _ _ _ (by decide), w3 _ _ _ (by decide), Or.inl rfl⟩, ?_, .int (f (124 * k + 2)), ?_, yvI (by show _ = 1 * r4 2 + 0; omega)⟩
          · show 0 ≤ yev r4 (yc 81)
            rw [yev_c]
            decide
          · show yrd hp (yev r4 (yc 81)).toNat (124 * r4 0 + (-122)) = _
            rw [yev_c, show 124 * r4 0 + (-122) = ((124 * k + 2 : Nat) : Int) by omega]
            exact rd2
    obtain ⟨z, z1, z2, z3, q, hq, r3, a1, a2, g3⟩ := yt244 d hd hp r4 as ⟨H.1, trivial⟩ gP hl hlen
    have hq : q ∈ [((3, [], [], [(yc 81, (124, 0, (-124)), (0, (1, 1, 0), yc 0)), (yc 81, (124, 0, (-122)), (0, (1, 2, 0), yc 0)), (yc 70, yc 25, (0, (1, 0, (-1)), yc 0)), (yc 80, yc 0, (0, (1, 1, 0), yc 0)), (yc 80, yc 2, (0, (1, 2, 0), yc 0))], [], [(0, (1, 0, (-1)), yc 0)]) : yS)] := hq
    rcases List.mem_cons.mp hq with rfl | hq
    · obtain ⟨y, hy⟩ := yend1 g3 rfl
      have hE := H.2
      have u1 : r3 1 = r4 1 := a1 1 (by decide)
      have u2 : r3 2 = r4 2 := a1 2 (by decide)
      have hQ : yQ r3 (1, 1, 0) (1, 2, 0) := by
        intro h
        have h : 0 < 1 * r3 2 + 0 := h
        show 0 < 1 * r3 1 + 0
        have := hE.1.2.2.1 k kl _ _ rd0 rd2 (by omega)
        omega
      have nf : ∀ (c : Nat) (j : Int), c = 81 ∨ c = 84 ∨ c = 85 → yinM ys244.2.2.2.2 c j = false := by
        intro c j hc
        rcases hc with rfl | rfl | rfl <;> rfl
      refine ⟨z, z1, ⟨z2.1, ⟨yP_post (j := 0) g3 (List.mem_of_getElem? (i := 3) rfl) (List.mem_of_getElem? (i := 4) rfl) hQ, yP_F z3 (nf _ _ (by decide)) (nf _ _ (by decide)) hE.1.2.1, fun k hk => yP_F z3 (nf _ _ (by decide)) (nf _ _ (by decide)) (hE.1.2.2.1 k hk), fun k hk => yP_F z3 (nf _ _ (by decide)) (nf _ _ (by decide)) (hE.1.2.2.2 k hk)⟩, yA_F hA (M := ys244.2.2.2.2) (by decide) (ydj_ok (by decide)) z3 hE.2⟩, yF_le (by decide) z3, _, List.mem_cons_self, (fun _ => y.toInt), fun s hs => absurd hs (Nat.not_lt_zero _), Nat.zero_le _, ?_⟩
      rw [hy]
      exact yany1
    · cases hq
