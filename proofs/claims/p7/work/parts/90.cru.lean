/-- rule j of the class: its steps, the last first -/
def ruC (hp : zHp) (j : Nat) (out : List Int) : Prop := yrd hp 13 (j : Int) = some (.ref (88 + 3 * j)) ∧ 88 + 3 * j + 2 < hp.1 ∧ yrd hp (88 + 3 * j + 1) (-1) = some (.int (Int32.ofNat out.length)) ∧ out.length ≤ 400 ∧ ∃ g : Nat → Int32, (∀ i, i < out.length → yrd hp (88 + 3 * j + 1) (i : Int) = some (.int (g i))) ∧ tk g out.length = out
theorem ruC_c {hp x : zHp} {j : Nat} {o : List Int} (h : ∀ i, (i = 13 ∨ 88 ≤ i) → x.2 i = hp.2 i) (l : x.1 = hp.1) (k : ruC hp j o) : ruC x j o := by
  have e : ∀ i, (i = 13 ∨ 88 ≤ i) → ∀ l : Int, yrd x i l = yrd hp i l := fun i hi l' => yrd_eq (h i hi) (fun _ => by rw [l])
  obtain ⟨q1, q2, q3, q4, q5, q6, q7⟩ := k
  exact ⟨(e 13 (Or.inl rfl) _).trans q1, by rw [l]; exact q2, (e _ (Or.inr (by omega)) _).trans q3, q4, q5, fun i hi => (e _ (Or.inr (by omega)) _).trans (q6 i hi), q7⟩
theorem xW_2 {B : zHp} {m : xS} {i : Nat} (h1 : ∀ j, m.1 i j = (xof B).1 i j) (h2 : ∀ j, m.2 i j = (xof B).2 i j) : (xW B m).2 i = B.2 i := by
  have e1 : m.1 i = (xof B).1 i := funext h1
  have e2 : m.2 i = (xof B).2 i := funext h2
  have e3 : xfv m i = xfv (xof B) i := by
    funext j v
    unfold xfv
    rw [e1, e2]
  have e : xcl m i (B.2 i) = xcl (xof B) i (B.2 i) := by
    unfold xcl
    rw [e1, e2, e3]
  exact e.trans (congrFun (congrArg Prod.snd (xW_of B)) i)
/-! The class's rule, exactly. -/
section KRU
variable {B hp : zHp} {m : xS} {b : Nat → Int} {n d : Nat}
theorem kRR (H : yH0 B) (X : yTx B) (hd : 11 ≤ d) (hT : xT m) (hL : ∀ i j, i ≠ 78 → m.2 i j = (xof B).2 i j) (N : kN m b n) (h22 : (m.1 2 2).toInt = 0) (h24 : (m.1 2 4).toInt = 0) (hN : B.1 + 3 ≤ zSC) : ∃ (x : zRe) (m' : xS), zCan d 33 [.ref 6, .ref 2] (xW B m) x ∧ B.1 ≤ x.2.1 ∧ yH0 (xW B m') ∧ kE m n (trun b n 401 tS0) m' ∧ xfr kM m m' ∧ ((x = (some .null, xW B m') ∧ m'.1 2 4 ≠ 0) ∨ ∃ hp5, x = (some (.ref B.1), hp5) ∧ yNw (xW B m') hp5 ∧ m'.1 2 4 = 0) := by
  obtain ⟨e, rfl⟩ : ∃ e, d = e + 1 := ⟨d - 1, by omega⟩
  obtain ⟨hT7, fr⟩ := yz7_T hT
  have b23 : 0 ≤ (m.1 2 3).toInt ∧ (m.1 2 3).toInt ≤ 400 := hT 2 3 (0, 400) rfl
  have hC : kC m n 0 (m.1 2 3).toInt.toNat 0 [] [] ((0 : Nat) : Int) ((0 : Nat) : Int) ((tdp []) : Int) ((tbr []) : Int) ((0 : Nat) : Int) ((yz7 m).1 6 9).toInt (yz7 m) := ⟨hT7, xfr_l (by decide) fr, ⟨(congrArg Int32.toInt (fr.2 2 2 rfl)).trans h22, Nat.zero_le _⟩, (congrArg Int32.toInt (fr.2 2 3 rfl)).trans (by omega), (congrArg Int32.toInt (fr.2 2 4 rfl)).trans h24, ⟨rfl, rfl⟩, ⟨rfl, rfl⟩, rfl, rfl, rfl, rfl, rfl, rfl⟩
  have hL0 : kL m n tS0 (yz7 m) := ⟨⟨_, _, hC, fun z => absurd rfl z⟩, ⟨Nat.le_refl _, Nat.zero_le _, Nat.zero_le _, fun w hw => (by cases hw)⟩, Nat.zero_le _⟩
  obtain ⟨m', lv', a1, a2, a3, a4⟩ := krr (d := e) H X (by omega) N 401 (s := tS0) (m := yz7 m) (lv := zs1 (lv_args 0 [.ref 6, .ref 2]) 2 (.int 0)) (i := 0) hL0 (by decide) (by decide) rfl rfl (zs1_ld _ _ _)
  have hm : xT m' ∧ xfr kM m m' := by
    unfold kE at a1
    split at a1
    · obtain ⟨-, p, bg, out, wait, cl, k, dp, br, ex, wh, c⟩ := a1
      exact ⟨c.1, c.2.1⟩
    · obtain ⟨⟨bg, ww, c, -⟩, -⟩ := a1
      exact ⟨c.1, c.2.1⟩
  have H' : yH0 (xW B m') := xH H hm.1 (fun i j z => by rw [hm.2.1]; exact hL i j z)
  have e24 : (xof (xW B m')).1 2 4 = m'.1 2 4 := xof_f H (show xti 2 6 4 = true by decide)
  obtain ⟨x, zx, nx, hx⟩ := h_tail2 (d := e) (by omega) H' (by show B.1 + 3 ≤ zSC; exact hN) a2 a3
  rw [e24] at hx
  refine ⟨x, m', zCan_body (nL := 3) (rt := yRT) (cd := zc33) xg33 ⟨Nat.le_of_ble_eq_true rfl, by decide⟩ nx ?_, nx, H', a1, hm.2, hx⟩
  have k2 : zR none e 3 yRT zc33 (37, zs1 (lv_args 0 [.ref 6, .ref 2]) 2 (.int 0), []) (xW B (yz7 m)) x := a4 x zx
  refine q_lr (k := 1) (i := 0) (x := 6) (q := (.aload_n 0, 1, 0, 0, .null)) rfl (fun _ => rfl) rfl ?_
  refine r_s (fr' := (2, lv_args 0 [.ref 6, .ref 2], [.int 0, .ref 6])) (hp' := xW B m) (q := (.iconst 0, 1, 0, 0, .null)) rfl (fun _ => rfl) (Nat.le_refl _) ?_
  refine r_pi H (pc := 2) rfl (by decide) rfl rfl ?_
  refine q_lr (k := 1) (i := 0) (x := 6) (q := (.aload_n 0, 1, 0, 0, .null)) rfl (fun _ => rfl) rfl ?_
  refine r_s (fr' := (7, lv_args 0 [.ref 6, .ref 2], [.int 0, .ref 6])) (hp' := xW B _) (q := (.iconst 0, 1, 0, 0, .null)) rfl (fun _ => rfl) (Nat.le_refl _) ?_
  refine r_pi H (pc := 7) rfl (by decide) rfl rfl ?_
  refine q_lr (k := 1) (i := 0) (x := 6) (q := (.aload_n 0, 1, 0, 0, .null)) rfl (fun _ => rfl) rfl ?_
  refine r_s (fr' := (12, lv_args 0 [.ref 6, .ref 2], [.int 0, .ref 6])) (hp' := xW B _) (q := (.iconst 0, 1, 0, 0, .null)) rfl (fun _ => rfl) (Nat.le_refl _) ?_
  refine r_pi H (pc := 12) rfl (by decide) rfl rfl ?_
  refine q_lr (k := 1) (i := 0) (x := 6) (q := (.aload_n 0, 1, 0, 0, .null)) rfl (fun _ => rfl) rfl ?_
  refine r_s (fr' := (17, lv_args 0 [.ref 6, .ref 2], [.int 0, .ref 6])) (hp' := xW B _) (q := (.iconst 0, 1, 0, 0, .null)) rfl (fun _ => rfl) (Nat.le_refl _) ?_
  refine r_pi H (pc := 17) rfl (by decide) rfl rfl ?_
  refine q_lr (k := 1) (i := 0) (x := 6) (q := (.aload_n 0, 1, 0, 0, .null)) rfl (fun _ => rfl) rfl ?_
  refine r_s (fr' := (22, lv_args 0 [.ref 6, .ref 2], [.int 0, .ref 6])) (hp' := xW B _) (q := (.iconst 0, 1, 0, 0, .null)) rfl (fun _ => rfl) (Nat.le_refl _) ?_
  refine r_pi H (pc := 22) rfl (by decide) rfl rfl ?_
  refine q_lr (k := 1) (i := 0) (x := 6) (q := (.aload_n 0, 1, 0, 0, .null)) rfl (fun _ => rfl) rfl ?_
  refine r_s (fr' := (27, lv_args 0 [.ref 6, .ref 2], [.int 0, .ref 6])) (hp' := xW B _) (q := (.iconst 0, 1, 0, 0, .null)) rfl (fun _ => rfl) (Nat.le_refl _) ?_
  refine r_pi H (pc := 27) rfl (by decide) rfl rfl ?_
  refine q_lr (k := 1) (i := 0) (x := 6) (q := (.aload_n 0, 1, 0, 0, .null)) rfl (fun _ => rfl) rfl ?_
  refine r_s (fr' := (32, lv_args 0 [.ref 6, .ref 2], [.int 0, .ref 6])) (hp' := xW B _) (q := (.iconst 0, 1, 0, 0, .null)) rfl (fun _ => rfl) (Nat.le_refl _) ?_
  refine r_pi H (pc := 32) rfl (by decide) rfl rfl ?_
  refine r_s (fr' := (36, lv_args 0 [.ref 6, .ref 2], [.int 0])) (hp' := xW B _) (q := (.iconst 0, 1, 0, 0, .null)) rfl (fun _ => rfl) (Nat.le_refl _) ?_
  exact q_si (k := 1) (i := 2) (q := (.istore_n 2, 1, 0, 0, .null)) rfl (fun _ => rfl) (by decide) k2
theorem kRul (H : yH0 hp) (hN : (hp.1 : Int) = 88 + 3 * ((xof hp).1 0 8).toInt) (hd : 13 ≤ d) (hn : ((xof hp).1 0 1).toInt = (n : Int)) (hb : ∀ j, j < n → ((xof hp).1 1 j).toInt = b j) : ∃ (v : Int32) (x : zHp), zCan d 126 [.ref 0] hp (some (.int v), x) ∧ hp.1 ≤ x.1 ∧ (∀ (j : Nat) (o : List Int), (j : Int) < ((xof hp).1 0 8).toInt → ruC hp j o → ruC x j o) ∧ ((((xof hp).1 0 8).toInt = 6 ∧ v = -1 ∧ x = hp) ∨ (((xof hp).1 0 8).toInt < 6 ∧ (xof x).1 0 1 = 0 ∧ ((∃ g, trun b n 401 tS0 = .inl g ∧ g ≠ 0 ∧ v.toInt = -2 - g ∧ (xof x).1 0 8 = (xof hp).1 0 8) ∨ (∃ s, trun b n 401 tS0 = .inr s ∧ v.toInt = ((xof hp).1 0 8).toInt ∧ ((xof x).1 0 8).toInt = ((xof hp).1 0 8).toInt + 1 ∧ ruC x ((xof hp).1 0 8).toInt.toNat s.2.2.1)))) := by
  obtain ⟨e, rfl⟩ : ∃ e, d = e + 1 := ⟨d - 1, by omega⟩
  have b8 := xT_of H 0 8 (0, 6) rfl
  have b81 : (0 : Int) ≤ ((xof hp).1 0 8).toInt := b8.1
  have b82 : ((xof hp).1 0 8).toInt ≤ 6 := b8.2
  have b1 := xT_of H 0 1 (0, 400) rfl
  have b11 : ((xof hp).1 0 1).toInt ≤ 400 := b1.2
  have head : ∀ {r : zRe}, zR none e 2 (some .int) zc126 (6, lv_args 0 [.ref 0], [.int 6, .int ((xof hp).1 0 8)]) hp r → zR none e 2 (some .int) zc126 (0, lv_args 0 [.ref 0], []) hp r := by
    intro r K
    refine q_lr (k := 1) (i := 0) (x := 0) (q := (.aload_n 0, 1, 0, 0, .null)) rfl (fun _ => rfl) rfl ?_
    refine h_gi H (ix := 0) (pc := 1) rfl (by decide) (by decide) ?_
    exact r_s (fr' := (6, lv_args 0 [.ref 0], [.int 6, .int ((xof hp).1 0 8)])) (hp' := hp) (q := (.bipush 6, 2, 0, 0, .null)) rfl (fun _ => rfl) (Nat.le_refl _) K
  by_cases c : zcmp .lt ((xof hp).1 0 8) 6 = true
  · have c6 : ((xof hp).1 0 8).toInt < 6 := zt c
    have HB := kB_H H
    have XB := kB_X H
    have s1000 : zSC = 1000 := rfl
    have z1 := kOpen (hp := hp) (d := e) H (by omega)
    have kb := kB_m H
    have hO : ∀ {i j : Nat}, ¬ (i = 2 ∧ j = 1) → ¬ (i = 2 ∧ j = 2) → ¬ (i = 2 ∧ j = 4) → ¬ (i = 0 ∧ j = 1) → (kO (xof (kB hp))).1 i j = (xof hp).1 i j := fun z1 z2 z3 z4 => ((xu_o z4).trans ((xu_o z3).trans ((xu_o z2).trans (xu_o z1)))).trans (kb _ _)
    have e400 : (Int32.ofNat 400).toInt = 400 := rfl
    have e21 : (kO (xof (kB hp))).1 2 1 = (xof hp).1 0 1 := by
      have z : (kO (xof (kB hp))).1 2 1 = (if (Int32.ofNat 400) < (xof (kB hp)).1 0 1 then (Int32.ofNat 400) else (xof (kB hp)).1 0 1) := rfl
      rw [z, kb, if_neg (fun y => by
        have y := Int32.lt_iff_toInt_lt.mp y
        omega)]
    have N : kN (kO (xof (kB hp))) b n := ⟨by rw [e21]; exact hn, by omega, fun j hj => by rw [hO (fun z => absurd z.1 (by decide)) (fun z => absurd z.1 (by decide)) (fun z => absurd z.1 (by decide)) (fun z => absurd z.1 (by decide))]; exact hb j hj⟩
    have hT0 : xT (xof (kB hp)) := xT_of HB
    have hTO : xT (kO (xof (kB hp))) := by
      refine xT_c (xT_c (xT_c (xT_c hT0 (i := 2) (j := 1) rfl ?_ ?_) (i := 2) (j := 2) rfl (by decide) (by decide)) (i := 2) (j := 4) rfl (by decide) (by decide)) (i := 0) (j := 1) rfl (by decide) (by decide)
      · rw [kb]
        split
        · decide
        · exact b1.1
      · rw [kb]
        split
        · decide
        · exact b1.2
    obtain ⟨x2, m', z2, n2, H', kE1, fr, hx⟩ := kRR (B := kB hp) (m := kO (xof (kB hp))) (b := b) (n := n) (d := e) HB XB (by omega) hTO (fun _ _ _ => rfl) N rfl rfl (by show hp.1 + 3 ≤ zSC; omega)
    have f08 : m'.1 0 8 = (xof hp).1 0 8 := (fr.2 0 8 rfl).trans (hO (by decide) (by decide) (by decide) (by decide))
    have f01 : m'.1 0 1 = 0 := fr.2 0 1 rfl
    have body : ∀ {r : zRe}, zR none e 2 (some .int) zc126 (26, lv_args 0 [.ref 0], x2.1.toList) x2.2 r → zR none e 2 (some .int) zc126 (0, lv_args 0 [.ref 0], []) hp r := by
      intro r K
      refine head (r_ifc (len := 3) (a := 11) (b := 0) (v0 := .null) (cn := .lt) (off := 5) rfl (fun _ => ?_) (fun z => by rw [c] at z; cases z))
      refine q_lr (k := 1) (i := 0) (x := 0) (q := (.aload_n 0, 1, 0, 0, .null)) rfl (fun _ => rfl) rfl ?_
      refine r_call (ix := 0) (as := []) (rest := []) (rv := none) (pc := 12) rfl xr127 rfl rfl rfl (h_kd H (by decide)) (Nat.le_of_ble_eq_true rfl) z1 (Nat.le_refl _) ?_
      refine q_lr (k := 1) (i := 0) (x := 0) (q := (.aload_n 0, 1, 0, 0, .null)) rfl (fun _ => rfl) rfl ?_
      refine r_gr (c := 6) HB (pc := 16) rfl (by decide) (by decide) ?_
      refine q_lr (k := 1) (i := 0) (x := 0) (q := (.aload_n 0, 1, 0, 0, .null)) rfl (fun _ => rfl) rfl ?_
      refine r_gr (c := 2) HB (pc := 20) rfl (by decide) (by decide) ?_
      refine r_call (ix := 6) (as := [.ref 2]) (rest := []) (rv := x2.1) (hp' := x2.2) (pc := 23) rfl xr33 rfl rfl rfl (xkd HB (by decide)) (Nat.le_of_ble_eq_true rfl) z2 n2 ?_
      rw [List.append_nil]
      exact K
    have x08 : (xof (xW (kB hp) m')).1 0 8 = m'.1 0 8 := xof_f HB (show xti 0 10 8 = true by decide)
    have x01 : (xof (xW (kB hp) m')).1 0 1 = m'.1 0 1 := xof_f HB (show xti 0 10 1 = true by decide)
    have x61 : (xof (xW (kB hp) m')).1 6 1 = m'.1 6 1 := xof_f HB (show xti 6 5 1 = true by decide)
    have x7 : (xof (xW (kB hp) m')).1 7 = m'.1 7 := xof_t HB (k := 0) (n := 400) (by decide)
    have tr : ∀ i, (i = 13 ∨ 88 ≤ i) → (xW (kB hp) m').2 i = hp.2 i := fun i hi => (xW_2 (fun j => (fr.2 i j (by
      unfold yinM kM
      simp only [List.any_cons, List.any_nil, Bool.or_false, Bool.or_eq_false_iff, Bool.and_eq_false_iff, decide_eq_false_iff_not]
      omega)).trans ((hO (by omega) (by omega) (by omega) (by omega)).trans (kb i j).symm)) (fun j => congrFun (congrFun fr.1 i) j)).trans (kB_o (by omega))
    rcases hx with ⟨rfl, h24⟩ | ⟨hp5, rfl, nw, h24⟩
    · refine ⟨-2 - m'.1 2 4, xW (kB hp) m', zCan_body (nL := 2) (rt := some .int) (cd := zc126) xg126 ⟨Nat.le_of_ble_eq_true rfl, by decide⟩ (Nat.le_refl _) (body ?_), Nat.le_refl _, fun j o hj h => ruC_c tr rfl h, Or.inr ⟨c6, x01.trans f01, Or.inl ?_⟩⟩
      · refine r_s (fr' := (27, zs1 (lv_args 0 [.ref 0]) 1 .null, [])) (hp' := xW (kB hp) m') (q := (.astore_n 1, 1, 0, 0, .null)) rfl (fun _ => rfl) (Nat.le_refl _) ?_
        refine r_s (fr' := (28, zs1 (lv_args 0 [.ref 0]) 1 .null, [.null])) (hp' := xW (kB hp) m') (q := (.aload_n 1, 1, 0, 0, .null)) rfl (fun _ => rfl) (Nat.le_refl _) ?_
        refine r_s (fr' := (31, zs1 (lv_args 0 [.ref 0]) 1 .null, [])) (hp' := xW (kB hp) m') (q := (.ifnonnull 14, 3, 42, 0, .null)) rfl (fun _ => rfl) (Nat.le_refl _) ?_
        refine r_s (fr' := (33, zs1 (lv_args 0 [.ref 0]) 1 .null, [.int (-2)])) (hp' := xW (kB hp) m') (q := (.bipush (-2), 2, 0, 0, .null)) rfl (fun _ => rfl) (Nat.le_refl _) ?_
        refine q_lr (k := 1) (i := 0) (x := 0) (q := (.aload_n 0, 1, 0, 0, .null)) rfl (fun _ => rfl) rfl ?_
        refine r_gr (c := 2) HB (pc := 34) rfl (by decide) (by decide) ?_
        refine r_gi (v := m'.1 2 4) HB (pc := 37) (i := _) rfl (by decide) (by decide) rfl ?_
        refine r_s (fr' := (41, zs1 (lv_args 0 [.ref 0]) 1 .null, [.int (-2 - m'.1 2 4)])) (hp' := xW (kB hp) m') (q := (.isub, 1, 0, 0, .null)) rfl (fun _ => rfl) (Nat.le_refl _) ?_
        exact q_ri (q := (.ireturn, 1, 0, 0, .null)) rfl (fun _ => rfl) rfl rfl
      · unfold kE at kE1
        split at kE1
        · next g hg =>
          obtain ⟨g0, p, bg, out, wait, cl, k, dp, br, ex, wh, cc⟩ := kE1
          have c5 := cc.2.2.2.2.1
          have bb := cc.1 2 4 (0, 4000) rfl
          have bb2 : (m'.1 2 4).toInt ≤ 4000 := bb.2
          have bb1 : 0 ≤ (m'.1 2 4).toInt := bb.1
          exact ⟨g, hg, g0, (xs1 (by show _ ≤ (-2 : Int) - _; omega) (by show (-2 : Int) - _ ≤ _; omega)).trans (by rw [c5]; rfl), x08.trans f08⟩
        · next s hs =>
          obtain ⟨⟨bg, ww, cc, -⟩, -⟩ := kE1
          have c5 := cc.2.2.2.2.1
          exact absurd (Int32.toInt_inj.mp (c5.trans rfl)) h24
    · have hs : ∃ s, trun b n 401 tS0 = .inr s ∧ ((m'.1 6 1).toInt = (s.2.2.1.length : Int) ∧ tk (m'.1 7) s.2.2.1.length = s.2.2.1) := by
        unfold kE at kE1
        split at kE1
        · next g hg =>
          obtain ⟨g0, p, bg, out, wait, cl, k, dp, br, ex, wh, cc⟩ := kE1
          have c5 := cc.2.2.2.2.1
          rw [h24] at c5
          exact absurd c5.symm g0
        · next s hs =>
          obtain ⟨⟨bg, ww, cc, -⟩, -⟩ := kE1
          exact ⟨s, hs, cc.2.2.2.2.2.1⟩
      obtain ⟨s, hs, hs6⟩ := hs
      obtain ⟨k, hk⟩ : ∃ k : Nat, ((xof hp).1 0 8).toInt = (k : Int) := ⟨((xof hp).1 0 8).toInt.toNat, by omega⟩
      generalize hp2e : xW (kB hp) m' = hp2 at *
      have hp21 : hp2.1 = hp.1 := by rw [← hp2e]; rfl
      have hB1 : (kB hp).1 = hp2.1 := hp21.symm
      rw [hB1] at body
      have N2 : hp2.1 = 88 + 3 * k := by omega
      have H5 : yH0 hp5 := yH0_nw H' N2 (by omega) nw
      obtain ⟨nn, g, f, hn5, w1, w2, w3, w4, w5⟩ := nw
      have k13 := H'.2.2 13 (by omega)
      rw [yty13] at k13
      obtain ⟨f13, e13, b13⟩ : ∃ f : Nat → Option Nat, hp2.2 13 = .inl (4, 6, .inr (.inr (.inr (.inr f)))) ∧ ∀ j, j < 6 → f j = none ∨ ∃ k : Nat, f j = some (88 + 3 * k) ∧ 88 + 3 * k + 2 < hp2.1 := k13
      obtain ⟨i1, i2, fs, x8, h0, h8⟩ := xti_ok H' (show xti 0 10 8 = true by decide)
      obtain ⟨-, -, fs1, x1, h01, h11⟩ := xti_ok H' (show xti 0 10 1 = true by decide)
      have efs : fs1 = fs := (Prod.mk.inj (Sum.inr.inj (h01.symm.trans h0))).2
      subst efs
      have ex8 : (xof hp2).1 0 8 = x8 := by
        unfold xof
        dsimp only
        rw [h0]
        dsimp only
        rw [h8]
      have ex1 : (xof hp2).1 0 1 = x1 := by
        unfold xof
        dsimp only
        rw [h0]
        dsimp only
        rw [h11]
      have x8k : x8.toInt = (k : Int) := by rw [← ex8, x08, f08]; exact hk
      have x8n : x8.toNatClampNeg = k := by
        show x8.toInt.toNat = k
        omega
      have g13 : hp5.2 13 = .inl (4, 6, .inr (.inr (.inr (.inr f13)))) := (w5 13 (by omega) (by omega) (by omega)).trans e13
      have g0 : hp5.2 0 = .inr (10, fs1) := (w5 0 (by omega) (by omega) (by omega)).trans h0
      have x9 : (x8 + 1).toInt = x8.toInt + 1 := xa1 (by show _ ≤ _ + (1 : Int); omega) (by show _ + (1 : Int) ≤ _; omega)
      have hl8 : 8 < fs1.length := (List.getElem?_eq_some_iff.mp h8).1
      generalize hg : ((hp5.1, zup (zup hp5.2 13 (.inl (4, 6, .inr (.inr (.inr (.inr (va_up f13 x8.toNatClampNeg (some hp2.1)))))))) 0 (.inr (10, fs1.set 8 (.int (x8 + 1))))) : zHp) = hp7
      have v0 : hp7.2 0 = .inr (10, fs1.set 8 (.int (x8 + 1))) := by
        rw [← hg]
        show (zup (zup hp5.2 13 (.inl (4, 6, .inr (.inr (.inr (.inr (va_up f13 x8.toNatClampNeg (some hp2.1)))))))) 0 (.inr (10, fs1.set 8 (.int (x8 + 1))))) 0 = _
        exact zups
      have vn : hp7.1 = hp2.1 + 3 := by rw [← hg]; exact w1
      have y8 : (xof hp7).1 0 8 = x8 + 1 := by
        unfold xof
        dsimp only
        rw [v0]
        dsimp only
        rw [List.getElem?_set, if_pos rfl, if_pos hl8]
      have y1 : (xof hp7).1 0 1 = x1 := by
        unfold xof
        dsimp only
        rw [v0]
        dsimp only
        rw [List.getElem?_set, if_neg (by decide), h11]
      have v13 : hp7.2 13 = .inl (4, 6, .inr (.inr (.inr (.inr (va_up f13 x8.toNatClampNeg (some hp2.1)))))) := by
        rw [← hg]
        show zup (zup hp5.2 13 (.inl (4, 6, .inr (.inr (.inr (.inr (va_up f13 x8.toNatClampNeg (some hp2.1)))))))) 0 (.inr (10, fs1.set 8 (.int (x8 + 1)))) 13 = _
        rw [zupo (show ¬ (13 : Nat) = 0 by decide)]
        exact zups
      have vo : ∀ i, i ≠ 0 → i ≠ 13 → hp7.2 i = hp5.2 i := fun i z1 z2 => by
        rw [← hg]
        show zup (zup hp5.2 13 (.inl (4, 6, .inr (.inr (.inr (.inr (va_up f13 x8.toNatClampNeg (some hp2.1)))))))) 0 (.inr (10, fs1.set 8 (.int (x8 + 1)))) i = _
        rw [zupo z1, zupo z2]
      have KR : ∀ (j : Nat) (o : List Int), (j : Int) < ((xof hp).1 0 8).toInt → ruC hp j o → ruC hp7 j o := fun j o hj h => by
        obtain ⟨q1, q2, q3, q4, q5, q6, q7⟩ := h
        have oj : ∀ l : Int, yrd hp7 (88 + 3 * j + 1) l = yrd hp (88 + 3 * j + 1) l := fun l => yrd_eq ((vo _ (by omega) (by omega)).trans ((w5 _ (by omega) (by omega) (by omega)).trans (tr _ (Or.inr (by omega))))) (fun _ => ⟨fun _ => by omega, fun _ => by omega⟩)
        refine ⟨?_, by omega, (oj _).trans q3, q4, q5, fun i hi => (oj _).trans (q6 i hi), q7⟩
        rw [yrd_f ((tr 13 (Or.inl rfl)).symm.trans e13) (by omega), Int.toNat_natCast] at q1
        rw [yrd_f v13 (by omega), Int.toNat_natCast]
        unfold va_up
        split
        · next z => exact absurd z (by omega)
        · exact q1
      have KN : ruC hp7 ((xof hp).1 0 8).toInt.toNat s.2.2.1 := by
        rw [show ((xof hp).1 0 8).toInt.toNat = k by omega]
        have nl : nn = s.2.2.1.length := by
          have z1 := hn5.2.1
          rw [x61] at z1
          have z2 := hs6.1
          omega
        have c1 : hp7.2 (88 + 3 * k + 1) = .inl (0, nn, .inl g) := by
          rw [vo _ (by omega) (by omega), show 88 + 3 * k + 1 = hp2.1 + 1 by omega]
          exact w3
        refine ⟨?_, by omega, ?_, by rw [← nl]; exact hn5.1, g, fun i _ => ?_, ?_⟩
        · rw [yrd_f v13 (by omega), Int.toNat_natCast, x8n]
          unfold va_up
          rw [if_pos rfl, N2]
          rfl
        · unfold yrd
          rw [c1]
          dsimp only
          rw [if_pos (by decide), if_pos (by omega), nl]
        · unfold yrd
          rw [c1]
          dsimp only
          rw [if_neg (by omega), Int.toNat_natCast]
        · rw [tk_c (g := m'.1 7) _ (fun j hj => (hn5.2.2 j (by omega)).trans (congrFun x7 j))]
          exact hs6.2
      refine ⟨x8 + 1 - 1, hp7, zCan_body (nL := 2) (rt := some .int) (cd := zc126) xg126 ⟨Nat.le_of_ble_eq_true rfl, by decide⟩ (by show hp.1 ≤ hp7.1; omega) (body ?_), by omega, KR, Or.inr ⟨c6, y1.trans (ex1.symm.trans (x01.trans f01)), Or.inr ⟨s, hs, ?_, ?_, KN⟩⟩⟩
      rotate_left
      · exact (xs1 (by show _ ≤ _ - (1 : Int); omega) (by show _ - (1 : Int) ≤ _; omega)).trans (by rw [x9]; show x8.toInt + 1 - 1 = _; omega)
      · rw [y8, x9]
        omega
      refine q_sr (k := 1) (i := 1) (x := hp2.1) (q := (.astore_n 1, 1, 0, 0, .null)) rfl (fun _ => rfl) (by decide) ?_
      have m0 : zld (zs1 (lv_args 0 [.ref 0]) 1 (.ref hp2.1)) 0 = some (.ref 0) := rfl
      have m1 : zld (zs1 (lv_args 0 [.ref 0]) 1 (.ref hp2.1)) 1 = some (.ref hp2.1) := zs1_ld _ _ _
      generalize zs1 (lv_args 0 [.ref 0]) 1 (.ref hp2.1) = lw at *
      have t5 : ∀ {z : Nat}, z < 88 → z < hp5.1 := fun hz => by omega
      have o13 : (zup hp5.2 13 (.inl (4, 6, .inr (.inr (.inr (.inr (va_up f13 x8.toNatClampNeg (some hp2.1)))))))) 0 = .inr (10, fs1) := (zupo (by decide)).trans g0
      refine q_lr (k := 1) (i := 1) (q := (.aload_n 1, 1, 0, 0, .null)) rfl (fun _ => rfl) m1 ?_
      refine r_s (fr' := (42, lw, [])) (hp' := hp5) (q := (.ifnonnull 14, 3, 42, 0, .null)) rfl (fun _ => rfl) (Nat.le_refl _) ?_
      refine q_lr (k := 1) (i := 0) (q := (.aload_n 0, 1, 0, 0, .null)) rfl (fun _ => rfl) m0 ?_
      refine h_gr H5 (ix := 0) (c := 13) (pc := 43) rfl (by decide) (by decide) ?_
      refine q_lr (k := 1) (i := 0) (q := (.aload_n 0, 1, 0, 0, .null)) rfl (fun _ => rfl) m0 ?_
      refine r_get (pc := 47) (ix := 0) rfl (by decide) ⟨t5 (by decide), by decide⟩ g0 h8 ?_
      refine q_lr (k := 1) (i := 1) (q := (.aload_n 1, 1, 0, 0, .null)) rfl (fun _ => rfl) m1 ?_
      refine r_s (fr' := (52, lw, [])) (hp' := (hp5.1, zup hp5.2 13 (.inl (4, 6, .inr (.inr (.inr (.inr (va_up f13 x8.toNatClampNeg (some hp2.1))))))))) (q := (.aastore, 1, 0, 0, .null)) rfl (fun call => ?_) (Nat.le_refl _) ?_
      · show zAast (51, lw, [.ref hp2.1, .int x8, .ref 13]) hp5 = _
        unfold zAast
        dsimp only
        rw [if_pos (show 13 < hp5.1 ∧ 13 < zSC ∧ hp2.1 < hp5.1 ∧ hp2.1 < zSC from ⟨t5 (by decide), by decide, by rw [w1]; omega, by rw [s1000, N2]; omega⟩), g13, w2]
        show (if ¬ (x8 < 0 ∨ 6 ≤ x8.toNatClampNeg) then _ else _) = _
        rw [if_pos (fun z => by
          rcases z with z | z
          · have z : x8.toInt < (0 : Int) := Int32.lt_iff_toInt_lt.mp z
            omega
          · omega)]
        rfl
      refine q_lr (k := 1) (i := 0) (q := (.aload_n 0, 1, 0, 0, .null)) rfl (fun _ => rfl) m0 ?_
      refine r_s (fr' := (54, lw, [.ref 0, .ref 0])) (hp' := (hp5.1, zup hp5.2 13 (.inl (4, 6, .inr (.inr (.inr (.inr (va_up f13 x8.toNatClampNeg (some hp2.1))))))))) (q := (.dup, 1, 0, 0, .null)) rfl (fun _ => rfl) (Nat.le_refl _) ?_
      refine r_get (pc := 54) (ix := 0) rfl (by decide) ⟨t5 (by decide), by decide⟩ o13 h8 ?_
      refine r_s (fr' := (58, lw, [.int 1, .int x8, .ref 0])) (hp' := (hp5.1, zup hp5.2 13 (.inl (4, 6, .inr (.inr (.inr (.inr (va_up f13 x8.toNatClampNeg (some hp2.1))))))))) (q := (.iconst 1, 1, 0, 0, .null)) rfl (fun _ => rfl) (Nat.le_refl _) ?_
      refine r_s (fr' := (59, lw, [.int (x8 + 1), .ref 0])) (hp' := (hp5.1, zup hp5.2 13 (.inl (4, 6, .inr (.inr (.inr (.inr (va_up f13 x8.toNatClampNeg (some hp2.1))))))))) (q := (.iadd, 1, 0, 0, .null)) rfl (fun _ => rfl) (Nat.le_refl _) ?_
      refine r_put (pc := 59) (ix := 0) rfl ⟨t5 (by decide), by decide, rfl⟩ o13 hl8 ?_
      dsimp only
      rw [hg]
      refine q_lr (k := 1) (i := 0) (q := (.aload_n 0, 1, 0, 0, .null)) rfl (fun _ => rfl) m0 ?_
      refine r_get (pc := 63) (ix := 0) (v := .int (x8 + 1)) rfl (by decide) ⟨by omega, by decide⟩ v0 (by rw [List.getElem?_set, if_pos rfl, if_pos hl8]) ?_
      refine r_s (fr' := (67, lw, [.int 1, .int (x8 + 1)])) (hp' := hp7) (q := (.iconst 1, 1, 0, 0, .null)) rfl (fun _ => rfl) (Nat.le_refl _) ?_
      refine r_s (fr' := (68, lw, [.int (x8 + 1 - 1)])) (hp' := hp7) (q := (.isub, 1, 0, 0, .null)) rfl (fun _ => rfl) (Nat.le_refl _) ?_
      exact q_ri (q := (.ireturn, 1, 0, 0, .null)) rfl (fun _ => rfl) rfl rfl
  · refine ⟨-1, hp, zCan_body (nL := 2) (rt := some .int) (cd := zc126) xg126 ⟨Nat.le_of_ble_eq_true rfl, by decide⟩ (Nat.le_refl _) (head (r_ifc (len := 3) (a := 11) (b := 0) (v0 := .null) (cn := .lt) (off := 5) rfl (fun z => absurd z c) (fun cf => ?_))), Nat.le_refl _, fun _ _ _ h => h, Or.inl ⟨?_, rfl, rfl⟩⟩
    · refine r_s (fr' := (10, lv_args 0 [.ref 0], [.int (-1)])) (hp' := hp) (q := (.iconst (-1), 1, 0, 0, .null)) rfl (fun _ => rfl) (Nat.le_refl _) ?_
      exact q_ri (q := (.ireturn, 1, 0, 0, .null)) rfl (fun _ => rfl) rfl rfl
    · have cf : ¬ ((xof hp).1 0 8).toInt < 6 := fun z => c ((yhl_cmp .lt _ _).mpr z)
      omega
end KRU
