/-! harvests, as a pair. -/
section PCHW
variable {s : Nat → Int32} {m : xS} {F : Nat}
theorem hdy_p : ∀ (n : Nat) {s : Nat → Int32} {x : Int} {p l : Int32}, vI s → hx x → (s 4).toInt + (n : Int) < 2000 → (hdy n s x p l).2.2.1 = p + ((hdy n s x p l).1 5 - s 5)
  | 0, s, x, p, l, _, _, _ => by
    show p = p + (s 5 - s 5)
    rw [Int32.sub_self, Int32.add_zero]
  | n + 1, s, x, p, l, I, hX, hd => by
    have n2 := I_nt I
    have n3 := I_nw I
    have d := I_day I
    obtain ⟨a, b, J, x0, x1⟩ := lots_p (s 2).toInt.toNat (s := s) (t := 0) (x := x) (v := 0) I (by omega) hX
    have K := fwk_I (s 3).toInt.toNat (w := 0) J (by rw [a 3 (by decide)]; omega)
    have e4 : (pdy (fwk 0 (s 3).toInt.toNat (lots 0 (s 2).toInt.toNat s x 0).1) 4).toInt = (s 4).toInt + 1 := by
      rw [pdy_4, fwk_k _ (by decide), a 4 (by decide)]
      exact xa1 (by show _ ≤ _ + (1 : Int); omega) (by show _ + (1 : Int) ≤ _; omega)
    refine (hdy_p n (s := pdy (fwk 0 (s 3).toInt.toNat (lots 0 (s 2).toInt.toNat s x 0).1)) (x := (lots 0 (s 2).toInt.toNat s x 0).2.1) (p := p + (fwk 0 (s 3).toInt.toNat (lots 0 (s 2).toInt.toNat s x 0).1 5 - (lots 0 (s 2).toInt.toNat s x 0).1 5)) (l := l + (lots 0 (s 2).toInt.toNat s x 0).2.2) (I_dy K (by rw [fwk_k _ (by decide), a 4 (by decide)]; omega)) ⟨x0, x1⟩ (by rw [e4]; omega)).trans ?_
    rw [pdy_o K (fun i _ => by omega) (by decide), a 5 (by decide)]
    show _ = p + ((hdy n (pdy (fwk 0 (s 3).toInt.toNat (lots 0 (s 2).toInt.toNat s x 0).1)) (lots 0 (s 2).toInt.toNat s x 0).2.1 (p + (fwk 0 (s 3).toInt.toNat (lots 0 (s 2).toInt.toNat s x 0).1 5 - (lots 0 (s 2).toInt.toNat s x 0).1 5)) (l + (lots 0 (s 2).toInt.toNat s x 0).2.2)).1 5 - s 5)
    rw [a 5 (by decide)]
    generalize (hdy n _ _ _ _).1 5 = y
    generalize fwk 0 (s 3).toInt.toNat (lots 0 (s 2).toInt.toNat s x 0).1 5 = z
    generalize s 5 = u
    grind
theorem c153_81 (hF : 500 ≤ F) {g61 : Int32 → Int32 → Int32 → Int32 → Int32 → Int32 → Int32 → xS → Option (Int32 × xS)} {v1 v2 v3 v4 v5 v7 : Int32} {n : Nat} (h2 : v2 = Int32.ofNat n) (n60 : n ≤ 60) {s0 : Nat → Int32} : ∀ (f : Nat) {s e : Nat → Int32} {m : xS} {i : Nat} {p l : Int32}, R32 s0 (m.1 10) → R32 (mrg e s) (m.1 12) → vI s → mok e s → 0 < (s 0).toInt → hx (m.1 43 0).toInt → (s 4).toInt + ((n - i : Nat) : Int) < 2000 → i ≤ n → n - i < f → ∃ m', D153_0_81 F g61 f v1 v2 v3 v4 v5 l v7 (Int32.ofNat i) m = g61 v1 v2 v3 v4 (v5 + ((hdy (n - i) s (m.1 43 0).toInt p l).1 5 - s0 5)) (hdy (n - i) s (m.1 43 0).toInt p l).2.2.2 (v7 + Int32.ofInt 1) m' ∧ (m'.1 43 0).toInt = (hdy (n - i) s (m.1 43 0).toInt p l).2.1 ∧ hx (m'.1 43 0).toInt ∧ kl m m' := by
  subst h2
  have en := nJ (n := n) (by omega)
  intro f
  induction f with
  | zero => intro s e m i p l _ _ _ _ _ _ _ _ q; omega
  | succ f ih =>
    intro s e m i p l R0 R I M s0' hX hd hi q
    have ei := nJ (n := i) (by omega)
    unfold D153_0_81
    by_cases z : n ≤ i
    · rw [show n - i = 0 by omega]
      have r82 := c82_11t (F := F) R
      rw [mrg_o (by omega) (by omega)] at r82
      exact ⟨m, oT (zc.trans (decide_eq_true (by omega))) (ob r82 (ob (c82_9 R0) rfl)), rfl, hX, kl_r m⟩
    · rw [show n - i = (n - (i + 1)) + 1 by omega]
      have n2 := I_nt I
      have n3 := I_nw I
      have d := I_day I
      have g : zcmp .ge (Int32.ofNat i) (Int32.ofNat n) = false := zc.trans (decide_eq_false (by omega))
      obtain ⟨m1, z1, z2, z3, z4, z5⟩ := c12_4 (F := F) F (t := 0) (v := 0) R I M s0' hX (by omega) (by omega)
      have z1 : D12_43_11t F m = some (_, m1) := z1
      rw [Nat.sub_zero] at z1 z2 z3 z4
      obtain ⟨a, b, J, x0, x1⟩ := lots_p (s 2).toInt.toNat (s := s) (t := 0) (x := (m.1 43 0).toInt) (v := 0) I (by omega) hX
      obtain ⟨c1, y1, y2⟩ := c109j (F := F) (m := m1) hF (J_mrg J z3) z2
      rw [mrg_o (by omega) (by omega), a 3 (by decide)] at y2
      obtain ⟨e1, q1, q2⟩ := fwk_mrg (s 3).toInt.toNat (w := 0) J z3 (by rw [a 3 (by decide)]; omega)
      rw [q1] at y2
      have K := fwk_I (s 3).toInt.toNat (w := 0) J (by rw [a 3 (by decide)]; omega)
      obtain ⟨c2, w1, w2⟩ := a112j (F := F) (m := xr m1 12 c1) (by rw [xr_s]; exact y2) (J_mrg K q2) hF
      obtain ⟨e2, q3, q4⟩ := pdc_mrg K q2
      rw [q3] at w2
      rw [xr_xr] at w1
      have e4 : (pdy (fwk 0 (s 3).toInt.toNat (lots 0 (s 2).toInt.toNat s (m.1 43 0).toInt 0).1) 4).toInt = (s 4).toInt + 1 := by
        rw [pdy_4, fwk_k _ (by decide), a 4 (by decide)]
        exact xa1 (by show _ ≤ _ + (1 : Int); omega) (by show _ + (1 : Int) ≤ _; omega)
      have k3 : kl m (xr m1 12 c2) := kl_t z5 kl_x
      obtain ⟨m', d1, d3, d4, d5⟩ := ih (s := pdy (fwk 0 (s 3).toInt.toNat (lots 0 (s 2).toInt.toNat s (m.1 43 0).toInt 0).1)) (e := e2) (m := xr m1 12 c2) (i := i + 1) (p := p + (fwk 0 (s 3).toInt.toNat (lots 0 (s 2).toInt.toNat s (m.1 43 0).toInt 0).1 5 - (lots 0 (s 2).toInt.toNat s (m.1 43 0).toInt 0).1 5)) (l := l + (lots 0 (s 2).toInt.toNat s (m.1 43 0).toInt 0).2.2) (by rw [kl_10 k3]; exact R0) (by rw [xr_s]; exact w2) (I_dy K (by rw [fwk_k _ (by decide), a 4 (by decide)]; omega)) q4 (by rw [pdy_o K (fun i _ => by omega) (by decide), fwk_k _ (by decide), a 0 (by decide)]; exact s0') (by rw [xr_o (by decide), z4]; exact ⟨x0, x1⟩) (by rw [e4]; omega) (by omega) (by omega)
      have ex : ((xr m1 12 c2).1 43 0).toInt = (lots 0 (s 2).toInt.toNat s (m.1 43 0).toInt 0).2.1 := by rw [xr_o (by decide)]; exact z4
      rw [ex] at d1 d3
      refine ⟨m', oF g (ob z1 (ob y1 (ob w1 ?_))), d3, d4, kl_t k3 d5⟩
      rw [(o1 (n := i) (by omega)).2.2]
      exact d1
theorem c153_61 (hF : 500 ≤ F) {v1 v2 v3 v4 : Int32} {n d : Nat} (h1 : v1 = Int32.ofNat n) (n10 : n ≤ 10) (h2 : v2 = Int32.ofNat d) (d60 : d ≤ 60) {s : Nat → Int32} (I : vI9 s) (s0 : 0 < (s 0).toInt) : ∀ (f : Nat) {m : xS} {i : Nat} {p l : Int32}, R32 s (m.1 10) → hx (m.1 43 0).toInt → i ≤ n → n - i < f → ∃ m', D153_0_61 F f v1 v2 v3 v4 p l (Int32.ofNat i) m = some (if zcmp .ne v3 0 = true then (htr (n - i) d s (m.1 43 0).toInt p l).2 else (htr (n - i) d s (m.1 43 0).toInt p l).1, xu m' 43 0 v4) ∧ kl m m' := by
  have en := nJ (n := n) (by omega)
  subst h1
  intro f
  induction f with
  | zero => intro m i p l _ _ _ q; omega
  | succ f ih =>
    intro m i p l R hX hi q
    have ei := nJ (n := i) (by omega)
    have d0 := I_day I.1
    have d9 := I.2
    unfold D153_0_61
    by_cases e : n ≤ i
    · rw [show n - i = 0 by omega]
      refine ⟨m, oT (zc.trans (decide_eq_true (by omega))) ?_, kl_r m⟩
      by_cases c : zcmp .ne v3 0 = true
      · rw [if_pos c, if_pos c]; rfl
      · rw [if_neg c, if_neg c]; rfl
    · rw [show n - i = (n - (i + 1)) + 1 by omega]
      have g : zcmp .ge (Int32.ofNat i) (Int32.ofNat n) = false := zc.trans (decide_eq_false (by omega))
      have k0 : kl m (xcp m 12 10 114) := ⟨fun a b h _ => by rw [xcp_o h], rfl⟩
      have e43 : (xcp m 12 10 114).1 43 0 = m.1 43 0 := by rw [xcp_o (by decide)]
      obtain ⟨m1, z1, z3, z4, z5⟩ := c153_81 (F := F) hF (g61 := D153_0_61 F f) (v1 := Int32.ofNat n) (v3 := v3) (v4 := v4) (v5 := p) (v7 := Int32.ofNat i) h2 d60 (s0 := s) F (s := s) (e := s) (m := xcp m 12 10 114) (i := 0) (p := p) (l := l) (by rw [kl_10 k0]; exact R) (by rw [mrg_id]; exact R_c R (fun _ _ => rfl) (fun j hj => xcp_s hj)) I.1 (mok_s I) s0 (by rw [e43]; exact hX) (by omega) (by omega) (by omega)
      rw [Nat.sub_zero, e43] at z1 z3
      have hp := hdy_p d (s := s) (x := (m.1 43 0).toInt) (p := p) (l := l) I.1 hX (by omega)
      rw [← hp] at z1
      have k1 : kl m m1 := kl_t k0 z5
      obtain ⟨m', w1, w3⟩ := ih (m := m1) (i := i + 1) (p := (hdy d s (m.1 43 0).toInt p l).2.2.1) (l := (hdy d s (m.1 43 0).toInt p l).2.2.2) (by rw [kl_10 k1]; exact R) z4 (by omega) (by omega)
      rw [z3] at w1
      refine ⟨m', oF g (ob (a := ()) (m := xcp m 12 10 114) rfl (z1.trans ?_)), kl_t k1 w3⟩
      rw [(o1 (n := i) (by omega)).2.2]
      exact w1
theorem c153n (R : R32 s (m.1 10)) {y1 y2 y3 : Int32} (n : ¬ pHv s y1 y2 y3) : D153_0 F y1 y2 y3 m = some (-1, m) := by
  have l0 : (0 : Int32).toInt = 0 := rfl
  have l1 : (1 : Int32).toInt = 1 := rfl
  have l10 : (10 : Int32).toInt = 10 := rfl
  have l60 : (60 : Int32).toInt = 60 := rfl
  unfold D153_0
  by_cases a : 0 < (s 0).toInt
  · refine ob (c76_9 R) (oF (zeF (decide_eq_true a)) ?_)
    by_cases b1 : y1.toInt < 1
    · exact oT (zcl.trans (decide_eq_true (by omega))) rfl
    refine oF (zcl.trans (decide_eq_false (by omega))) ?_
    by_cases b2 : 10 < y1.toInt
    · exact oT (zcgt.trans (decide_eq_true (by omega))) rfl
    refine oF (zcgt.trans (decide_eq_false (by omega))) ?_
    by_cases b3 : y2.toInt < 1
    · exact oT (zcl.trans (decide_eq_true (by omega))) rfl
    refine oF (zcl.trans (decide_eq_false (by omega))) ?_
    by_cases b4 : 60 < y2.toInt
    · exact oT (zcgt.trans (decide_eq_true (by omega))) rfl
    refine oF (zcgt.trans (decide_eq_false (by omega))) ?_
    by_cases b5 : y3.toInt < 0
    · exact oT (zcl.trans (decide_eq_true (by omega))) rfl
    refine oF (zcl.trans (decide_eq_false (by omega))) (oF (zcle.trans (decide_eq_false ?_)) rfl)
    exact fun z => n ⟨a, by omega, by omega, by omega, by omega⟩
  · exact ob (c76_9 R) (oT (zeT (decide_eq_false a)) rfl)
theorem c153p (hF : 500 ≤ F) (R : R32 s (m.1 10)) (I : vI9 s) (h0 : 0 ≤ (m.1 43 0).toInt) {y1 y2 y3 : Int32} (p : pHv s y1 y2 y3) : ∃ m', D153_0 F y1 y2 y3 m = some (if zcmp .ne y3 0 = true then (htr y1.toInt.toNat y2.toInt.toNat s (m.1 43 0).toInt 0 0).2 else (htr y1.toInt.toNat y2.toInt.toNat s (m.1 43 0).toInt 0 0).1, m') ∧ (∀ i, i ≠ 12 → m'.1 i = m.1 i) ∧ m'.2 = m.2 := by
  obtain ⟨a, b, c, d⟩ := p
  have b1 := y32 (m.1 43 0)
  have l0 : (0 : Int32).toInt = 0 := rfl
  have l1 : (1 : Int32).toInt = 1 := rfl
  have l10 : (10 : Int32).toInt = 10 := rfl
  have l60 : (60 : Int32).toInt = 60 := rfl
  obtain ⟨m', w1, w2⟩ := c153_61 (F := F) hF (v1 := y1) (v2 := y2) (v3 := y3) (v4 := m.1 43 0) (n := y1.toInt.toNat) (d := y2.toInt.toNat) (ofn_i (by omega) (by omega)) (by omega) (ofn_i (by omega) (by omega)) (by omega) I a F (m := m) (i := 0) (p := 0) (l := 0) R ⟨h0, by omega⟩ (by omega) (by omega)
  rw [Nat.sub_zero] at w1
  refine ⟨xu m' 43 0 (m.1 43 0), ?_, fun i hi => funext fun j => ?_, w2.2⟩
  · unfold D153_0
    exact ob (c76_9 R) (oF (zeF (decide_eq_true a)) (oF (zcl.trans (decide_eq_false (by omega))) (oF (zcgt.trans (decide_eq_false (by omega))) (oF (zcl.trans (decide_eq_false (by omega))) (oF (zcgt.trans (decide_eq_false (by omega))) (oF (zcl.trans (decide_eq_false (by omega))) (oT (zcle.trans (decide_eq_true (by omega))) w1)))))))
  · by_cases z : i = 43 ∧ j = 0
    · obtain ⟨e1, e2⟩ := z
      subst e1 e2
      exact xu_s _ _ _ _
    · rw [xu_o z]
      exact w2.1 i j hi z
end PCHW
theorem nHarv {y1 y2 y3 : Int32} : lP MR 153 276 [.int y1, .int y2, .int y3] true := fun hp hI => by
  obtain ⟨x1, x2, z1, z2, a1, a2, a3, a4, a5, a6, a7, -⟩ := e0_27 (y1 := y1) (y2 := y2) (y3 := y3) hp hI.1.1
  have a3 : zCan 20 153 [.ref 0, .int y1, .int y2, .int y3] hp (some (.int x1), z1) := a3
  have a5 : zCan 20 276 [.ref 70, .int y1, .int y2, .int y3] z1 (some (.int x2), z2) := a5
  obtain ⟨x3, w1, b1, b2, b3, -⟩ := eSp (yt1555 yXx.1) (c := 0) (na := 3) (bl := []) (by decide +kernel) hI.1.1.1 (ys := [y1, y2, y3]) rfl (fun s hs => by cases hs)
  have u := zCan_u a3 b1
  cases u
  have R := hI.1.2.1.1
  have I := hI.1.2.1.2
  have H := hI.1.1.1.1
  have hT := xT_of H
  have h43 : (0 : Int) ≤ ((xof hp).1 43 0).toInt := (hT 43 0 (0, 2147483647) rfl).1
  have M6 : (xof hp).1 70 23 = (xof hp).1 43 0 := hI.1.2.2.2.2
  by_cases p : pHv ((xof hp).1 80) y1 y2 y3
  · obtain ⟨m', d1, d2, d3⟩ := c153p (F := 500) (m := xof hp) (Nat.le_refl _) R I h43 p
    have u := Z153_0 H (F := 500) d1 (d := 20) (by decide)
    rw [xW_of] at u
    have u := zCan_u a3 u
    cases u
    have k : kfj 88 (xof hp) m' := ⟨d2, fun i j _ => by rw [d3]⟩
    have w := xrw_of H m'
    have M1 : rMx (xof (xW hp m')) := rMx_w w (kfj_rMx k hI.1.2)
    have U1 : ruI (xW hp m') := kfj_ruI (j := 0) H k hI.2
    have e80 : (xof (xW hp m')).1 80 = (xof hp).1 80 := (w.1 80 0 148 (by decide)).trans (d2 80 (by decide))
    have e23 : (xof (xW hp m')).1 70 23 = (xof hp).1 43 0 := ((w.2 70 11 23 (by decide)).trans (congrFun (d2 70 (by decide)) 23)).trans M6
    obtain ⟨m2, f1, f2⟩ := r276p (F := 500) (m := xof (xW hp m')) (Nat.le_refl _) (by rw [e80]; exact I) (by rw [e23]; exact h43) (by rw [e80]; exact p)
    rw [e80, e23] at f1
    have u := Z276 b2.1 f1 (d := 20) (by decide)
    rw [xW_of] at u
    have u := zCan_u a5 u
    cases u
    exact ⟨_, _, _, _, a1, a2, a3, a4, a5, a6, ⟨⟨a7, rMx_w (xrw_of b2.1 _) (kow_rMx f2 M1)⟩, kow_ruI b2.1 f2 U1⟩, fun _ => rfl⟩
  · have u := Z153_0 H (F := 500) (c153n R p) (d := 20) (by decide)
    rw [xW_of] at u
    have u := zCan_u a3 u
    cases u
    have u := Z276 H (F := 500) (r276n p) (d := 20) (by decide)
    rw [xW_of] at u
    have u := zCan_u a5 u
    cases u
    exact ⟨_, _, _, _, a1, a2, a3, a4, a5, a6, hI, fun _ => rfl⟩
