/-! run, as a pair. -/
theorem ruC_d {hp x : zHp} {j : Nat} {o : List Int} (h13 : x.2 13 = hp.2 13) (h1 : x.2 (88 + 3 * j + 1) = hp.2 (88 + 3 * j + 1)) (l : x.1 = hp.1) (k : ruC hp j o) : ruC x j o := by
  obtain ⟨q1, q2, q3, q4, q5, q6, q7⟩ := k
  exact ⟨(yrd_eq h13 (fun _ => by rw [l])).trans q1, by rw [l]; exact q2, (yrd_eq h1 (fun _ => by rw [l])).trans q3, q4, q5, fun i hi => (yrd_eq h1 (fun _ => by rw [l])).trans (q6 i hi), q7⟩
theorem nRun {y1 y2 : Int32} : lP MR 139 248 [.int y1, .int y2] true := fun hp hI => by
  obtain ⟨x1, x2, z1, z2, a1, a2, a3, a4, a5, a6, a7, -⟩ := e0_15 (y1 := y1) (y2 := y2) hp hI.1.1
  have a3 : zCan 20 139 [.ref 0, .int y1, .int y2] hp (some (.int x1), z1) := a3
  have a5 : zCan 20 248 [.ref 70, .int y1, .int y2] z1 (some (.int x2), z2) := a5
  obtain ⟨x3, w1, b1, b2, -⟩ := eSp (yt1293 yXx.1) (c := 0) (na := 2) (bl := []) (by decide +kernel) hI.1.1.1 (ys := [y1, y2]) rfl (fun s hs => by cases hs)
  have u := zCan_u a3 b1
  cases u
  obtain ⟨⟨R, I⟩, ⟨n, h, M2, M3, M4⟩, M5, M6⟩ := hI.1.2
  have H := hI.1.1.1.1
  have hT := xT_of H
  have b8 : (0 : Int) ≤ ((xof hp).1 0 8).toInt ∧ ((xof hp).1 0 8).toInt ≤ 6 := hT 0 8 (0, 6) rfl
  have e2 : ((xof hp).1 70 2).toInt = ((xof hp).1 0 8).toInt := hI.1.1.2.2.1
  by_cases P : pRu ((xof hp).1 80) ((xof hp).1 0 8).toInt y1 y2
  · have P' := P
    obtain ⟨p0, ⟨p1, p2⟩, ⟨p3, p4⟩, p5⟩ := P'
    obtain ⟨j, hj⟩ : ∃ j : Nat, y1.toInt = (j : Int) := ⟨y1.toInt.toNat, by omega⟩
    obtain ⟨d, hd⟩ : ∃ d : Nat, y2.toInt = (d : Int) := ⟨y2.toInt.toNat, by omega⟩
    have ey1 : y1 = Int32.ofNat j := ofn_i hj (by omega)
    have ey2 : y2 = Int32.ofNat d := ofn_i hd (by omega)
    obtain ⟨o, C, CL, Q, q1, q2, q3, q4, q5⟩ := hI.2 j (by omega)
    have A := rlA_of H C (by omega) hj
    have G : ∀ w, cgd w o.reverse [] := fun w => by
      have z := cgd_out (w := w) (rest := []) q3 (by rw [← q4]; exact q5) trivial
      rw [List.append_nil, ← q4] at z
      exact z
    have esm : smC o.reverse = smR CL := by
      funext s t h
      show csum _ o.reverse [] = sumE _ CL
      rw [sumE_csum q2 q3, q4]
    obtain ⟨m', d1, d2, d3, d4, d5⟩ := c139_57 (F := 500) (Nat.le_refl _) (r0 := 88 + 3 * j) (by omega) C.2.2.2.1 List.length_reverse G (ru := y1) (v3 := (xof hp).1 80 5) ey2 (by omega) 500 (s := (xof hp).1 80) (m := xof hp) (i := 0) I.1 R (stp_of C) (by omega) (Nat.zero_le _) (by omega)
    rw [Nat.sub_zero] at d1 d2 d3 d4
    have u := Z139_0_A H (F := 500) (ru := y1) (rk := true) (r0 := 88 + 3 * j) (nn := o.length) (fun _ => A) ((c139p R I P).trans d1) (d := 20) (by decide)
    rw [xW_of] at u
    have u := zCan_u a3 u
    cases u
    have w := xrw_of H (xu m' 14 2 0)
    generalize hz : xW hp (xu m' 14 2 0) = z1 at *
    have g0 : ∀ i k l, i ≠ 10 → i ≠ 14 → xta i k l = true → (xof z1).1 i = (xof hp).1 i := fun i k l e1 e2 ht => (w.1 i k l ht).trans ((xu_row e2).trans (d5.1 i e1))
    have g1 : ∀ i a b, i ≠ 10 → i ≠ 14 → xti i a b = true → (xof z1).1 i b = (xof hp).1 i b := fun i a b e1 e2 ht => (w.2 i a b ht).trans ((congrFun (xu_row e2) b).trans (congrFun (d5.1 i e1) b))
    have e80 : (xof z1).1 80 = (xof hp).1 80 := g0 80 0 148 (by decide) (by decide) (by decide)
    have c72 : (xof z1).1 72 = (xof hp).1 72 := g0 72 0 2400 (by decide) (by decide) (by decide)
    have c74 : (xof z1).1 74 = (xof hp).1 74 := g0 74 0 288 (by decide) (by decide) (by decide)
    have c75 : (xof z1).1 75 = (xof hp).1 75 := g0 75 0 6 (by decide) (by decide) (by decide)
    have e702 : (xof z1).1 70 2 = (xof hp).1 70 2 := g1 70 11 2 (by decide) (by decide) (by decide)
    have CA : cAll (xof z1) j CL := cAll_f c72 c74 c75 q1
    have P2 : pRu ((xof z1).1 80) ((xof z1).1 70 2).toInt y1 y2 := by rw [e80, e702, e2]; exact P
    obtain ⟨m2, f1, f2, f3⟩ := r248_53 (F := 500) (Nat.le_refl _) (r := j) (by omega) (cs := CL) ey2 (by omega) 500 (s := (xof hp).1 80) (m := xu (xof z1) 70 25 0) (i := 0) (v := 0) ((xu_row (by decide)).trans e80) I.1 (by omega) (cAll_f (xu_row (by decide)) (xu_row (by decide)) (xu_row (by decide)) CA) (Nat.zero_le _) (by omega)
    rw [Nat.sub_zero, ← esm] at f1 f2
    rw [← ey1] at f1
    have u2 := Z248 b2.1 ((r248p (by rw [e80]; exact I) P2).trans f1) (d := 20) (by decide)
    rw [xW_of] at u2
    have u2 := zCan_u a5 u2
    cases u2
    have h0 : ∀ i k l, i ≠ 10 → i ≠ 14 → i ≠ 70 → i ≠ 80 → xta i k l = true → m2.1 i = (xof hp).1 i := fun i k l e1 e2 e3 e4 ht => (funext fun b => f3.1 i b e4 (fun y => e3 y.1)).trans ((xu_row e3).trans (g0 i k l e1 e2 ht))
    have h70 : ∀ b, b ≠ 20 → b ≠ 25 → xti 70 11 b = true → m2.1 70 b = (xof hp).1 70 b := fun b e1 e2 ht => (f3.1 70 b (by decide) (fun y => e1 y.2)).trans ((xu_o (fun y => e2 y.2)).trans (g1 70 11 b (by decide) (by decide) ht))
    have e10 : m2.1 10 = m'.1 10 := (funext fun b => f3.1 10 b (by decide) (fun y => absurd y.1 (by decide))).trans ((xu_row (by decide)).trans ((w.1 10 0 114 (by decide)).trans (xu_row (by decide))))
    have e14 : ∀ b, xti 14 2 b = true → m2.1 14 b = (xu m' 14 2 0).1 14 b := fun b ht => (f3.1 14 b (by decide) (fun y => absurd y.1 (by decide))).trans ((congrFun (xu_row (by decide)) b).trans (w.2 14 2 b ht))
    have e43 : m2.1 43 0 = (xof hp).1 43 0 := (f3.1 43 0 (by decide) (fun y => absurd y.1 (by decide))).trans ((congrFun (xu_row (by decide)) 0).trans (g1 43 1 0 (by decide) (by decide) (by decide)))
    have M : rMx m2 := by
      refine ⟨⟨by rw [f2, e10]; exact d2, by rw [f2]; exact ⟨d3, by rw [d4]; omega⟩⟩, ⟨n, 0, ⟨M2.1, by omega⟩, ⟨?_, ?_, ?_⟩, fun j hj => absurd hj (Nat.not_lt_zero j)⟩, fun k hk => ?_, ?_⟩
      · rw [e14 1 (by decide), xu_o (by decide), d5.1 14 (by decide)]
        exact M3.1
      · rw [e14 2 (by decide), xu_s]
        rfl
      · rw [f3.1 70 25 (by decide) (by decide), xu_s]
        rfl
      · rw [h0 87 2 4 (by decide) (by decide) (by decide) (by decide) (by decide), h0 42 2 4 (by decide) (by decide) (by decide) (by decide) (by decide), h0 85 0 592 (by decide) (by decide) (by decide) (by decide) (by decide), h0 86 0 4 (by decide) (by decide) (by decide) (by decide) (by decide), h0 41 0 4 (by decide) (by decide) (by decide) (by decide) (by decide), h0 (37 + k) 0 114 (by omega) (by omega) (by omega) (by omega) (xtS37_4 ⟨by omega, by omega⟩)]
        exact M5 k hk
      · rw [h70 23 (by decide) (by decide) (by decide), e43]
        exact M6
    refine ⟨_, _, _, _, a1, a2, a3, a4, a5, a6, ⟨⟨a7, rMx_w (xrw_of b2.1 m2) M⟩, fun k hk => ?_⟩, fun _ => by rw [Int32.zero_add]⟩
    have e08 : (xof (xW z1 m2)).1 0 8 = (xof hp).1 0 8 := (xof_f b2.1 (show xti 0 10 8 = true by decide)).trans ((f3.1 0 8 (by decide) (fun y => absurd y.1 (by decide))).trans ((congrFun (xu_row (by decide)) 8).trans (g1 0 10 8 (by decide) (by decide) (by decide))))
    rw [e08] at hk
    obtain ⟨o', C', r'⟩ := hI.2 k hk
    have cell : ∀ i, i ≠ 10 → i ≠ 14 → i ≠ 70 → i ≠ 78 → i ≠ 79 → i ≠ 80 → i ≠ 88 + 3 * j + 2 → (xW z1 m2).2 i = hp.2 i := fun i e1 e2 e3 e4 e5 e6 e7 => by
      have t1 : (xW z1 m2).2 i = z1.2 i := xW_2 (fun b => (f3.1 i b e6 (fun y => e3 y.1)).trans (congrFun (xu_row e3) b)) (fun b => f3.2 i b e4 e5)
      rw [t1, ← hz]
      exact xW_2 (fun b => (congrFun (xu_row e2) b).trans (congrFun (d5.1 i e1) b)) (fun b => d5.2 i b e7)
    have n1 : (xW z1 m2).1 = hp.1 := by
      show z1.1 = hp.1
      rw [← hz]
      rfl
    refine ⟨o', ruC_d (cell 13 (by decide) (by decide) (by decide) (by decide) (by decide) (by decide) (by omega)) (cell (88 + 3 * k + 1) (by omega) (by omega) (by omega) (by omega) (by omega) (by omega) (by omega)) n1 C', ruR_o (fun l _ _ => ?_) (fun l _ _ => ?_) ?_ r'⟩
    · rw [xof_t b2.1 (k := 0) (n := 2400) (by decide), h0 72 0 2400 (by decide) (by decide) (by decide) (by decide) (by decide)]
    · rw [xof_t b2.1 (k := 0) (n := 288) (by decide), h0 74 0 288 (by decide) (by decide) (by decide) (by decide) (by decide)]
    · rw [xof_t b2.1 (k := 0) (n := 6) (by decide), h0 75 0 6 (by decide) (by decide) (by decide) (by decide) (by decide)]
  · have zc1 : zCan 20 139 [.ref 0, .int y1, .int y2] hp (some (.int (-1)), hp) := by
      by_cases v : 0 ≤ y1.toInt ∧ y1.toInt < ((xof hp).1 0 8).toInt
      · obtain ⟨j, hj⟩ : ∃ j : Nat, y1.toInt = (j : Int) := ⟨y1.toInt.toNat, by omega⟩
        obtain ⟨o, C, -⟩ := hI.2 j (by omega)
        have A := rlA_of H C (by omega) hj
        have u := Z139_0_A H (F := 500) (ru := y1) (rk := true) (r0 := 88 + 3 * j) (nn := o.length) (fun _ => A) (c139n R I (fun _ => rfl) P) (d := 20) (by decide)
        rw [xW_of] at u
        exact u
      · have u := Z139_0_A H (F := 500) (ru := y1) (rk := false) (r0 := 0) (nn := 0) (fun z => by cases z) (c139n R I (fun z => absurd z v) P) (d := 20) (by decide)
        rw [xW_of] at u
        exact u
    have u := zCan_u a3 zc1
    cases u
    have u2 := Z248 H (F := 500) (r248n I (by rw [e2]; exact P)) (d := 20) (by decide)
    rw [xW_of] at u2
    have u2 := zCan_u a5 u2
    cases u2
    exact ⟨_, _, _, _, a1, a2, a3, a4, a5, a6, hI, fun _ => rfl⟩
