/-! The class's rule: its spec. -/
set_option maxRecDepth 4000 in
theorem xg126 : zg zms 126 = some (zm126.2.2.1, zm126.2.2.2.1, zc126) := rfl
theorem xr127 : zar 127 = (0, 10) := by decide +kernel
section YRUS
variable {hp hp0 hp' : zHp} {d : Nat}
theorem yokc_le {h h' : Nat} (k : h ≤ h') {c : yC} {x : zCl} (q : yokc h c x) : yokc h' c x := by
  unfold yokc at q ⊢
  split at q
  · exact q
  · split at q
    · exact q
    · obtain ⟨f, e, b⟩ := q
      refine ⟨f, e, fun j hj => (b j hj).imp_right (fun z => ?_)⟩
      obtain ⟨k2, e2, l2⟩ := z
      exact ⟨k2, e2, Nat.lt_of_lt_of_le l2 k⟩
    · exact q
    · exact q
  · exact q
theorem yH0_nw {hp5 : zHp} {c : Nat} (H : yH0 hp) (hc : hp.1 = 88 + 3 * c) (h9 : hp.1 + 3 ≤ 1000) (h : yNw hp hp5) : yH0 hp5 := by
  obtain ⟨n, g, f, hn, e1, e2, e3, e4, e5⟩ := h
  refine ⟨by rw [e1]; omega, by rw [e1]; exact h9, fun i hi => ?_⟩
  rw [e1] at hi ⊢
  by_cases i0 : i = hp.1
  · rw [i0, e2, hc, yty_r0]
    refine ⟨_, rfl, rfl, fun j t ht => ?_⟩
    match j, ht with
    | 0, ht =>
      have ht : some ((2, ((88 + 3 * c : Nat) : Int) + 1, ((88 + 3 * c : Nat) : Int) + 1) : Nat × Int × Int) = some t := ht
      cases ht
      exact ⟨_, rfl, 88 + 3 * c + 1, rfl, (by show ((88 + 3 * c : Nat) : Int) + 1 ≤ ((88 + 3 * c + 1 : Nat) : Int); omega), (by show ((88 + 3 * c + 1 : Nat) : Int) ≤ ((88 + 3 * c : Nat) : Int) + 1; omega)⟩
    | 1, ht =>
      have ht : some ((2, ((88 + 3 * c : Nat) : Int) + 2, ((88 + 3 * c : Nat) : Int) + 2) : Nat × Int × Int) = some t := ht
      cases ht
      exact ⟨_, rfl, 88 + 3 * c + 2, rfl, (by show ((88 + 3 * c : Nat) : Int) + 2 ≤ ((88 + 3 * c + 2 : Nat) : Int); omega), (by show ((88 + 3 * c + 2 : Nat) : Int) ≤ ((88 + 3 * c : Nat) : Int) + 2; omega)⟩
    | j + 2, ht => cases ht
  · by_cases i1 : i = hp.1 + 1
    · rw [i1, e3, hc, show 88 + 3 * c + 1 = 89 + 3 * c by omega, yty_r1]
      exact ⟨n, g, hn.1, rfl⟩
    · by_cases i2 : i = hp.1 + 2
      · rw [i2, e4, hc, show 88 + 3 * c + 2 = 90 + 3 * c by omega, yty_r2]
        exact ⟨f, rfl⟩
      · rw [e5 i i0 i1 i2]
        exact yokc_le (by omega) (H.2.2 i (by omega))
theorem yrd_eq {a b : zHp} {i : Nat} {j : Int} (e : a.2 i = b.2 i) (h : j < 0 → (i < a.1 ↔ i < b.1)) : yrd a i j = yrd b i j := by
  unfold yrd
  rw [e]
  cases b.2 i with
  | inr q => rfl
  | inl q =>
    obtain ⟨t, n, x⟩ := q
    dsimp only
    by_cases hj : j < 0
    · rw [if_pos hj, if_pos hj]
      by_cases ha : i < a.1
      · rw [if_pos ha, if_pos ((h hj).mp ha)]
      · rw [if_neg ha, if_neg (fun z => ha ((h hj).mpr z))]
    · rw [if_neg hj, if_neg hj]
abbrev yMS : yM := [(6, 6, 1), (6, 6, 3), (6, 6, 4), (6, 6, 5), (6, 6, 6), (6, 6, 7), (6, 6, 8)]
abbrev yz7 (m : xS) : xS := xu (xu (xu (xu (xu (xu (xu m 6 1 0) 6 3 0) 6 4 0) 6 5 0) 6 6 0) 6 7 0) 6 8 0
theorem yz7_T {m : xS} (h : xT m) : xT (yz7 m) ∧ xfr yMS m (yz7 m) := by
  have t1 := xT_c h (i := 6) (j := 1) (v := 0) (lo := 0) (hi := 400) rfl (by decide) (by decide)
  have t2 := xT_c t1 (i := 6) (j := 3) (v := 0) (lo := 0) (hi := 400) rfl (by decide) (by decide)
  have t3 := xT_c t2 (i := 6) (j := 4) (v := 0) (lo := -2147483648) (hi := 2147483647) rfl (by decide) (by decide)
  have t4 := xT_c t3 (i := 6) (j := 5) (v := 0) (lo := -2147483648) (hi := 2147483647) rfl (by decide) (by decide)
  have t5 := xT_c t4 (i := 6) (j := 6) (v := 0) (lo := -2147483648) (hi := 2147483647) rfl (by decide) (by decide)
  have t6 := xT_c t5 (i := 6) (j := 7) (v := 0) (lo := -2147483648) (hi := 2147483647) rfl (by decide) (by decide)
  have t7 := xT_c t6 (i := 6) (j := 8) (v := 0) (lo := -2147483648) (hi := 2147483647) rfl (by decide) (by decide)
  exact ⟨t7, xfr_t (xfr_u (by decide)) (xfr_t (xfr_u (by decide)) (xfr_t (xfr_u (by decide)) (xfr_t (xfr_u (by decide)) (xfr_t (xfr_u (by decide)) (xfr_t (xfr_u (by decide)) (xfr_u (by decide)))))))⟩
/-- E where its cells are left alone -/
theorem yE_F {M : yM} {a b : zHp} (h9 : yinM M 999 0 = false) (hd : ydj M yFP = true) (f : yF M a b) (h : yEA yAr a) : yEA yAr b := yEA_F yAr_F a b h (f.2.1 h9) (fun i j k => f.2.2 i j (Or.inr (ydj_ok hd i j k)))
theorem h_rr (hd : 9 ≤ d) (J : yJ hp0 hp) (hN : hp.1 + 3 ≤ zSC) : ∃ (x : zRe) (hp2 : zHp), yJ hp0 hp2 ∧ zCan d 33 [.ref 6, .ref 2] hp x ∧ hp.1 ≤ x.2.1 ∧ (x = (some .null, hp2) ∨ ∃ hp5, x = (some (.ref hp2.1), hp5) ∧ yNw hp2 hp5) := by
  obtain ⟨e, rfl⟩ : ∃ e, d = e + 1 := ⟨d - 1, by omega⟩
  obtain ⟨hT, fr⟩ := yz7_T (xT_of J.1.1)
  have fy : yF yMS hp (xW hp (yz7 (xof hp))) := xF fr.2 (fun _ _ _ => rfl)
  have J1 : yJ hp0 (xW hp (yz7 (xof hp))) := ⟨⟨xH J.1.1 hT (fun _ _ _ => rfl), yE_F rfl (by decide) fy J.1.2⟩, (fy.2.2 2 0 (Or.inr rfl)).trans J.2.1, yF_trans J.2.2 (yF_le (by decide) fy)⟩
  obtain ⟨hp2, lv2, J2, n2, m0, m1, k2⟩ := yrr_loop (d := e) (by omega) 402 (hp := xW hp (yz7 (xof hp))) (lv := zs1 (lv_args 0 [.ref 6, .ref 2]) 2 (.int 0)) (i := 0) J1 (by decide) (by decide) (by decide) rfl rfl (zs1_ld _ _ _)
  have n1 : hp.1 = hp0.1 := J.2.2.2.1 rfl
  have n3 : hp2.1 = hp0.1 := J2.2.2.2.1 rfl
  obtain ⟨x, zx, nx, hx⟩ := h_tail (d := e) (by omega) J2.1.1 (by omega) m0 m1
  refine ⟨x, hp2, J2, zCan_body (nL := 3) (rt := yRT) (cd := zc33) xg33 ⟨Nat.le_of_ble_eq_true rfl, by decide⟩ (by omega) ?_, by omega, hx⟩
  have hK : zR none e 3 yRT zc33 (0, lv_args 0 [.ref 6, .ref 2], []) (xW hp (xof hp)) x := by
    refine q_lr (k := 1) (i := 0) (x := 6) (q := (.aload_n 0, 1, 0, 0, .null)) rfl (fun _ => rfl) rfl ?_
    refine r_s (fr' := (2, lv_args 0 [.ref 6, .ref 2], [.int 0, .ref 6])) (hp' := xW hp (xof hp)) (q := (.iconst 0, 1, 0, 0, .null)) rfl (fun _ => rfl) (Nat.le_refl _) ?_
    refine r_pi J.1.1 (pc := 2) rfl (by decide) rfl rfl ?_
    refine q_lr (k := 1) (i := 0) (x := 6) (q := (.aload_n 0, 1, 0, 0, .null)) rfl (fun _ => rfl) rfl ?_
    refine r_s (fr' := (7, lv_args 0 [.ref 6, .ref 2], [.int 0, .ref 6])) (hp' := xW hp _) (q := (.iconst 0, 1, 0, 0, .null)) rfl (fun _ => rfl) (Nat.le_refl _) ?_
    refine r_pi J.1.1 (pc := 7) rfl (by decide) rfl rfl ?_
    refine q_lr (k := 1) (i := 0) (x := 6) (q := (.aload_n 0, 1, 0, 0, .null)) rfl (fun _ => rfl) rfl ?_
    refine r_s (fr' := (12, lv_args 0 [.ref 6, .ref 2], [.int 0, .ref 6])) (hp' := xW hp _) (q := (.iconst 0, 1, 0, 0, .null)) rfl (fun _ => rfl) (Nat.le_refl _) ?_
    refine r_pi J.1.1 (pc := 12) rfl (by decide) rfl rfl ?_
    refine q_lr (k := 1) (i := 0) (x := 6) (q := (.aload_n 0, 1, 0, 0, .null)) rfl (fun _ => rfl) rfl ?_
    refine r_s (fr' := (17, lv_args 0 [.ref 6, .ref 2], [.int 0, .ref 6])) (hp' := xW hp _) (q := (.iconst 0, 1, 0, 0, .null)) rfl (fun _ => rfl) (Nat.le_refl _) ?_
    refine r_pi J.1.1 (pc := 17) rfl (by decide) rfl rfl ?_
    refine q_lr (k := 1) (i := 0) (x := 6) (q := (.aload_n 0, 1, 0, 0, .null)) rfl (fun _ => rfl) rfl ?_
    refine r_s (fr' := (22, lv_args 0 [.ref 6, .ref 2], [.int 0, .ref 6])) (hp' := xW hp _) (q := (.iconst 0, 1, 0, 0, .null)) rfl (fun _ => rfl) (Nat.le_refl _) ?_
    refine r_pi J.1.1 (pc := 22) rfl (by decide) rfl rfl ?_
    refine q_lr (k := 1) (i := 0) (x := 6) (q := (.aload_n 0, 1, 0, 0, .null)) rfl (fun _ => rfl) rfl ?_
    refine r_s (fr' := (27, lv_args 0 [.ref 6, .ref 2], [.int 0, .ref 6])) (hp' := xW hp _) (q := (.iconst 0, 1, 0, 0, .null)) rfl (fun _ => rfl) (Nat.le_refl _) ?_
    refine r_pi J.1.1 (pc := 27) rfl (by decide) rfl rfl ?_
    refine q_lr (k := 1) (i := 0) (x := 6) (q := (.aload_n 0, 1, 0, 0, .null)) rfl (fun _ => rfl) rfl ?_
    refine r_s (fr' := (32, lv_args 0 [.ref 6, .ref 2], [.int 0, .ref 6])) (hp' := xW hp _) (q := (.iconst 0, 1, 0, 0, .null)) rfl (fun _ => rfl) (Nat.le_refl _) ?_
    refine r_pi J.1.1 (pc := 32) rfl (by decide) rfl rfl ?_
    refine r_s (fr' := (36, lv_args 0 [.ref 6, .ref 2], [.int 0])) (hp' := xW hp _) (q := (.iconst 0, 1, 0, 0, .null)) rfl (fun _ => rfl) (Nat.le_refl _) ?_
    exact q_si (k := 1) (i := 2) (q := (.istore_n 2, 1, 0, 0, .null)) rfl (fun _ => rfl) (by decide) (k2 x zx)
  rw [xW_of] at hK
  exact hK
theorem yty13 : yty 13 = (1, 4, 6, 0, []) := rfl
theorem yty0 : (yty 0).1 = 0 ∧ (yty 0).2.1 = 10 ∧ (yty 0).2.2.2.2[8]? = some (0, 0, 6) := ⟨rfl, rfl, rfl⟩
theorem yrul_s : yTs (yEA yAr) 12 ys646 := by
  intro d hd hp r as H gg hl hlen
  have has := yas1 (c := 0) gg hlen
  subst has
  obtain ⟨e, rfl⟩ : ∃ e, d = e + 1 := ⟨d - 1, by omega⟩
  have b8 := xT_of H.1 0 8 (0, 6) rfl
  have b81 : (0 : Int) ≤ ((xof hp).1 0 8).toInt := b8.1
  have b82 : ((xof hp).1 0 8).toInt ≤ 6 := b8.2
  have hN : (hp.1 : Int) = 88 + 3 * ((xof hp).1 0 8).toInt := H.2.2.2
  have one : ∀ {x : Int32} {q : zHp}, (yH0 q ∧ yEA yAr q) → yF ys646.2.2.2.2 hp q → yPo (yEA yAr) ys646.2.2.2.2 hp r ys646.2.2.1.1 ys646.2.2.2.1 (some (.int x), q) := fun {x q} a b => ⟨a, b, _, List.mem_cons_self, (fun _ => x.toInt), fun s hs => absurd hs (Nat.not_lt_zero _), Nat.zero_le _, yany1⟩
  have head : ∀ {r : zRe}, zR none e 2 (some .int) zc126 (6, lv_args 0 [.ref 0], [.int 6, .int ((xof hp).1 0 8)]) hp r → zR none e 2 (some .int) zc126 (0, lv_args 0 [.ref 0], []) hp r := by
    intro r K
    refine q_lr (k := 1) (i := 0) (x := 0) (q := (.aload_n 0, 1, 0, 0, .null)) rfl (fun _ => rfl) rfl ?_
    refine h_gi H.1 (ix := 0) (pc := 1) rfl (by decide) (by decide) ?_
    exact r_s (fr' := (6, lv_args 0 [.ref 0], [.int 6, .int ((xof hp).1 0 8)])) (hp' := hp) (q := (.bipush 6, 2, 0, 0, .null)) rfl (fun _ => rfl) (Nat.le_refl _) K
  by_cases c : zcmp .lt ((xof hp).1 0 8) 6 = true
  · have c6 : ((xof hp).1 0 8).toInt < 6 := zt c
    obtain ⟨x1, z1, H1, f1, q1, hq1, r1, a1, a2, g1⟩ := yt645 (yEA_F yAr_F) e (by omega) hp r [.ref 0] H gg (by decide) rfl
    have hq1 : q1 ∈ ys645.2.2.2.1 := hq1
    rcases List.mem_cons.mp hq1 with rfl | hq1
    · obtain ⟨x10, hp1⟩ := x1
      have e0 : x10 = none := by
        cases x10 with
        | none => rfl
        | some v => exact g1.2.2.2.2.elim
      subst e0
      have J1 : yJ hp hp1 := ⟨H1, yat_r g1 (List.mem_of_getElem? (i := 0) rfl), yF_le (by decide) f1⟩
      have n1 : hp1.1 = hp.1 := f1.2.1 rfl
      have s1000 : zSC = 1000 := rfl
      obtain ⟨x2, hp2, J2, z2, n2, hx⟩ := h_rr (d := e) (by omega) J1 (by omega)
      have n22 : hp2.1 = hp.1 := J2.2.2.2.1 rfl
      have e28 : (xof hp2).1 0 8 = (xof hp).1 0 8 := by rw [xof_rd, xof_rd, J2.2.2.2.2 0 ((8 : Nat) : Int) (Or.inr rfl)]
      have body : ∀ {r : zRe}, zR none e 2 (some .int) zc126 (26, lv_args 0 [.ref 0], x2.1.toList) x2.2 r → zR none e 2 (some .int) zc126 (0, lv_args 0 [.ref 0], []) hp r := by
        intro r K
        refine head (r_ifc (len := 3) (a := 11) (b := 0) (v0 := .null) (cn := .lt) (off := 5) rfl (fun _ => ?_) (fun z => by rw [c] at z; cases z))
        refine q_lr (k := 1) (i := 0) (x := 0) (q := (.aload_n 0, 1, 0, 0, .null)) rfl (fun _ => rfl) rfl ?_
        refine r_call (ix := 0) (as := []) (rest := []) (rv := none) (hp' := hp1) (pc := 12) rfl xr127 rfl rfl rfl (h_kd H.1 (by decide)) (Nat.le_of_ble_eq_true rfl) z1 (by omega) ?_
        refine q_lr (k := 1) (i := 0) (x := 0) (q := (.aload_n 0, 1, 0, 0, .null)) rfl (fun _ => rfl) rfl ?_
        refine h_gr J1.1.1 (ix := 0) (c := 6) (pc := 16) rfl (by decide) (by decide) ?_
        refine q_lr (k := 1) (i := 0) (x := 0) (q := (.aload_n 0, 1, 0, 0, .null)) rfl (fun _ => rfl) rfl ?_
        refine h_gr J1.1.1 (ix := 0) (c := 2) (pc := 20) rfl (by decide) (by decide) ?_
        refine r_call (ix := 6) (as := [.ref 2]) (rest := []) (rv := x2.1) (hp' := x2.2) (pc := 23) rfl xr33 rfl rfl rfl (h_kd J1.1.1 (by decide)) (Nat.le_of_ble_eq_true rfl) z2 n2 ?_
        rw [List.append_nil]
        exact K
      rcases hx with rfl | ⟨hp5, rfl, nw⟩
      · refine ⟨(some (.int (-2 - (xof hp2).1 2 4)), hp2), zCan_body (nL := 2) (rt := some .int) (cd := zc126) xg126 ⟨Nat.le_of_ble_eq_true rfl, by decide⟩ (by show hp.1 ≤ hp2.1; omega) (body ?_), one J2.1 (yF_le (by decide) J2.2.2)⟩
        refine r_s (fr' := (27, zs1 (lv_args 0 [.ref 0]) 1 .null, [])) (hp' := hp2) (q := (.astore_n 1, 1, 0, 0, .null)) rfl (fun _ => rfl) (Nat.le_refl _) ?_
        refine r_s (fr' := (28, zs1 (lv_args 0 [.ref 0]) 1 .null, [.null])) (hp' := hp2) (q := (.aload_n 1, 1, 0, 0, .null)) rfl (fun _ => rfl) (Nat.le_refl _) ?_
        refine r_s (fr' := (31, zs1 (lv_args 0 [.ref 0]) 1 .null, [])) (hp' := hp2) (q := (.ifnonnull 14, 3, 42, 0, .null)) rfl (fun _ => rfl) (Nat.le_refl _) ?_
        refine r_s (fr' := (33, zs1 (lv_args 0 [.ref 0]) 1 .null, [.int (-2)])) (hp' := hp2) (q := (.bipush (-2), 2, 0, 0, .null)) rfl (fun _ => rfl) (Nat.le_refl _) ?_
        refine q_lr (k := 1) (i := 0) (x := 0) (q := (.aload_n 0, 1, 0, 0, .null)) rfl (fun _ => rfl) rfl ?_
        refine h_gr J2.1.1 (ix := 0) (c := 2) (pc := 34) rfl (by decide) (by decide) ?_
        refine h_gi J2.1.1 (ix := 2) (pc := 37) rfl (by decide) (by decide) ?_
        refine r_s (fr' := (41, zs1 (lv_args 0 [.ref 0]) 1 .null, [.int (-2 - (xof hp2).1 2 4)])) (hp' := hp2) (q := (.isub, 1, 0, 0, .null)) rfl (fun _ => rfl) (Nat.le_refl _) ?_
        exact q_ri (q := (.ireturn, 1, 0, 0, .null)) rfl (fun _ => rfl) rfl rfl
      · obtain ⟨k, hk⟩ : ∃ k : Nat, ((xof hp).1 0 8).toInt = (k : Int) := ⟨((xof hp).1 0 8).toInt.toNat, by omega⟩
        have N2 : hp2.1 = 88 + 3 * k := by omega
        have H5 : yH0 hp5 := yH0_nw J2.1.1 N2 (by omega) nw
        obtain ⟨n, g, f, hn, w1, w2, w3, w4, w5⟩ := nw
        -- the row of rules
        have k13 := J2.1.1.2.2 13 (by omega)
        rw [yty13] at k13
        obtain ⟨f13, e13, b13⟩ : ∃ f : Nat → Option Nat, hp2.2 13 = .inl (4, 6, .inr (.inr (.inr (.inr f)))) ∧ ∀ j, j < 6 → f j = none ∨ ∃ k : Nat, f j = some (88 + 3 * k) ∧ 88 + 3 * k + 2 < hp2.1 := k13
        obtain ⟨i1, i2, fs, x8, h0, h8⟩ := xti_ok J2.1.1 (show xti 0 10 8 = true by decide)
        have ex8 : (xof hp2).1 0 8 = x8 := by
          unfold xof
          dsimp only
          rw [h0]
          dsimp only
          rw [h8]
        have x8k : x8.toInt = (k : Int) := by rw [← ex8, e28]; exact hk
        have x8n : x8.toNatClampNeg = k := by
          show x8.toInt.toNat = k
          omega
        have g13 : hp5.2 13 = .inl (4, 6, .inr (.inr (.inr (.inr f13)))) := (w5 13 (by omega) (by omega) (by omega)).trans e13
        have g0 : hp5.2 0 = .inr (10, fs) := (w5 0 (by omega) (by omega) (by omega)).trans h0
        have x9 : (x8 + 1).toInt = x8.toInt + 1 := xa1 (by show _ ≤ _ + (1 : Int); omega) (by show _ + (1 : Int) ≤ _; omega)
        have H6 : yH0 (hp5.1, zup hp5.2 13 (.inl (4, 6, .inr (.inr (.inr (.inr (va_up f13 x8.toNatClampNeg (some hp2.1)))))))) := yset_H H5 (fun _ => by
          rw [yty13]
          refine ⟨_, rfl, fun j hj => ?_⟩
          unfold va_up
          split
          · exact Or.inr ⟨k, by rw [N2], by omega⟩
          · rcases b13 j hj with q | ⟨k2, q1, q2⟩
            · exact Or.inl q
            · exact Or.inr ⟨k2, q1, by omega⟩)
        have H7 : yH0 (hp5.1, zup (zup hp5.2 13 (.inl (4, 6, .inr (.inr (.inr (.inr (va_up f13 x8.toNatClampNeg (some hp2.1)))))))) 0 (.inr (10, fs.set 8 (.int (x8 + 1))))) := yset_H H6 (fun _ => by
          have k0 := H5.2.2 0 (by omega)
          obtain ⟨u0, u1, u2⟩ := yty0
          unfold yokc at k0 ⊢
          rw [u0] at k0 ⊢
          obtain ⟨fs2, e2, l2, t2⟩ := k0
          rw [g0] at e2
          have e3 : fs = fs2 := (Prod.mk.inj (Sum.inr.inj e2)).2
          subst e3
          refine ⟨fs.set 8 (.int (x8 + 1)), by rw [u1], by rw [List.length_set]; exact l2, fun j t ht => ?_⟩
          obtain ⟨v, v1, v2⟩ := t2 j t ht
          by_cases ej : j = 8
          · subst ej
            rw [u2] at ht
            cases ht
            exact ⟨.int (x8 + 1), by rw [List.getElem?_set, if_pos rfl, if_pos (List.getElem?_eq_some_iff.mp v1).1], x8 + 1, rfl, by show (0 : Int) ≤ _; omega, by show _ ≤ (6 : Int); omega⟩
          · exact ⟨v, by rw [List.getElem?_set, if_neg (fun z => ej z.symm)]; exact v1, v2⟩)
        generalize hg : ((hp5.1, zup (zup hp5.2 13 (.inl (4, 6, .inr (.inr (.inr (.inr (va_up f13 x8.toNatClampNeg (some hp2.1)))))))) 0 (.inr (10, fs.set 8 (.int (x8 + 1))))) : zHp) = hp7 at H7
        have hl8 : 8 < fs.length := (List.getElem?_eq_some_iff.mp h8).1
        have v0 : hp7.2 0 = .inr (10, fs.set 8 (.int (x8 + 1))) := by
          rw [← hg]
          show (zup (zup hp5.2 13 (.inl (4, 6, .inr (.inr (.inr (.inr (va_up f13 x8.toNatClampNeg (some hp2.1)))))))) 0 (.inr (10, fs.set 8 (.int (x8 + 1))))) 0 = _
          exact zups
        have v13 : hp7.2 13 = .inl (4, 6, .inr (.inr (.inr (.inr (va_up f13 x8.toNatClampNeg (some hp2.1)))))) := by
          rw [← hg]
          show (zup (zup hp5.2 13 (.inl (4, 6, .inr (.inr (.inr (.inr (va_up f13 x8.toNatClampNeg (some hp2.1)))))))) 0 (.inr (10, fs.set 8 (.int (x8 + 1))))) 13 = _
          exact (zupo (by decide)).trans zups
        have vo : ∀ i, i ≠ 0 → i ≠ 13 → i ≠ hp2.1 → i ≠ hp2.1 + 1 → i ≠ hp2.1 + 2 → hp7.2 i = hp2.2 i := fun i q1 q2 q3 q4 q5 => by
          rw [← hg]
          show (zup (zup hp5.2 13 (.inl (4, 6, .inr (.inr (.inr (.inr (va_up f13 x8.toNatClampNeg (some hp2.1)))))))) 0 (.inr (10, fs.set 8 (.int (x8 + 1))))) i = _
          exact ((zupo q1).trans (zupo q2)).trans (w5 i q3 q4 q5)
        have vn : hp7.1 = hp2.1 + 3 := by rw [← hg]; exact w1
        have fM : yF ys646.2.2.2.2 hp hp7 := by
          refine ⟨by omega, (fun z => by cases z), fun i j hij => ?_⟩
          have in88 : 88 ≤ i → i ≤ 999 → yinM ys646.2.2.2.2 i j = true := fun p1 p2 => by
            unfold yinM
            rw [List.any_eq_true]
            refine ⟨(88, 999, 1000), List.mem_of_getElem? (i := 17) rfl, ?_⟩
            rw [decide_eq_true p1, decide_eq_true p2]
            rfl
          have hij2 : (j < 0 ∧ i < hp.1) ∨ yinM yMR i j = false := hij.imp_right (yleM_ok (by decide))
          rw [← J2.2.2.2.2 i j hij2]
          by_cases q0 : i = 0
          · subst q0
            unfold yrd
            rw [v0, h0]
            dsimp only
            by_cases hj : j < 0
            · rw [if_pos hj, if_pos hj]
            · rw [if_neg hj, if_neg hj, List.getElem?_set]
              rw [if_neg (fun z => ?_)]
              rcases hij with q | q
              · exact hj q.1
              · have ej : j = 8 := by omega
                subst ej
                cases q
          · by_cases q13 : i = 13
            · subst q13
              rcases hij with q | q
              · unfold yrd
                rw [v13, e13]
                dsimp only
                rw [if_pos q.1, if_pos q.1, if_pos (by omega), if_pos (by omega)]
              · cases q
            · have lt88 : ∀ z, i = hp2.1 + z → z ≤ 2 → False := fun z p1 p2 => by
                rcases hij with q | q
                · omega
                · rw [in88 (by omega) (by omega)] at q
                  cases q
              refine yrd_eq (vo i q0 q13 (fun z => lt88 0 z (by omega)) (fun z => lt88 1 z (by omega)) (fun z => lt88 2 z (by omega))) (fun hj => ?_)
              rcases hij with q | q
              · omega
              · by_cases l88 : i < 88
                · omega
                · by_cases l9 : i ≤ 999
                  · rw [in88 (by omega) l9] at q
                    cases q
                  · omega
        have E7 : yEA yAr hp7 := by
          refine ⟨yE1_F fM ?_ H.2.1, ?_, ?_⟩
          · intro c j hc
            rcases hc with rfl | rfl | rfl | rfl <;> rfl
          · have ke : ∀ i j : Nat, yinM ys646.2.2.2.2 i (j : Int) = false → (xof hp7).1 i j = (xof hp).1 i j := fun i j hj => by
              rw [xof_rd, xof_rd, fM.2.2 i j (Or.inr hj)]
            have e2 : (xof hp7).1 72 = (xof hp).1 72 := funext fun j => ke 72 j rfl
            have e4 : (xof hp7).1 74 = (xof hp).1 74 := funext fun j => ke 74 j rfl
            have e5 : (xof hp7).1 75 = (xof hp).1 75 := funext fun j => ke 75 j rfl
            unfold xA wfc wfs
            rw [e2, e4, e5]
            exact H.2.2.1
          · have e8 : (xof hp7).1 0 8 = x8 + 1 := by
              unfold xof
              dsimp only
              rw [v0]
              dsimp only
              rw [List.getElem?_set, if_pos rfl, if_pos hl8]
            rw [e8, vn]
            omega
        refine ⟨(some (.int (x8 + 1 - 1)), hp7), zCan_body (nL := 2) (rt := some .int) (cd := zc126) xg126 ⟨Nat.le_of_ble_eq_true rfl, by decide⟩ (by show hp.1 ≤ hp7.1; omega) (body ?_), one ⟨H7, E7⟩ fM⟩
        refine q_sr (k := 1) (i := 1) (x := hp2.1) (q := (.astore_n 1, 1, 0, 0, .null)) rfl (fun _ => rfl) (by decide) ?_
        have m0 : zld (zs1 (lv_args 0 [.ref 0]) 1 (.ref hp2.1)) 0 = some (.ref 0) := rfl
        have m1 : zld (zs1 (lv_args 0 [.ref 0]) 1 (.ref hp2.1)) 1 = some (.ref hp2.1) := zs1_ld _ _ _
        generalize zs1 (lv_args 0 [.ref 0]) 1 (.ref hp2.1) = lw at *
        have t5 : ∀ {z : Nat}, z < 88 → z < hp5.1 := fun hz => by omega
        have o13 : (zup hp5.2 13 (.inl (4, 6, .inr (.inr (.inr (.inr (va_up f13 x8.toNatClampNeg (some hp2.1)))))))) 0 = .inr (10, fs) := (zupo (by decide)).trans g0
        refine q_lr (k := 1) (i := 1) (q := (.aload_n 1, 1, 0, 0, .null)) rfl (fun _ => rfl) m1 ?_
        refine r_s (fr' := (42, lw, [])) (hp' := hp5) (q := (.ifnonnull 14, 3, 42, 0, .null)) rfl (fun _ => rfl) (Nat.le_refl _) ?_
        refine q_lr (k := 1) (i := 0) (q := (.aload_n 0, 1, 0, 0, .null)) rfl (fun _ => rfl) m0 ?_
        refine h_gr H5 (ix := 0) (c := 13) (pc := 43) rfl (by decide) (by decide) ?_
        refine q_lr (k := 1) (i := 0) (q := (.aload_n 0, 1, 0, 0, .null)) rfl (fun _ => rfl) m0 ?_
        refine r_get (pc := 47) (ix := 0) rfl (by decide) ⟨t5 (by decide), by decide⟩ g0 h8 ?_
        refine q_lr (k := 1) (i := 1) (q := (.aload_n 1, 1, 0, 0, .null)) rfl (fun _ => rfl) m1 ?_
        refine r_s (fr' := (52, lw, [])) (hp' := (hp5.1, zup hp5.2 13 (.inl (4, 6, .inr (.inr (.inr (.inr (va_up f13 x8.toNatClampNeg (some hp2.1))))))))) (q := (.aastore, 1, 0, 0, .null)) rfl (fun call => ?_) (Nat.le_refl _) ?_
        · show zAast (51, lw, [.ref hp2.1, .int x8, .ref 13]) hp5 = _
          unfold zAast
          dsimp only
          rw [if_pos (show 13 < hp5.1 ∧ 13 < zSC ∧ hp2.1 < hp5.1 ∧ hp2.1 < zSC from ⟨t5 (by decide), by decide, by rw [w1]; omega, by rw [s1000, N2]; omega⟩), g13, w2]
          show (if ¬ (x8 < 0 ∨ 6 ≤ x8.toNatClampNeg) then _ else _) = _
          rw [if_pos (fun z => by
            rcases z with z | z
            · have z : x8.toInt < (0 : Int) := Int32.lt_iff_toInt_lt.mp z
              omega
            · omega)]
          rfl
        refine q_lr (k := 1) (i := 0) (q := (.aload_n 0, 1, 0, 0, .null)) rfl (fun _ => rfl) m0 ?_
        refine r_s (fr' := (54, lw, [.ref 0, .ref 0])) (hp' := (hp5.1, zup hp5.2 13 (.inl (4, 6, .inr (.inr (.inr (.inr (va_up f13 x8.toNatClampNeg (some hp2.1))))))))) (q := (.dup, 1, 0, 0, .null)) rfl (fun _ => rfl) (Nat.le_refl _) ?_
        refine r_get (pc := 54) (ix := 0) rfl (by decide) ⟨t5 (by decide), by decide⟩ o13 h8 ?_
        refine r_s (fr' := (58, lw, [.int 1, .int x8, .ref 0])) (hp' := (hp5.1, zup hp5.2 13 (.inl (4, 6, .inr (.inr (.inr (.inr (va_up f13 x8.toNatClampNeg (some hp2.1))))))))) (q := (.iconst 1, 1, 0, 0, .null)) rfl (fun _ => rfl) (Nat.le_refl _) ?_
        refine r_s (fr' := (59, lw, [.int (x8 + 1), .ref 0])) (hp' := (hp5.1, zup hp5.2 13 (.inl (4, 6, .inr (.inr (.inr (.inr (va_up f13 x8.toNatClampNeg (some hp2.1))))))))) (q := (.iadd, 1, 0, 0, .null)) rfl (fun _ => rfl) (Nat.le_refl _) ?_
        refine r_put (pc := 59) (ix := 0) rfl ⟨t5 (by decide), by decide, rfl⟩ o13 hl8 ?_
        dsimp only
        rw [hg]
        refine q_lr (k := 1) (i := 0) (q := (.aload_n 0, 1, 0, 0, .null)) rfl (fun _ => rfl) m0 ?_
        refine r_get (pc := 63) (ix := 0) (v := .int (x8 + 1)) rfl (by decide) ⟨by omega, by decide⟩ v0 (by rw [List.getElem?_set, if_pos rfl, if_pos hl8]) ?_
        refine r_s (fr' := (67, lw, [.int 1, .int (x8 + 1)])) (hp' := hp7) (q := (.iconst 1, 1, 0, 0, .null)) rfl (fun _ => rfl) (Nat.le_refl _) ?_
        refine r_s (fr' := (68, lw, [.int (x8 + 1 - 1)])) (hp' := hp7) (q := (.isub, 1, 0, 0, .null)) rfl (fun _ => rfl) (Nat.le_refl _) ?_
        exact q_ri (q := (.ireturn, 1, 0, 0, .null)) rfl (fun _ => rfl) rfl rfl
    · cases hq1
  · refine ⟨(some (.int (-1)), hp), zCan_body (nL := 2) (rt := some .int) (cd := zc126) xg126 ⟨Nat.le_of_ble_eq_true rfl, by decide⟩ (Nat.le_refl _) (head (r_ifc (len := 3) (a := 11) (b := 0) (v0 := .null) (cn := .lt) (off := 5) rfl (fun z => absurd z c) (fun _ => ?_))), one H (yF_refl _ _)⟩
    refine r_s (fr' := (10, lv_args 0 [.ref 0], [.int (-1)])) (hp' := hp) (q := (.iconst (-1), 1, 0, 0, .null)) rfl (fun _ => rfl) (Nat.le_refl _) ?_
    exact q_ri (q := (.ireturn, 1, 0, 0, .null)) rfl (fun _ => rfl) rfl rfl
end YRUS
