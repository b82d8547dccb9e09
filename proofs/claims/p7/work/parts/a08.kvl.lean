/-! The class's village. -/
theorem ktC {B : zHp} {m : xS} {b : Nat → Int} {n : Nat} (hT : xT m) (N : kN m b n) (h22 : (m.1 2 2).toInt = 0) (h24 : (m.1 2 4).toInt = 0) : ∃ bg, tC m b n 0 bg 0 m := by
  have b3 : 0 ≤ (m.1 2 3).toInt ∧ (m.1 2 3).toInt ≤ 400 := hT 2 3 (0, 400) rfl
  exact ⟨(m.1 2 3).toInt.toNat, N, ⟨hT, xfr_r _ _⟩, ⟨h22, Nat.zero_le _⟩, by omega, h24⟩
set_option maxRecDepth 4000 in
theorem xg125 : zg zms 125 = some (zm125.2.2.1, zm125.2.2.2.1, zc125) := rfl
set_option maxRecDepth 20000 in
theorem kVil {hp : zHp} {b : Nat → Int} {n d : Nat} (H : yH0 hp) (hd : 20 ≤ d) (hn : ((xof hp).1 0 1).toInt = (n : Int)) (hb : ∀ j, j < n → ((xof hp).1 1 j).toInt = b j) : ∃ (v : Int32) (m' : xS), zCan d 125 [.ref 0] hp (some (.int v), xW (kB hp) m') ∧ m'.1 0 1 = 0 ∧ ((∃ g, vrun b n 42 0 0 (fun _ => 0) = .inl g ∧ v.toInt = -2 - g ∧ m'.1 10 = (xof hp).1 10 ∧ m'.1 14 = (xof hp).1 14) ∨ (∃ s, vrun b n 42 0 0 (fun _ => 0) = .inr s ∧ v.toInt = s 2 ∧ (∀ j, j < 114 → m'.1 10 j = m'.1 12 j) ∧ vR (vdn s) (m'.1 12) ∧ m'.1 14 2 = 0)) := by
  obtain ⟨e, rfl⟩ : ∃ e, d = e + 1 := ⟨d - 1, by omega⟩
  have b1 := xT_of H 0 1 (0, 400) rfl
  have b11 : ((xof hp).1 0 1).toInt ≤ 400 := b1.2
  have HB := kB_H H
  have XB := kB_X H
  have z1 := kOpen (hp := hp) (d := e) H (by omega)
  have kb := kB_m H
  have hO : ∀ {i j : Nat}, ¬ (i = 2 ∧ j = 1) → ¬ (i = 2 ∧ j = 2) → ¬ (i = 2 ∧ j = 4) → ¬ (i = 0 ∧ j = 1) → (kO (xof (kB hp))).1 i j = (xof hp).1 i j := fun z1 z2 z3 z4 => ((xu_o z4).trans ((xu_o z3).trans ((xu_o z2).trans (xu_o z1)))).trans (kb _ _)
  have e21 : (kO (xof (kB hp))).1 2 1 = (xof hp).1 0 1 := by
    have z : (kO (xof (kB hp))).1 2 1 = (if (Int32.ofNat 400) < (xof (kB hp)).1 0 1 then (Int32.ofNat 400) else (xof (kB hp)).1 0 1) := rfl
    have e400 : (Int32.ofNat 400).toInt = 400 := rfl
    rw [z, kb, if_neg (fun y => by
      have y := Int32.lt_iff_toInt_lt.mp y
      omega)]
  have N : kN (kO (xof (kB hp))) b n := ⟨by rw [e21]; exact hn, by omega, fun j hj => by rw [hO (fun z => absurd z.1 (by decide)) (fun z => absurd z.1 (by decide)) (fun z => absurd z.1 (by decide)) (fun z => absurd z.1 (by decide))]; exact hb j hj⟩
  have hTO : xT (kO (xof (kB hp))) := by
    refine xT_c (xT_c (xT_c (xT_c (xT_of HB) (i := 2) (j := 1) rfl ?_ ?_) (i := 2) (j := 2) rfl (by decide) (by decide)) (i := 2) (j := 4) rfl (by decide) (by decide)) (i := 0) (j := 1) rfl (by decide) (by decide)
    · rw [kb]
      split
      · decide
      · exact b1.1
    · rw [kb]
      split
      · decide
      · exact b1.2
  obtain ⟨bg, t0⟩ := ktC (B := hp) hTO N rfl rfl
  obtain ⟨y, hy, ⟨hT1, f1⟩, hw⟩ := c116 (F := 500) (Nat.le_refl _) t0
  have c1 := Z116_4_2_11 HB XB hy (d := e) (by omega)
  have f01 : y.2.1 0 1 = 0 := f1.2 0 1 rfl
  have f10 : y.2.1 10 = (xof hp).1 10 := funext fun j => (f1.2 10 j (by unfold yinM; rfl)).trans (hO (fun z => absurd z.1 (by decide)) (fun z => absurd z.1 (by decide)) (fun z => absurd z.1 (by decide)) (fun z => absurd z.1 (by decide)))
  have f14 : y.2.1 14 = (xof hp).1 14 := funext fun j => (f1.2 14 j (by unfold yinM; rfl)).trans (hO (fun z => absurd z.1 (by decide)) (fun z => absurd z.1 (by decide)) (fun z => absurd z.1 (by decide)) (fun z => absurd z.1 (by decide)))
  have head : ∀ {r : zRe}, zR none e 1 (some .int) zc125 (19, lv_args 0 [.ref 0], []) (xW (kB hp) y.2) r → zR none e 1 (some .int) zc125 (0, lv_args 0 [.ref 0], []) hp r := by
    intro r K
    refine q_lr (k := 1) (i := 0) (x := 0) (q := (.aload_n 0, 1, 0, 0, .null)) rfl (fun _ => rfl) rfl ?_
    refine r_call (ix := 0) (as := []) (rest := []) (rv := none) (pc := 1) rfl (show zar 127 = (0, 10) by decide +kernel) rfl rfl rfl (h_kd H (by decide)) (Nat.le_of_ble_eq_true rfl) z1 (Nat.le_refl _) ?_
    refine q_lr (k := 1) (i := 0) (x := 0) (q := (.aload_n 0, 1, 0, 0, .null)) rfl (fun _ => rfl) rfl ?_
    refine r_gr (c := 4) HB (pc := 5) rfl (by decide) (by decide) ?_
    refine q_lr (k := 1) (i := 0) (x := 0) (q := (.aload_n 0, 1, 0, 0, .null)) rfl (fun _ => rfl) rfl ?_
    refine r_gr (c := 2) HB (pc := 9) rfl (by decide) (by decide) ?_
    refine q_lr (k := 1) (i := 0) (x := 0) (q := (.aload_n 0, 1, 0, 0, .null)) rfl (fun _ => rfl) rfl ?_
    refine r_gr (c := 11) HB (pc := 13) rfl (by decide) (by decide) ?_
    exact r_call (ix := 4) (as := [.ref 2, .ref 11]) (rest := []) (rv := none) (pc := 16) rfl xr116 rfl rfl rfl (xkd HB (by decide)) (Nat.le_of_ble_eq_true rfl) c1 (Nat.le_refl _) K
  have hl : (lg_sl [Value.ref 0]).length ≤ 1 ∧ 1 ≤ 41 := ⟨Nat.le_of_ble_eq_true rfl, by decide⟩
  cases hr : vrun b n 42 0 0 (fun _ => 0) with
  | inl g =>
    rw [hr] at hw
    obtain ⟨g0, g24⟩ := hw
    have b4 : 0 ≤ (y.2.1 2 4).toInt ∧ (y.2.1 2 4).toInt ≤ 4000 := hT1 2 4 (0, 4000) rfl
    have h51 : D51_2 500 y.2 = some (0, y.2) := by
      unfold D51_2
      rw [if_pos]
      refine decide_eq_true (fun z => ?_)
      rw [z] at g24
      exact g0 g24.symm
    refine ⟨-2 - y.2.1 2 4, y.2, zCan_body (nL := 1) (rt := some .int) (cd := zc125) xg125 hl (Nat.le_refl _) (head ?_), f01, Or.inl ⟨g, rfl, ?_, f10, f14⟩⟩
    · refine q_lr (k := 1) (i := 0) (x := 0) (q := (.aload_n 0, 1, 0, 0, .null)) rfl (fun _ => rfl) rfl ?_
      refine r_gr (c := 2) HB (pc := 20) rfl (by decide) (by decide) ?_
      refine r_call (ix := 2) (as := []) (rest := []) (rv := some (.int 0)) (pc := 23) rfl xr51 rfl rfl rfl (xkd HB (by decide)) (Nat.le_of_ble_eq_true rfl) (Z51_2 HB XB h51 (d := e) (by omega)) (Nat.le_refl _) ?_
      refine r_if (len := 3) (a := 40) (b := 0) (v0 := .null) (cn := .ne) (off := 14) rfl (fun c => absurd c (by decide)) (fun _ => ?_)
      refine r_s (fr' := (31, lv_args 0 [.ref 0], [.int (-2)])) (hp' := xW (kB hp) y.2) (q := (.bipush (-2), 2, 0, 0, .null)) rfl (fun _ => rfl) (Nat.le_refl _) ?_
      refine q_lr (k := 1) (i := 0) (x := 0) (q := (.aload_n 0, 1, 0, 0, .null)) rfl (fun _ => rfl) rfl ?_
      refine r_gr (c := 2) HB (pc := 32) rfl (by decide) (by decide) ?_
      refine r_gi (v := y.2.1 2 4) HB (pc := 35) (i := _) rfl (by decide) (by decide) rfl ?_
      refine r_s (fr' := (39, lv_args 0 [.ref 0], [.int (-2 - y.2.1 2 4)])) (hp' := xW (kB hp) y.2) (q := (.isub, 1, 0, 0, .null)) rfl (fun _ => rfl) (Nat.le_refl _) ?_
      exact q_ri (q := (.ireturn, 1, 0, 0, .null)) rfl (fun _ => rfl) rfl rfl
    · exact (xs1 (by show _ ≤ (-2 : Int) - _; omega) (by show (-2 : Int) - _ ≤ _; omega)).trans (by rw [g24]; rfl)
  | inr s =>
    rw [hr] at hw
    obtain ⟨g24, R⟩ := hw
    have h51 : D51_2 500 y.2 = some (1, y.2) := by
      unfold D51_2
      rw [if_neg]
      intro z
      have z : (y.2.1 2 4).toInt ≠ 0 := zt z
      exact z g24
    have h70 : D70_9_11t 500 y.2 = some ((), xcp y.2 10 12 114) := rfl
    have h15 : D15_14 500 (xcp y.2 10 12 114) = some ((), xu (xcp y.2 10 12 114) 14 2 0) := rfl
    have h79 : D79_9 500 (xu (xcp y.2 10 12 114) 14 2 0) = some ((xcp y.2 10 12 114).1 10 2, xu (xcp y.2 10 12 114) 14 2 0) := rfl
    have e10 : ∀ j, j < 114 → (xcp y.2 10 12 114).1 10 j = y.2.1 12 j := fun j hj => xcp_s hj
    have e12 : (xcp y.2 10 12 114).1 12 = y.2.1 12 := xcp_o (by decide)
    refine ⟨(xcp y.2 10 12 114).1 10 2, xu (xcp y.2 10 12 114) 14 2 0, zCan_body (nL := 1) (rt := some .int) (cd := zc125) xg125 hl (Nat.le_refl _) (head ?_), f01, Or.inr ⟨s, rfl, ?_, fun j hj => ?_, ?_, xu_s _ _ _ _⟩⟩
    · refine q_lr (k := 1) (i := 0) (x := 0) (q := (.aload_n 0, 1, 0, 0, .null)) rfl (fun _ => rfl) rfl ?_
      refine r_gr (c := 2) HB (pc := 20) rfl (by decide) (by decide) ?_
      refine r_call (ix := 2) (as := []) (rest := []) (rv := some (.int 1)) (pc := 23) rfl xr51 rfl rfl rfl (xkd HB (by decide)) (Nat.le_of_ble_eq_true rfl) (Z51_2 HB XB h51 (d := e) (by omega)) (Nat.le_refl _) ?_
      refine r_if (len := 3) (a := 40) (b := 0) (v0 := .null) (cn := .ne) (off := 14) rfl (fun _ => ?_) (fun c => absurd c (by decide))
      refine q_lr (k := 1) (i := 0) (x := 0) (q := (.aload_n 0, 1, 0, 0, .null)) rfl (fun _ => rfl) rfl ?_
      refine r_gr (c := 9) HB (pc := 41) rfl (by decide) (by decide) ?_
      refine q_lr (k := 1) (i := 0) (x := 0) (q := (.aload_n 0, 1, 0, 0, .null)) rfl (fun _ => rfl) rfl ?_
      refine r_gr (c := 11) HB (pc := 45) rfl (by decide) (by decide) ?_
      refine r_call (ix := 9) (as := [.ref 11]) (rest := []) (rv := none) (pc := 48) rfl xr70 rfl rfl rfl (xkd HB (by decide)) (Nat.le_of_ble_eq_true rfl) (Z70_9_11t HB h70 (d := e) (by omega)) (Nat.le_refl _) ?_
      refine q_lr (k := 1) (i := 0) (x := 0) (q := (.aload_n 0, 1, 0, 0, .null)) rfl (fun _ => rfl) rfl ?_
      refine r_gr (c := 14) HB (pc := 52) rfl (by decide) (by decide) ?_
      refine r_call (ix := 14) (as := []) (rest := []) (rv := none) (pc := 55) rfl xr15 rfl rfl rfl (xkd HB (by decide)) (Nat.le_of_ble_eq_true rfl) (Z15_14 HB h15 (d := e) (by omega)) (Nat.le_refl _) ?_
      refine q_lr (k := 1) (i := 0) (x := 0) (q := (.aload_n 0, 1, 0, 0, .null)) rfl (fun _ => rfl) rfl ?_
      refine r_gr (c := 9) HB (pc := 59) rfl (by decide) (by decide) ?_
      refine r_call (ix := 9) (as := []) (rest := []) (rv := some (.int ((xcp y.2 10 12 114).1 10 2))) (pc := 62) rfl xr79 rfl rfl rfl (xkd HB (by decide)) (Nat.le_of_ble_eq_true rfl) (Z79_9 HB h79 (d := e) (by omega)) (Nat.le_refl _) ?_
      exact q_ri (q := (.ireturn, 1, 0, 0, .null)) rfl (fun _ => rfl) rfl rfl
    · rw [e10 2 (by decide)]
      exact (R.1 2 (by decide)).trans (vdn_o (by decide))
    · rw [xu_o (fun z => absurd z.1 (by decide)), xu_o (fun z => absurd z.1 (by decide)), e10 j hj, e12]
    · have : (xu (xcp y.2 10 12 114) 14 2 0).1 12 = y.2.1 12 := (funext fun j => xu_o (fun z => absurd z.1 (by decide))).trans e12
      rw [this]
      exact R
