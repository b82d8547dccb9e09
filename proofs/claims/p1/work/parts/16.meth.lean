theorem zc_79_0 {hp : zHp} (F : zFr0 hp) (d : Nat) : zCan (d + 1) 79 [.ref 9] hp (some (.int 0), hp) := by
  refine zCan_body (d := d + 0) hgm79 ⟨Nat.le_of_ble_eq_true rfl, by decide⟩ (Nat.le_refl _) ?_
  show zR _ _ _ _ _ (0, [(0, .ref 9)], []) hp _
  refine r_s (fr' := (1, [(0, .ref 9)], [.ref 9])) (hp' := hp) zf79_0 (fun _ => rfl) (Nat.le_refl _) ?_
  refine r_get zf79_1 (by decide) ⟨(hl9 F), by decide⟩ (hc9 F) (v := .ref 10) rfl ?_
  show zR _ _ _ _ _ (4, [(0, .ref 9)], [.ref 10]) hp _
  refine r_s (fr' := (5, [(0, .ref 9)], [.int 2, .ref 10])) (hp' := hp) zf79_4 (fun _ => rfl) (Nat.le_refl _) ?_
  refine r_iald zf79_5 ⟨by decide, (hl10 F)⟩ (hc10 F) (by decide) (ha10_2 F) ?_
  show zR _ _ _ _ _ (6, [(0, .ref 9)], [.int 0]) hp _
  exact r_ret zf79_6 rfl (fun _ => rfl)
theorem zc_83_1 {hp : zHp} (F : zFr0 hp) (d : Nat) (a0 : Int32) : zCan (d + 2) 83 [.ref 9, .int a0] hp (some (.int 0), hp) := by
  refine zCan_body (d := d + 1) hgm83 ⟨Nat.le_of_ble_eq_true rfl, by decide⟩ (Nat.le_refl _) ?_
  show zR _ _ _ _ _ (0, [(0, .ref 9), (1, .int a0)], []) hp _
  refine r_s (fr' := (1, [(0, .ref 9), (1, .int a0)], [.int a0])) (hp' := hp) zf83_0 (fun _ => rfl) (Nat.le_refl _) ?_
  refine r_if zf83_1 (fun q0 => ?_) (fun q0 => ?_)
  · show zR _ _ _ _ _ (16, [(0, .ref 9), (1, .int a0)], []) hp _
    refine r_s (fr' := (17, [(0, .ref 9), (1, .int a0)], [.int 0])) (hp' := hp) zf83_16 (fun _ => rfl) (Nat.le_refl _) ?_
    exact r_ret zf83_17 rfl (fun _ => rfl)
  · show zR _ _ _ _ _ (4, [(0, .ref 9), (1, .int a0)], []) hp _
    refine r_s (fr' := (5, [(0, .ref 9), (1, .int a0)], [.int a0])) (hp' := hp) zf83_4 (fun _ => rfl) (Nat.le_refl _) ?_
    refine r_s (fr' := (6, [(0, .ref 9), (1, .int a0)], [.ref 9, .int a0])) (hp' := hp) zf83_5 (fun _ => rfl) (Nat.le_refl _) ?_
    refine r_call (ix := 9) (as := []) (rest := [.int a0]) (rv := some (.int 0)) (hp' := hp) zf83_6 har79 rfl rfl rfl (hk9 F) (Nat.le_of_ble_eq_true rfl) (zc_79_0 F (d + 0) ) (Nat.le_refl _) ?_
    show zR _ _ _ _ _ (9, [(0, .ref 9), (1, .int a0)], [.int 0, .int a0]) hp _
    refine r_ifc zf83_9 (fun q1 => ?_) (fun q1 => ?_)
    · show zR _ _ _ _ _ (16, [(0, .ref 9), (1, .int a0)], []) hp _
      refine r_s (fr' := (17, [(0, .ref 9), (1, .int a0)], [.int 0])) (hp' := hp) zf83_16 (fun _ => rfl) (Nat.le_refl _) ?_
      exact r_ret zf83_17 rfl (fun _ => rfl)
    · exact zno (by simp only [zcmp, decide_eq_true_eq, decide_eq_false_iff_not, Int32.lt_iff_toInt_lt, Int32.le_iff_toInt_le, ← Int32.toInt_inj, zI0, zI1, zI2, zI3, zI4, zI5, zI6, zI7, zI8, zI9, zI10, zI11] at *; omega)
theorem zc_128_2 {hp : zHp} (F : zFr0 hp) (d : Nat) (a0 : Int32) (a1 : Int32) : zCan (d + 3) 128 [.ref 0, .int a0, .int a1] hp (some (.int (-1)), hp) := by
  refine zCan_body (d := d + 2) hgm128 ⟨Nat.le_of_ble_eq_true rfl, by decide⟩ (Nat.le_refl _) ?_
  show zR _ _ _ _ _ (0, [(0, .ref 0), (1, .int a0), (2, .int a1)], []) hp _
  refine r_s (fr' := (1, [(0, .ref 0), (1, .int a0), (2, .int a1)], [.ref 0])) (hp' := hp) zf128_0 (fun _ => rfl) (Nat.le_refl _) ?_
  refine r_get zf128_1 (by decide) ⟨(hl0 F), by decide⟩ (hc0 F) (v := .ref 9) rfl ?_
  show zR _ _ _ _ _ (4, [(0, .ref 0), (1, .int a0), (2, .int a1)], [.ref 9]) hp _
  refine r_s (fr' := (5, [(0, .ref 0), (1, .int a0), (2, .int a1)], [.int a0, .ref 9])) (hp' := hp) zf128_4 (fun _ => rfl) (Nat.le_refl _) ?_
  refine r_call (ix := 9) (as := [.int a0]) (rest := []) (rv := some (.int 0)) (hp' := hp) zf128_5 har83 rfl rfl rfl (hk9 F) (Nat.le_of_ble_eq_true rfl) (zc_83_1 F (d + 0) a0) (Nat.le_refl _) ?_
  show zR _ _ _ _ _ (8, [(0, .ref 0), (1, .int a0), (2, .int a1)], [.int 0]) hp _
  refine r_if zf128_8 (fun _ => ?_) (fun h => absurd h (by decide))
  show zR _ _ _ _ _ (21, [(0, .ref 0), (1, .int a0), (2, .int a1)], []) hp _
  refine r_s (fr' := (22, [(0, .ref 0), (1, .int a0), (2, .int a1)], [.int (-1)])) (hp' := hp) zf128_21 (fun _ => rfl) (Nat.le_refl _) ?_
  exact r_ret zf128_22 rfl (fun _ => rfl)
theorem zc_206_3 {hp : zHp} (F : zFr0 hp) (d : Nat) (a0 : Int32) : zCan (d + 1) 206 [.ref 70, .int a0] hp (some (.int 0), hp) := by
  refine zCan_body (d := d + 0) hgm206 ⟨Nat.le_of_ble_eq_true rfl, by decide⟩ (Nat.le_refl _) ?_
  show zR _ _ _ _ _ (0, [(0, .ref 70), (1, .int a0)], []) hp _
  refine r_s (fr' := (1, [(0, .ref 70), (1, .int a0)], [.int a0])) (hp' := hp) zf206_0 (fun _ => rfl) (Nat.le_refl _) ?_
  refine r_if zf206_1 (fun q0 => ?_) (fun q0 => ?_)
  · show zR _ _ _ _ _ (18, [(0, .ref 70), (1, .int a0)], []) hp _
    refine r_s (fr' := (19, [(0, .ref 70), (1, .int a0)], [.int 0])) (hp' := hp) zf206_18 (fun _ => rfl) (Nat.le_refl _) ?_
    exact r_ret zf206_19 rfl (fun _ => rfl)
  · show zR _ _ _ _ _ (4, [(0, .ref 70), (1, .int a0)], []) hp _
    refine r_s (fr' := (5, [(0, .ref 70), (1, .int a0)], [.int a0])) (hp' := hp) zf206_4 (fun _ => rfl) (Nat.le_refl _) ?_
    refine r_s (fr' := (6, [(0, .ref 70), (1, .int a0)], [.ref 70, .int a0])) (hp' := hp) zf206_5 (fun _ => rfl) (Nat.le_refl _) ?_
    refine r_get zf206_6 (by decide) ⟨(hl70 F), by decide⟩ (hc70 F) (v := .ref 80) rfl ?_
    show zR _ _ _ _ _ (9, [(0, .ref 70), (1, .int a0)], [.ref 80, .int a0]) hp _
    refine r_s (fr' := (10, [(0, .ref 70), (1, .int a0)], [.int 2, .ref 80, .int a0])) (hp' := hp) zf206_9 (fun _ => rfl) (Nat.le_refl _) ?_
    refine r_iald zf206_10 ⟨by decide, (hl80 F)⟩ (hc80 F) (by decide) (ha80_2 F) ?_
    show zR _ _ _ _ _ (11, [(0, .ref 70), (1, .int a0)], [.int 0, .int a0]) hp _
    refine r_ifc zf206_11 (fun q1 => ?_) (fun q1 => ?_)
    · show zR _ _ _ _ _ (18, [(0, .ref 70), (1, .int a0)], []) hp _
      refine r_s (fr' := (19, [(0, .ref 70), (1, .int a0)], [.int 0])) (hp' := hp) zf206_18 (fun _ => rfl) (Nat.le_refl _) ?_
      exact r_ret zf206_19 rfl (fun _ => rfl)
    · exact zno (by simp only [zcmp, decide_eq_true_eq, decide_eq_false_iff_not, Int32.lt_iff_toInt_lt, Int32.le_iff_toInt_le, ← Int32.toInt_inj, zI0, zI1, zI2, zI3, zI4, zI5, zI6, zI7, zI8, zI9, zI10, zI11] at *; omega)
theorem zc_217_4 {hp : zHp} (F : zFr0 hp) (d : Nat) (a0 : Int32) (a1 : Int32) : zCan (d + 2) 217 [.ref 70, .int a0, .int a1] hp (some (.int (-1)), hp) := by
  refine zCan_body (d := d + 1) hgm217 ⟨Nat.le_of_ble_eq_true rfl, by decide⟩ (Nat.le_refl _) ?_
  show zR _ _ _ _ _ (0, [(0, .ref 70), (1, .int a0), (2, .int a1)], []) hp _
  refine r_s (fr' := (1, [(0, .ref 70), (1, .int a0), (2, .int a1)], [.ref 70])) (hp' := hp) zf217_0 (fun _ => rfl) (Nat.le_refl _) ?_
  refine r_s (fr' := (2, [(0, .ref 70), (1, .int a0), (2, .int a1)], [.int a0, .ref 70])) (hp' := hp) zf217_1 (fun _ => rfl) (Nat.le_refl _) ?_
  refine r_call (ix := 70) (as := [.int a0]) (rest := []) (rv := some (.int 0)) (hp' := hp) zf217_2 har206 rfl rfl rfl (hk70 F) (Nat.le_of_ble_eq_true rfl) (zc_206_3 F (d + 0) a0) (Nat.le_refl _) ?_
  show zR _ _ _ _ _ (5, [(0, .ref 70), (1, .int a0), (2, .int a1)], [.int 0]) hp _
  refine r_if zf217_5 (fun _ => ?_) (fun h => absurd h (by decide))
  show zR _ _ _ _ _ (20, [(0, .ref 70), (1, .int a0), (2, .int a1)], []) hp _
  refine r_s (fr' := (21, [(0, .ref 70), (1, .int a0), (2, .int a1)], [.int (-1)])) (hp' := hp) zf217_20 (fun _ => rfl) (Nat.le_refl _) ?_
  exact r_ret zf217_21 rfl (fun _ => rfl)
theorem zc_80_5 {hp : zHp} (F : zFr0 hp) (d : Nat) : zCan (d + 1) 80 [.ref 9] hp (some (.int 0), hp) := by
  refine zCan_body (d := d + 0) hgm80 ⟨Nat.le_of_ble_eq_true rfl, by decide⟩ (Nat.le_refl _) ?_
  show zR _ _ _ _ _ (0, [(0, .ref 9)], []) hp _
  refine r_s (fr' := (1, [(0, .ref 9)], [.ref 9])) (hp' := hp) zf80_0 (fun _ => rfl) (Nat.le_refl _) ?_
  refine r_get zf80_1 (by decide) ⟨(hl9 F), by decide⟩ (hc9 F) (v := .ref 10) rfl ?_
  show zR _ _ _ _ _ (4, [(0, .ref 9)], [.ref 10]) hp _
  refine r_s (fr' := (5, [(0, .ref 9)], [.int 3, .ref 10])) (hp' := hp) zf80_4 (fun _ => rfl) (Nat.le_refl _) ?_
  refine r_iald zf80_5 ⟨by decide, (hl10 F)⟩ (hc10 F) (by decide) (ha10_3 F) ?_
  show zR _ _ _ _ _ (6, [(0, .ref 9)], [.int 0]) hp _
  exact r_ret zf80_6 rfl (fun _ => rfl)
theorem zc_84_6 {hp : zHp} (F : zFr0 hp) (d : Nat) (a0 : Int32) : zCan (d + 2) 84 [.ref 9, .int a0] hp (some (.int 0), hp) := by
  refine zCan_body (d := d + 1) hgm84 ⟨Nat.le_of_ble_eq_true rfl, by decide⟩ (Nat.le_refl _) ?_
  show zR _ _ _ _ _ (0, [(0, .ref 9), (1, .int a0)], []) hp _
  refine r_s (fr' := (1, [(0, .ref 9), (1, .int a0)], [.int a0])) (hp' := hp) zf84_0 (fun _ => rfl) (Nat.le_refl _) ?_
  refine r_if zf84_1 (fun q0 => ?_) (fun q0 => ?_)
  · show zR _ _ _ _ _ (16, [(0, .ref 9), (1, .int a0)], []) hp _
    refine r_s (fr' := (17, [(0, .ref 9), (1, .int a0)], [.int 0])) (hp' := hp) zf84_16 (fun _ => rfl) (Nat.le_refl _) ?_
    exact r_ret zf84_17 rfl (fun _ => rfl)
  · show zR _ _ _ _ _ (4, [(0, .ref 9), (1, .int a0)], []) hp _
    refine r_s (fr' := (5, [(0, .ref 9), (1, .int a0)], [.int a0])) (hp' := hp) zf84_4 (fun _ => rfl) (Nat.le_refl _) ?_
    refine r_s (fr' := (6, [(0, .ref 9), (1, .int a0)], [.ref 9, .int a0])) (hp' := hp) zf84_5 (fun _ => rfl) (Nat.le_refl _) ?_
    refine r_call (ix := 9) (as := []) (rest := [.int a0]) (rv := some (.int 0)) (hp' := hp) zf84_6 har80 rfl rfl rfl (hk9 F) (Nat.le_of_ble_eq_true rfl) (zc_80_5 F (d + 0) ) (Nat.le_refl _) ?_
    show zR _ _ _ _ _ (9, [(0, .ref 9), (1, .int a0)], [.int 0, .int a0]) hp _
    refine r_ifc zf84_9 (fun q1 => ?_) (fun q1 => ?_)
    · show zR _ _ _ _ _ (16, [(0, .ref 9), (1, .int a0)], []) hp _
      refine r_s (fr' := (17, [(0, .ref 9), (1, .int a0)], [.int 0])) (hp' := hp) zf84_16 (fun _ => rfl) (Nat.le_refl _) ?_
      exact r_ret zf84_17 rfl (fun _ => rfl)
    · exact zno (by simp only [zcmp, decide_eq_true_eq, decide_eq_false_iff_not, Int32.lt_iff_toInt_lt, Int32.le_iff_toInt_le, ← Int32.toInt_inj, zI0, zI1, zI2, zI3, zI4, zI5, zI6, zI7, zI8, zI9, zI10, zI11] at *; omega)
theorem zc_129_7 {hp : zHp} (F : zFr0 hp) (d : Nat) (a0 : Int32) (a1 : Int32) : zCan (d + 3) 129 [.ref 0, .int a0, .int a1] hp (some (.int (-2)), hp) := by
  refine zCan_body (d := d + 2) hgm129 ⟨Nat.le_of_ble_eq_true rfl, by decide⟩ (Nat.le_refl _) ?_
  show zR _ _ _ _ _ (0, [(0, .ref 0), (1, .int a0), (2, .int a1)], []) hp _
  refine r_s (fr' := (1, [(0, .ref 0), (1, .int a0), (2, .int a1)], [.ref 0])) (hp' := hp) zf129_0 (fun _ => rfl) (Nat.le_refl _) ?_
  refine r_get zf129_1 (by decide) ⟨(hl0 F), by decide⟩ (hc0 F) (v := .ref 9) rfl ?_
  show zR _ _ _ _ _ (4, [(0, .ref 0), (1, .int a0), (2, .int a1)], [.ref 9]) hp _
  refine r_s (fr' := (5, [(0, .ref 0), (1, .int a0), (2, .int a1)], [.int a0, .ref 9])) (hp' := hp) zf129_4 (fun _ => rfl) (Nat.le_refl _) ?_
  refine r_call (ix := 9) (as := [.int a0]) (rest := []) (rv := some (.int 0)) (hp' := hp) zf129_5 har84 rfl rfl rfl (hk9 F) (Nat.le_of_ble_eq_true rfl) (zc_84_6 F (d + 0) a0) (Nat.le_refl _) ?_
  show zR _ _ _ _ _ (8, [(0, .ref 0), (1, .int a0), (2, .int a1)], [.int 0]) hp _
  refine r_if zf129_8 (fun _ => ?_) (fun h => absurd h (by decide))
  show zR _ _ _ _ _ (20, [(0, .ref 0), (1, .int a0), (2, .int a1)], []) hp _
  refine r_s (fr' := (22, [(0, .ref 0), (1, .int a0), (2, .int a1)], [.int (-2)])) (hp' := hp) zf129_20 (fun _ => rfl) (Nat.le_refl _) ?_
  exact r_ret zf129_22 rfl (fun _ => rfl)
theorem zc_207_8 {hp : zHp} (F : zFr0 hp) (d : Nat) (a0 : Int32) : zCan (d + 1) 207 [.ref 70, .int a0] hp (some (.int 0), hp) := by
  refine zCan_body (d := d + 0) hgm207 ⟨Nat.le_of_ble_eq_true rfl, by decide⟩ (Nat.le_refl _) ?_
  show zR _ _ _ _ _ (0, [(0, .ref 70), (1, .int a0)], []) hp _
  refine r_s (fr' := (1, [(0, .ref 70), (1, .int a0)], [.int a0])) (hp' := hp) zf207_0 (fun _ => rfl) (Nat.le_refl _) ?_
  refine r_if zf207_1 (fun q0 => ?_) (fun q0 => ?_)
  · show zR _ _ _ _ _ (18, [(0, .ref 70), (1, .int a0)], []) hp _
    refine r_s (fr' := (19, [(0, .ref 70), (1, .int a0)], [.int 0])) (hp' := hp) zf207_18 (fun _ => rfl) (Nat.le_refl _) ?_
    exact r_ret zf207_19 rfl (fun _ => rfl)
  · show zR _ _ _ _ _ (4, [(0, .ref 70), (1, .int a0)], []) hp _
    refine r_s (fr' := (5, [(0, .ref 70), (1, .int a0)], [.int a0])) (hp' := hp) zf207_4 (fun _ => rfl) (Nat.le_refl _) ?_
    refine r_s (fr' := (6, [(0, .ref 70), (1, .int a0)], [.ref 70, .int a0])) (hp' := hp) zf207_5 (fun _ => rfl) (Nat.le_refl _) ?_
    refine r_get zf207_6 (by decide) ⟨(hl70 F), by decide⟩ (hc70 F) (v := .ref 80) rfl ?_
    show zR _ _ _ _ _ (9, [(0, .ref 70), (1, .int a0)], [.ref 80, .int a0]) hp _
    refine r_s (fr' := (10, [(0, .ref 70), (1, .int a0)], [.int 3, .ref 80, .int a0])) (hp' := hp) zf207_9 (fun _ => rfl) (Nat.le_refl _) ?_
    refine r_iald zf207_10 ⟨by decide, (hl80 F)⟩ (hc80 F) (by decide) (ha80_3 F) ?_
    show zR _ _ _ _ _ (11, [(0, .ref 70), (1, .int a0)], [.int 0, .int a0]) hp _
    refine r_ifc zf207_11 (fun q1 => ?_) (fun q1 => ?_)
    · show zR _ _ _ _ _ (18, [(0, .ref 70), (1, .int a0)], []) hp _
      refine r_s (fr' := (19, [(0, .ref 70), (1, .int a0)], [.int 0])) (hp' := hp) zf207_18 (fun _ => rfl) (Nat.le_refl _) ?_
      exact r_ret zf207_19 rfl (fun _ => rfl)
    · exact zno (by simp only [zcmp, decide_eq_true_eq, decide_eq_false_iff_not, Int32.lt_iff_toInt_lt, Int32.le_iff_toInt_le, ← Int32.toInt_inj, zI0, zI1, zI2, zI3, zI4, zI5, zI6, zI7, zI8, zI9, zI10, zI11] at *; omega)
theorem zc_218_9 {hp : zHp} (F : zFr0 hp) (d : Nat) (a0 : Int32) (a1 : Int32) : zCan (d + 2) 218 [.ref 70, .int a0, .int a1] hp (some (.int (-2)), hp) := by
  refine zCan_body (d := d + 1) hgm218 ⟨Nat.le_of_ble_eq_true rfl, by decide⟩ (Nat.le_refl _) ?_
  show zR _ _ _ _ _ (0, [(0, .ref 70), (1, .int a0), (2, .int a1)], []) hp _
  refine r_s (fr' := (1, [(0, .ref 70), (1, .int a0), (2, .int a1)], [.ref 70])) (hp' := hp) zf218_0 (fun _ => rfl) (Nat.le_refl _) ?_
  refine r_s (fr' := (2, [(0, .ref 70), (1, .int a0), (2, .int a1)], [.int a0, .ref 70])) (hp' := hp) zf218_1 (fun _ => rfl) (Nat.le_refl _) ?_
  refine r_call (ix := 70) (as := [.int a0]) (rest := []) (rv := some (.int 0)) (hp' := hp) zf218_2 har207 rfl rfl rfl (hk70 F) (Nat.le_of_ble_eq_true rfl) (zc_207_8 F (d + 0) a0) (Nat.le_refl _) ?_
  show zR _ _ _ _ _ (5, [(0, .ref 70), (1, .int a0), (2, .int a1)], [.int 0]) hp _
  refine r_if zf218_5 (fun _ => ?_) (fun h => absurd h (by decide))
  show zR _ _ _ _ _ (20, [(0, .ref 70), (1, .int a0), (2, .int a1)], []) hp _
  refine r_s (fr' := (22, [(0, .ref 70), (1, .int a0), (2, .int a1)], [.int (-2)])) (hp' := hp) zf218_20 (fun _ => rfl) (Nat.le_refl _) ?_
  exact r_ret zf218_22 rfl (fun _ => rfl)
theorem zc_77_10 {hp : zHp} (F : zFr0 hp) (d : Nat) : zCan (d + 1) 77 [.ref 9] hp (some (.int 0), hp) := by
  refine zCan_body (d := d + 0) hgm77 ⟨Nat.le_of_ble_eq_true rfl, by decide⟩ (Nat.le_refl _) ?_
  show zR _ _ _ _ _ (0, [(0, .ref 9)], []) hp _
  refine r_s (fr' := (1, [(0, .ref 9)], [.ref 9])) (hp' := hp) zf77_0 (fun _ => rfl) (Nat.le_refl _) ?_
  refine r_get zf77_1 (by decide) ⟨(hl9 F), by decide⟩ (hc9 F) (v := .ref 10) rfl ?_
  show zR _ _ _ _ _ (4, [(0, .ref 9)], [.ref 10]) hp _
  refine r_s (fr' := (5, [(0, .ref 9)], [.int 0, .ref 10])) (hp' := hp) zf77_4 (fun _ => rfl) (Nat.le_refl _) ?_
  refine r_iald zf77_5 ⟨by decide, (hl10 F)⟩ (hc10 F) (by decide) (ha10_0 F) ?_
  show zR _ _ _ _ _ (6, [(0, .ref 9)], [.int 0]) hp _
  exact r_ret zf77_6 rfl (fun _ => rfl)
theorem zc_85_11 {hp : zHp} (F : zFr0 hp) (d : Nat) (a0 : Int32) : zCan (d + 2) 85 [.ref 9, .int a0] hp (some (.int 0), hp) := by
  refine zCan_body (d := d + 1) hgm85 ⟨Nat.le_of_ble_eq_true rfl, by decide⟩ (Nat.le_refl _) ?_
  show zR _ _ _ _ _ (0, [(0, .ref 9), (1, .int a0)], []) hp _
  refine r_s (fr' := (1, [(0, .ref 9), (1, .int a0)], [.int a0])) (hp' := hp) zf85_0 (fun _ => rfl) (Nat.le_refl _) ?_
  refine r_if zf85_1 (fun q0 => ?_) (fun q0 => ?_)
  · show zR _ _ _ _ _ (16, [(0, .ref 9), (1, .int a0)], []) hp _
    refine r_s (fr' := (17, [(0, .ref 9), (1, .int a0)], [.int 0])) (hp' := hp) zf85_16 (fun _ => rfl) (Nat.le_refl _) ?_
    exact r_ret zf85_17 rfl (fun _ => rfl)
  · show zR _ _ _ _ _ (4, [(0, .ref 9), (1, .int a0)], []) hp _
    refine r_s (fr' := (5, [(0, .ref 9), (1, .int a0)], [.int a0])) (hp' := hp) zf85_4 (fun _ => rfl) (Nat.le_refl _) ?_
    refine r_s (fr' := (6, [(0, .ref 9), (1, .int a0)], [.ref 9, .int a0])) (hp' := hp) zf85_5 (fun _ => rfl) (Nat.le_refl _) ?_
    refine r_call (ix := 9) (as := []) (rest := [.int a0]) (rv := some (.int 0)) (hp' := hp) zf85_6 har77 rfl rfl rfl (hk9 F) (Nat.le_of_ble_eq_true rfl) (zc_77_10 F (d + 0) ) (Nat.le_refl _) ?_
    show zR _ _ _ _ _ (9, [(0, .ref 9), (1, .int a0)], [.int 0, .int a0]) hp _
    refine r_ifc zf85_9 (fun q1 => ?_) (fun q1 => ?_)
    · show zR _ _ _ _ _ (16, [(0, .ref 9), (1, .int a0)], []) hp _
      refine r_s (fr' := (17, [(0, .ref 9), (1, .int a0)], [.int 0])) (hp' := hp) zf85_16 (fun _ => rfl) (Nat.le_refl _) ?_
      exact r_ret zf85_17 rfl (fun _ => rfl)
    · exact zno (by simp only [zcmp, decide_eq_true_eq, decide_eq_false_iff_not, Int32.lt_iff_toInt_lt, Int32.le_iff_toInt_le, ← Int32.toInt_inj, zI0, zI1, zI2, zI3, zI4, zI5, zI6, zI7, zI8, zI9, zI10, zI11] at *; omega)
theorem zc_86_12 {hp : zHp} (F : zFr0 hp) (d : Nat) (a0 : Int32) (a1 : Int32) : zCan (d + 3) 86 [.ref 9, .int a0, .int a1] hp (some (.int 0), hp) := by
  refine zCan_body (d := d + 2) hgm86 ⟨Nat.le_of_ble_eq_true rfl, by decide⟩ (Nat.le_refl _) ?_
  show zR _ _ _ _ _ (0, [(0, .ref 9), (1, .int a0), (2, .int a1)], []) hp _
  refine r_s (fr' := (1, [(0, .ref 9), (1, .int a0), (2, .int a1)], [.ref 9])) (hp' := hp) zf86_0 (fun _ => rfl) (Nat.le_refl _) ?_
  refine r_s (fr' := (2, [(0, .ref 9), (1, .int a0), (2, .int a1)], [.int a0, .ref 9])) (hp' := hp) zf86_1 (fun _ => rfl) (Nat.le_refl _) ?_
  refine r_call (ix := 9) (as := [.int a0]) (rest := []) (rv := some (.int 0)) (hp' := hp) zf86_2 har85 rfl rfl rfl (hk9 F) (Nat.le_of_ble_eq_true rfl) (zc_85_11 F (d + 0) a0) (Nat.le_refl _) ?_
  show zR _ _ _ _ _ (5, [(0, .ref 9), (1, .int a0), (2, .int a1)], [.int 0]) hp _
  refine r_if zf86_5 (fun _ => ?_) (fun h => absurd h (by decide))
  show zR _ _ _ _ _ (25, [(0, .ref 9), (1, .int a0), (2, .int a1)], []) hp _
  refine r_s (fr' := (26, [(0, .ref 9), (1, .int a0), (2, .int a1)], [.int 0])) (hp' := hp) zf86_25 (fun _ => rfl) (Nat.le_refl _) ?_
  exact r_ret zf86_26 rfl (fun _ => rfl)
theorem zc_130_13 {hp : zHp} (F : zFr0 hp) (d : Nat) (a0 : Int32) (a1 : Int32) (a2 : Int32) : zCan (d + 4) 130 [.ref 0, .int a0, .int a1, .int a2] hp (some (.int (-1)), hp) := by
  refine zCan_body (d := d + 3) hgm130 ⟨Nat.le_of_ble_eq_true rfl, by decide⟩ (Nat.le_refl _) ?_
  show zR _ _ _ _ _ (0, [(0, .ref 0), (1, .int a0), (2, .int a1), (3, .int a2)], []) hp _
  refine r_s (fr' := (1, [(0, .ref 0), (1, .int a0), (2, .int a1), (3, .int a2)], [.ref 0])) (hp' := hp) zf130_0 (fun _ => rfl) (Nat.le_refl _) ?_
  refine r_get zf130_1 (by decide) ⟨(hl0 F), by decide⟩ (hc0 F) (v := .ref 9) rfl ?_
  show zR _ _ _ _ _ (4, [(0, .ref 0), (1, .int a0), (2, .int a1), (3, .int a2)], [.ref 9]) hp _
  refine r_s (fr' := (5, [(0, .ref 0), (1, .int a0), (2, .int a1), (3, .int a2)], [.int a0, .ref 9])) (hp' := hp) zf130_4 (fun _ => rfl) (Nat.le_refl _) ?_
  refine r_s (fr' := (6, [(0, .ref 0), (1, .int a0), (2, .int a1), (3, .int a2)], [.int a1, .int a0, .ref 9])) (hp' := hp) zf130_5 (fun _ => rfl) (Nat.le_refl _) ?_
  refine r_call (ix := 9) (as := [.int a0, .int a1]) (rest := []) (rv := some (.int 0)) (hp' := hp) zf130_6 har86 rfl rfl rfl (hk9 F) (Nat.le_of_ble_eq_true rfl) (zc_86_12 F (d + 0) a0 a1) (Nat.le_refl _) ?_
  show zR _ _ _ _ _ (9, [(0, .ref 0), (1, .int a0), (2, .int a1), (3, .int a2)], [.int 0]) hp _
  refine r_if zf130_9 (fun _ => ?_) (fun h => absurd h (by decide))
  show zR _ _ _ _ _ (21, [(0, .ref 0), (1, .int a0), (2, .int a1), (3, .int a2)], []) hp _
  refine r_s (fr' := (22, [(0, .ref 0), (1, .int a0), (2, .int a1), (3, .int a2)], [.int (-1)])) (hp' := hp) zf130_21 (fun _ => rfl) (Nat.le_refl _) ?_
  exact r_ret zf130_22 rfl (fun _ => rfl)
theorem zc_205_14 {hp : zHp} (F : zFr0 hp) (d : Nat) (a0 : Int32) : zCan (d + 1) 205 [.ref 70, .int a0] hp (some (.int 0), hp) := by
  refine zCan_body (d := d + 0) hgm205 ⟨Nat.le_of_ble_eq_true rfl, by decide⟩ (Nat.le_refl _) ?_
  show zR _ _ _ _ _ (0, [(0, .ref 70), (1, .int a0)], []) hp _
  refine r_s (fr' := (1, [(0, .ref 70), (1, .int a0)], [.int a0])) (hp' := hp) zf205_0 (fun _ => rfl) (Nat.le_refl _) ?_
  refine r_if zf205_1 (fun q0 => ?_) (fun q0 => ?_)
  · show zR _ _ _ _ _ (18, [(0, .ref 70), (1, .int a0)], []) hp _
    refine r_s (fr' := (19, [(0, .ref 70), (1, .int a0)], [.int 0])) (hp' := hp) zf205_18 (fun _ => rfl) (Nat.le_refl _) ?_
    exact r_ret zf205_19 rfl (fun _ => rfl)
  · show zR _ _ _ _ _ (4, [(0, .ref 70), (1, .int a0)], []) hp _
    refine r_s (fr' := (5, [(0, .ref 70), (1, .int a0)], [.int a0])) (hp' := hp) zf205_4 (fun _ => rfl) (Nat.le_refl _) ?_
    refine r_s (fr' := (6, [(0, .ref 70), (1, .int a0)], [.ref 70, .int a0])) (hp' := hp) zf205_5 (fun _ => rfl) (Nat.le_refl _) ?_
    refine r_get zf205_6 (by decide) ⟨(hl70 F), by decide⟩ (hc70 F) (v := .ref 80) rfl ?_
    show zR _ _ _ _ _ (9, [(0, .ref 70), (1, .int a0)], [.ref 80, .int a0]) hp _
    refine r_s (fr' := (10, [(0, .ref 70), (1, .int a0)], [.int 0, .ref 80, .int a0])) (hp' := hp) zf205_9 (fun _ => rfl) (Nat.le_refl _) ?_
    refine r_iald zf205_10 ⟨by decide, (hl80 F)⟩ (hc80 F) (by decide) (ha80_0 F) ?_
    show zR _ _ _ _ _ (11, [(0, .ref 70), (1, .int a0)], [.int 0, .int a0]) hp _
    refine r_ifc zf205_11 (fun q1 => ?_) (fun q1 => ?_)
    · show zR _ _ _ _ _ (18, [(0, .ref 70), (1, .int a0)], []) hp _
      refine r_s (fr' := (19, [(0, .ref 70), (1, .int a0)], [.int 0])) (hp' := hp) zf205_18 (fun _ => rfl) (Nat.le_refl _) ?_
      exact r_ret zf205_19 rfl (fun _ => rfl)
    · exact zno (by simp only [zcmp, decide_eq_true_eq, decide_eq_false_iff_not, Int32.lt_iff_toInt_lt, Int32.le_iff_toInt_le, ← Int32.toInt_inj, zI0, zI1, zI2, zI3, zI4, zI5, zI6, zI7, zI8, zI9, zI10, zI11] at *; omega)
theorem zc_219_15 {hp : zHp} (F : zFr0 hp) (d : Nat) (a0 : Int32) (a1 : Int32) (a2 : Int32) : zCan (d + 2) 219 [.ref 70, .int a0, .int a1, .int a2] hp (some (.int (-1)), hp) := by
  refine zCan_body (d := d + 1) hgm219 ⟨Nat.le_of_ble_eq_true rfl, by decide⟩ (Nat.le_refl _) ?_
  show zR _ _ _ _ _ (0, [(0, .ref 70), (1, .int a0), (2, .int a1), (3, .int a2)], []) hp _
  refine r_s (fr' := (1, [(0, .ref 70), (1, .int a0), (2, .int a1), (3, .int a2)], [.ref 70])) (hp' := hp) zf219_0 (fun _ => rfl) (Nat.le_refl _) ?_
  refine r_s (fr' := (2, [(0, .ref 70), (1, .int a0), (2, .int a1), (3, .int a2)], [.int a0, .ref 70])) (hp' := hp) zf219_1 (fun _ => rfl) (Nat.le_refl _) ?_
  refine r_call (ix := 70) (as := [.int a0]) (rest := []) (rv := some (.int 0)) (hp' := hp) zf219_2 har205 rfl rfl rfl (hk70 F) (Nat.le_of_ble_eq_true rfl) (zc_205_14 F (d + 0) a0) (Nat.le_refl _) ?_
  show zR _ _ _ _ _ (5, [(0, .ref 70), (1, .int a0), (2, .int a1), (3, .int a2)], [.int 0]) hp _
  refine r_if zf219_5 (fun _ => ?_) (fun h => absurd h (by decide))
  show zR _ _ _ _ _ (31, [(0, .ref 70), (1, .int a0), (2, .int a1), (3, .int a2)], []) hp _
  refine r_s (fr' := (32, [(0, .ref 70), (1, .int a0), (2, .int a1), (3, .int a2)], [.int (-1)])) (hp' := hp) zf219_31 (fun _ => rfl) (Nat.le_refl _) ?_
  exact r_ret zf219_32 rfl (fun _ => rfl)
theorem zc_131_16 {hp : zHp} (F : zFr0 hp) (d : Nat) (a0 : Int32) (a1 : Int32) : zCan (d + 3) 131 [.ref 0, .int a0, .int a1] hp (some (.int (-1)), hp) := by
  refine zCan_body (d := d + 2) hgm131 ⟨Nat.le_of_ble_eq_true rfl, by decide⟩ (Nat.le_refl _) ?_
  show zR _ _ _ _ _ (0, [(0, .ref 0), (1, .int a0), (2, .int a1)], []) hp _
  refine r_s (fr' := (1, [(0, .ref 0), (1, .int a0), (2, .int a1)], [.ref 0])) (hp' := hp) zf131_0 (fun _ => rfl) (Nat.le_refl _) ?_
  refine r_get zf131_1 (by decide) ⟨(hl0 F), by decide⟩ (hc0 F) (v := .ref 9) rfl ?_
  show zR _ _ _ _ _ (4, [(0, .ref 0), (1, .int a0), (2, .int a1)], [.ref 9]) hp _
  refine r_s (fr' := (5, [(0, .ref 0), (1, .int a0), (2, .int a1)], [.int a0, .ref 9])) (hp' := hp) zf131_4 (fun _ => rfl) (Nat.le_refl _) ?_
  refine r_call (ix := 9) (as := [.int a0]) (rest := []) (rv := some (.int 0)) (hp' := hp) zf131_5 har83 rfl rfl rfl (hk9 F) (Nat.le_of_ble_eq_true rfl) (zc_83_1 F (d + 0) a0) (Nat.le_refl _) ?_
  show zR _ _ _ _ _ (8, [(0, .ref 0), (1, .int a0), (2, .int a1)], [.int 0]) hp _
  refine r_if zf131_8 (fun _ => ?_) (fun h => absurd h (by decide))
  show zR _ _ _ _ _ (34, [(0, .ref 0), (1, .int a0), (2, .int a1)], []) hp _
  refine r_s (fr' := (35, [(0, .ref 0), (1, .int a0), (2, .int a1)], [.int (-1)])) (hp' := hp) zf131_34 (fun _ => rfl) (Nat.le_refl _) ?_
  exact r_ret zf131_35 rfl (fun _ => rfl)
theorem zc_226_17 {hp : zHp} (F : zFr0 hp) (d : Nat) (a0 : Int32) (a1 : Int32) : zCan (d + 2) 226 [.ref 70, .int a0, .int a1] hp (some (.int (-1)), hp) := by
  refine zCan_body (d := d + 1) hgm226 ⟨Nat.le_of_ble_eq_true rfl, by decide⟩ (Nat.le_refl _) ?_
  show zR _ _ _ _ _ (0, [(0, .ref 70), (1, .int a0), (2, .int a1)], []) hp _
  refine r_s (fr' := (1, [(0, .ref 70), (1, .int a0), (2, .int a1)], [.ref 70])) (hp' := hp) zf226_0 (fun _ => rfl) (Nat.le_refl _) ?_
  refine r_s (fr' := (2, [(0, .ref 70), (1, .int a0), (2, .int a1)], [.int a0, .ref 70])) (hp' := hp) zf226_1 (fun _ => rfl) (Nat.le_refl _) ?_
  refine r_call (ix := 70) (as := [.int a0]) (rest := []) (rv := some (.int 0)) (hp' := hp) zf226_2 har206 rfl rfl rfl (hk70 F) (Nat.le_of_ble_eq_true rfl) (zc_206_3 F (d + 0) a0) (Nat.le_refl _) ?_
  show zR _ _ _ _ _ (5, [(0, .ref 70), (1, .int a0), (2, .int a1)], [.int 0]) hp _
  refine r_if zf226_5 (fun _ => ?_) (fun h => absurd h (by decide))
  show zR _ _ _ _ _ (25, [(0, .ref 70), (1, .int a0), (2, .int a1)], []) hp _
  refine r_s (fr' := (26, [(0, .ref 70), (1, .int a0), (2, .int a1)], [.int (-1)])) (hp' := hp) zf226_25 (fun _ => rfl) (Nat.le_refl _) ?_
  exact r_ret zf226_26 rfl (fun _ => rfl)
theorem zc_132_18 {hp : zHp} (F : zFr0 hp) (d : Nat) (a0 : Int32) : zCan (d + 3) 132 [.ref 0, .int a0] hp (some (.int (-1)), hp) := by
  refine zCan_body (d := d + 2) hgm132 ⟨Nat.le_of_ble_eq_true rfl, by decide⟩ (Nat.le_refl _) ?_
  show zR _ _ _ _ _ (0, [(0, .ref 0), (1, .int a0)], []) hp _
  refine r_s (fr' := (1, [(0, .ref 0), (1, .int a0)], [.ref 0])) (hp' := hp) zf132_0 (fun _ => rfl) (Nat.le_refl _) ?_
  refine r_get zf132_1 (by decide) ⟨(hl0 F), by decide⟩ (hc0 F) (v := .ref 9) rfl ?_
  show zR _ _ _ _ _ (4, [(0, .ref 0), (1, .int a0)], [.ref 9]) hp _
  refine r_s (fr' := (5, [(0, .ref 0), (1, .int a0)], [.int a0, .ref 9])) (hp' := hp) zf132_4 (fun _ => rfl) (Nat.le_refl _) ?_
  refine r_call (ix := 9) (as := [.int a0]) (rest := []) (rv := some (.int 0)) (hp' := hp) zf132_5 har83 rfl rfl rfl (hk9 F) (Nat.le_of_ble_eq_true rfl) (zc_83_1 F (d + 0) a0) (Nat.le_refl _) ?_
  show zR _ _ _ _ _ (8, [(0, .ref 0), (1, .int a0)], [.int 0]) hp _
  refine r_if zf132_8 (fun _ => ?_) (fun h => absurd h (by decide))
  show zR _ _ _ _ _ (22, [(0, .ref 0), (1, .int a0)], []) hp _
  refine r_s (fr' := (23, [(0, .ref 0), (1, .int a0)], [.int (-1)])) (hp' := hp) zf132_22 (fun _ => rfl) (Nat.le_refl _) ?_
  exact r_ret zf132_23 rfl (fun _ => rfl)
theorem zc_227_19 {hp : zHp} (F : zFr0 hp) (d : Nat) (a0 : Int32) : zCan (d + 2) 227 [.ref 70, .int a0] hp (some (.int (-1)), hp) := by
  refine zCan_body (d := d + 1) hgm227 ⟨Nat.le_of_ble_eq_true rfl, by decide⟩ (Nat.le_refl _) ?_
  show zR _ _ _ _ _ (0, [(0, .ref 70), (1, .int a0)], []) hp _
  refine r_s (fr' := (1, [(0, .ref 70), (1, .int a0)], [.ref 70])) (hp' := hp) zf227_0 (fun _ => rfl) (Nat.le_refl _) ?_
  refine r_s (fr' := (2, [(0, .ref 70), (1, .int a0)], [.int a0, .ref 70])) (hp' := hp) zf227_1 (fun _ => rfl) (Nat.le_refl _) ?_
  refine r_call (ix := 70) (as := [.int a0]) (rest := []) (rv := some (.int 0)) (hp' := hp) zf227_2 har206 rfl rfl rfl (hk70 F) (Nat.le_of_ble_eq_true rfl) (zc_206_3 F (d + 0) a0) (Nat.le_refl _) ?_
  show zR _ _ _ _ _ (5, [(0, .ref 70), (1, .int a0)], [.int 0]) hp _
  refine r_if zf227_5 (fun _ => ?_) (fun h => absurd h (by decide))
  show zR _ _ _ _ _ (16, [(0, .ref 70), (1, .int a0)], []) hp _
  refine r_s (fr' := (17, [(0, .ref 70), (1, .int a0)], [.int (-1)])) (hp' := hp) zf227_16 (fun _ => rfl) (Nat.le_refl _) ?_
  exact r_ret zf227_17 rfl (fun _ => rfl)
theorem zc_133_20 {hp : zHp} (F : zFr0 hp) (d : Nat) (a0 : Int32) : zCan (d + 3) 133 [.ref 0, .int a0] hp (some (.int (-1)), hp) := by
  refine zCan_body (d := d + 2) hgm133 ⟨Nat.le_of_ble_eq_true rfl, by decide⟩ (Nat.le_refl _) ?_
  show zR _ _ _ _ _ (0, [(0, .ref 0), (1, .int a0)], []) hp _
  refine r_s (fr' := (1, [(0, .ref 0), (1, .int a0)], [.ref 0])) (hp' := hp) zf133_0 (fun _ => rfl) (Nat.le_refl _) ?_
  refine r_get zf133_1 (by decide) ⟨(hl0 F), by decide⟩ (hc0 F) (v := .ref 9) rfl ?_
  show zR _ _ _ _ _ (4, [(0, .ref 0), (1, .int a0)], [.ref 9]) hp _
  refine r_s (fr' := (5, [(0, .ref 0), (1, .int a0)], [.int a0, .ref 9])) (hp' := hp) zf133_4 (fun _ => rfl) (Nat.le_refl _) ?_
  refine r_call (ix := 9) (as := [.int a0]) (rest := []) (rv := some (.int 0)) (hp' := hp) zf133_5 har84 rfl rfl rfl (hk9 F) (Nat.le_of_ble_eq_true rfl) (zc_84_6 F (d + 0) a0) (Nat.le_refl _) ?_
  show zR _ _ _ _ _ (8, [(0, .ref 0), (1, .int a0)], [.int 0]) hp _
  refine r_if zf133_8 (fun _ => ?_) (fun h => absurd h (by decide))
  show zR _ _ _ _ _ (22, [(0, .ref 0), (1, .int a0)], []) hp _
  refine r_s (fr' := (23, [(0, .ref 0), (1, .int a0)], [.int (-1)])) (hp' := hp) zf133_22 (fun _ => rfl) (Nat.le_refl _) ?_
  exact r_ret zf133_23 rfl (fun _ => rfl)
theorem zc_228_21 {hp : zHp} (F : zFr0 hp) (d : Nat) (a0 : Int32) : zCan (d + 2) 228 [.ref 70, .int a0] hp (some (.int (-1)), hp) := by
  refine zCan_body (d := d + 1) hgm228 ⟨Nat.le_of_ble_eq_true rfl, by decide⟩ (Nat.le_refl _) ?_
  show zR _ _ _ _ _ (0, [(0, .ref 70), (1, .int a0)], []) hp _
  refine r_s (fr' := (1, [(0, .ref 70), (1, .int a0)], [.ref 70])) (hp' := hp) zf228_0 (fun _ => rfl) (Nat.le_refl _) ?_
  refine r_s (fr' := (2, [(0, .ref 70), (1, .int a0)], [.int a0, .ref 70])) (hp' := hp) zf228_1 (fun _ => rfl) (Nat.le_refl _) ?_
  refine r_call (ix := 70) (as := [.int a0]) (rest := []) (rv := some (.int 0)) (hp' := hp) zf228_2 har207 rfl rfl rfl (hk70 F) (Nat.le_of_ble_eq_true rfl) (zc_207_8 F (d + 0) a0) (Nat.le_refl _) ?_
  show zR _ _ _ _ _ (5, [(0, .ref 70), (1, .int a0)], [.int 0]) hp _
  refine r_if zf228_5 (fun _ => ?_) (fun h => absurd h (by decide))
  show zR _ _ _ _ _ (16, [(0, .ref 70), (1, .int a0)], []) hp _
  refine r_s (fr' := (17, [(0, .ref 70), (1, .int a0)], [.int (-1)])) (hp' := hp) zf228_16 (fun _ => rfl) (Nat.le_refl _) ?_
  exact r_ret zf228_17 rfl (fun _ => rfl)
theorem zc_134_22 {hp : zHp} (F : zFr0 hp) (d : Nat) (a0 : Int32) (a1 : Int32) : zCan (d + 4) 134 [.ref 0, .int a0, .int a1] hp (some (.int 0), hp) := by
  refine zCan_body (d := d + 3) hgm134 ⟨Nat.le_of_ble_eq_true rfl, by decide⟩ (Nat.le_refl _) ?_
  show zR _ _ _ _ _ (0, [(0, .ref 0), (1, .int a0), (2, .int a1)], []) hp _
  refine r_s (fr' := (1, [(0, .ref 0), (1, .int a0), (2, .int a1)], [.ref 0])) (hp' := hp) zf134_0 (fun _ => rfl) (Nat.le_refl _) ?_
  refine r_get zf134_1 (by decide) ⟨(hl0 F), by decide⟩ (hc0 F) (v := .ref 9) rfl ?_
  show zR _ _ _ _ _ (4, [(0, .ref 0), (1, .int a0), (2, .int a1)], [.ref 9]) hp _
  refine r_s (fr' := (5, [(0, .ref 0), (1, .int a0), (2, .int a1)], [.int a0, .ref 9])) (hp' := hp) zf134_4 (fun _ => rfl) (Nat.le_refl _) ?_
  refine r_s (fr' := (6, [(0, .ref 0), (1, .int a0), (2, .int a1)], [.int a1, .int a0, .ref 9])) (hp' := hp) zf134_5 (fun _ => rfl) (Nat.le_refl _) ?_
  refine r_call (ix := 9) (as := [.int a0, .int a1]) (rest := []) (rv := some (.int 0)) (hp' := hp) zf134_6 har86 rfl rfl rfl (hk9 F) (Nat.le_of_ble_eq_true rfl) (zc_86_12 F (d + 0) a0 a1) (Nat.le_refl _) ?_
  show zR _ _ _ _ _ (9, [(0, .ref 0), (1, .int a0), (2, .int a1)], [.int 0]) hp _
  refine r_if zf134_9 (fun _ => ?_) (fun h => absurd h (by decide))
  show zR _ _ _ _ _ (24, [(0, .ref 0), (1, .int a0), (2, .int a1)], []) hp _
  refine r_s (fr' := (25, [(0, .ref 0), (1, .int a0), (2, .int a1)], [.int 0])) (hp' := hp) zf134_24 (fun _ => rfl) (Nat.le_refl _) ?_
  exact r_ret zf134_25 rfl (fun _ => rfl)
theorem zc_230_23 {hp : zHp} (F : zFr0 hp) (d : Nat) (a0 : Int32) (a1 : Int32) : zCan (d + 2) 230 [.ref 70, .int a0, .int a1] hp (some (.int 0), hp) := by
  refine zCan_body (d := d + 1) hgm230 ⟨Nat.le_of_ble_eq_true rfl, by decide⟩ (Nat.le_refl _) ?_
  show zR _ _ _ _ _ (0, [(0, .ref 70), (1, .int a0), (2, .int a1)], []) hp _
  refine r_s (fr' := (1, [(0, .ref 70), (1, .int a0), (2, .int a1)], [.ref 70])) (hp' := hp) zf230_0 (fun _ => rfl) (Nat.le_refl _) ?_
  refine r_s (fr' := (2, [(0, .ref 70), (1, .int a0), (2, .int a1)], [.int a0, .ref 70])) (hp' := hp) zf230_1 (fun _ => rfl) (Nat.le_refl _) ?_
  refine r_call (ix := 70) (as := [.int a0]) (rest := []) (rv := some (.int 0)) (hp' := hp) zf230_2 har205 rfl rfl rfl (hk70 F) (Nat.le_of_ble_eq_true rfl) (zc_205_14 F (d + 0) a0) (Nat.le_refl _) ?_
  show zR _ _ _ _ _ (5, [(0, .ref 70), (1, .int a0), (2, .int a1)], [.int 0]) hp _
  refine r_if zf230_5 (fun _ => ?_) (fun h => absurd h (by decide))
  show zR _ _ _ _ _ (39, [(0, .ref 70), (1, .int a0), (2, .int a1)], []) hp _
  refine r_s (fr' := (40, [(0, .ref 70), (1, .int a0), (2, .int a1)], [.int 0])) (hp' := hp) zf230_39 (fun _ => rfl) (Nat.le_refl _) ?_
  exact r_ret zf230_40 rfl (fun _ => rfl)
theorem zc_136_24 {hp : zHp} (F : zFr0 hp) (d : Nat) (a0 : Int32) (a1 : Int32) : zCan (d + 3) 136 [.ref 0, .int a0, .int a1] hp (some (.int (-1)), hp) := by
  refine zCan_body (d := d + 2) hgm136 ⟨Nat.le_of_ble_eq_true rfl, by decide⟩ (Nat.le_refl _) ?_
  show zR _ _ _ _ _ (0, [(0, .ref 0), (1, .int a0), (2, .int a1)], []) hp _
  refine r_s (fr' := (1, [(0, .ref 0), (1, .int a0), (2, .int a1)], [.ref 0])) (hp' := hp) zf136_0 (fun _ => rfl) (Nat.le_refl _) ?_
  refine r_get zf136_1 (by decide) ⟨(hl0 F), by decide⟩ (hc0 F) (v := .ref 9) rfl ?_
  show zR _ _ _ _ _ (4, [(0, .ref 0), (1, .int a0), (2, .int a1)], [.ref 9]) hp _
  refine r_s (fr' := (5, [(0, .ref 0), (1, .int a0), (2, .int a1)], [.int a0, .ref 9])) (hp' := hp) zf136_4 (fun _ => rfl) (Nat.le_refl _) ?_
  refine r_call (ix := 9) (as := [.int a0]) (rest := []) (rv := some (.int 0)) (hp' := hp) zf136_5 har83 rfl rfl rfl (hk9 F) (Nat.le_of_ble_eq_true rfl) (zc_83_1 F (d + 0) a0) (Nat.le_refl _) ?_
  show zR _ _ _ _ _ (8, [(0, .ref 0), (1, .int a0), (2, .int a1)], [.int 0]) hp _
  refine r_if zf136_8 (fun _ => ?_) (fun h => absurd h (by decide))
  show zR _ _ _ _ _ (22, [(0, .ref 0), (1, .int a0), (2, .int a1)], []) hp _
  refine r_s (fr' := (23, [(0, .ref 0), (1, .int a0), (2, .int a1)], [.int (-1)])) (hp' := hp) zf136_22 (fun _ => rfl) (Nat.le_refl _) ?_
  exact r_ret zf136_23 rfl (fun _ => rfl)
theorem zc_232_25 {hp : zHp} (F : zFr0 hp) (d : Nat) (a0 : Int32) (a1 : Int32) : zCan (d + 2) 232 [.ref 70, .int a0, .int a1] hp (some (.int (-1)), hp) := by
  refine zCan_body (d := d + 1) hgm232 ⟨Nat.le_of_ble_eq_true rfl, by decide⟩ (Nat.le_refl _) ?_
  show zR _ _ _ _ _ (0, [(0, .ref 70), (1, .int a0), (2, .int a1)], []) hp _
  refine r_s (fr' := (1, [(0, .ref 70), (1, .int a0), (2, .int a1)], [.ref 70])) (hp' := hp) zf232_0 (fun _ => rfl) (Nat.le_refl _) ?_
  refine r_s (fr' := (2, [(0, .ref 70), (1, .int a0), (2, .int a1)], [.int a0, .ref 70])) (hp' := hp) zf232_1 (fun _ => rfl) (Nat.le_refl _) ?_
  refine r_call (ix := 70) (as := [.int a0]) (rest := []) (rv := some (.int 0)) (hp' := hp) zf232_2 har206 rfl rfl rfl (hk70 F) (Nat.le_of_ble_eq_true rfl) (zc_206_3 F (d + 0) a0) (Nat.le_refl _) ?_
  show zR _ _ _ _ _ (5, [(0, .ref 70), (1, .int a0), (2, .int a1)], [.int 0]) hp _
  refine r_if zf232_5 (fun _ => ?_) (fun h => absurd h (by decide))
  show zR _ _ _ _ _ (26, [(0, .ref 70), (1, .int a0), (2, .int a1)], []) hp _
  refine r_s (fr' := (27, [(0, .ref 70), (1, .int a0), (2, .int a1)], [.int (-1)])) (hp' := hp) zf232_26 (fun _ => rfl) (Nat.le_refl _) ?_
  exact r_ret zf232_27 rfl (fun _ => rfl)
theorem zc_76_26 {hp : zHp} (F : zFr0 hp) (d : Nat) : zCan (d + 2) 76 [.ref 9] hp (some (.int 0), hp) := by
  refine zCan_body (d := d + 1) hgm76 ⟨Nat.le_of_ble_eq_true rfl, by decide⟩ (Nat.le_refl _) ?_
  show zR _ _ _ _ _ (0, [(0, .ref 9)], []) hp _
  refine r_s (fr' := (1, [(0, .ref 9)], [.ref 9])) (hp' := hp) zf76_0 (fun _ => rfl) (Nat.le_refl _) ?_
  refine r_call (ix := 9) (as := []) (rest := []) (rv := some (.int 0)) (hp' := hp) zf76_1 har77 rfl rfl rfl (hk9 F) (Nat.le_of_ble_eq_true rfl) (zc_77_10 F (d + 0) ) (Nat.le_refl _) ?_
  show zR _ _ _ _ _ (4, [(0, .ref 9)], [.int 0]) hp _
  refine r_if zf76_4 (fun _ => ?_) (fun h => absurd h (by decide))
  show zR _ _ _ _ _ (11, [(0, .ref 9)], []) hp _
  refine r_s (fr' := (12, [(0, .ref 9)], [.int 0])) (hp' := hp) zf76_11 (fun _ => rfl) (Nat.le_refl _) ?_
  exact r_ret zf76_12 rfl (fun _ => rfl)
theorem zc_139_27 {hp : zHp} (F : zFr0 hp) (d : Nat) (a0 : Int32) (a1 : Int32) : zCan (d + 3) 139 [.ref 0, .int a0, .int a1] hp (some (.int (-1)), hp) := by
  refine zCan_body (d := d + 2) hgm139 ⟨Nat.le_of_ble_eq_true rfl, by decide⟩ (Nat.le_refl _) ?_
  show zR _ _ _ _ _ (0, [(0, .ref 0), (1, .int a0), (2, .int a1)], []) hp _
  refine r_s (fr' := (1, [(0, .ref 0), (1, .int a0), (2, .int a1)], [.ref 0])) (hp' := hp) zf139_0 (fun _ => rfl) (Nat.le_refl _) ?_
  refine r_get zf139_1 (by decide) ⟨(hl0 F), by decide⟩ (hc0 F) (v := .ref 9) rfl ?_
  show zR _ _ _ _ _ (4, [(0, .ref 0), (1, .int a0), (2, .int a1)], [.ref 9]) hp _
  refine r_call (ix := 9) (as := []) (rest := []) (rv := some (.int 0)) (hp' := hp) zf139_4 har76 rfl rfl rfl (hk9 F) (Nat.le_of_ble_eq_true rfl) (zc_76_26 F (d + 0) ) (Nat.le_refl _) ?_
  show zR _ _ _ _ _ (7, [(0, .ref 0), (1, .int a0), (2, .int a1)], [.int 0]) hp _
  refine r_if zf139_7 (fun _ => ?_) (fun h => absurd h (by decide))
  show zR _ _ _ _ _ (44, [(0, .ref 0), (1, .int a0), (2, .int a1)], []) hp _
  refine r_s (fr' := (45, [(0, .ref 0), (1, .int a0), (2, .int a1)], [.int (-1)])) (hp' := hp) zf139_44 (fun _ => rfl) (Nat.le_refl _) ?_
  exact r_ret zf139_45 rfl (fun _ => rfl)
theorem zc_204_28 {hp : zHp} (F : zFr0 hp) (d : Nat) : zCan (d + 1) 204 [.ref 70] hp (some (.int 0), hp) := by
  refine zCan_body (d := d + 0) hgm204 ⟨Nat.le_of_ble_eq_true rfl, by decide⟩ (Nat.le_refl _) ?_
  show zR _ _ _ _ _ (0, [(0, .ref 70)], []) hp _
  refine r_s (fr' := (1, [(0, .ref 70)], [.ref 70])) (hp' := hp) zf204_0 (fun _ => rfl) (Nat.le_refl _) ?_
  refine r_get zf204_1 (by decide) ⟨(hl70 F), by decide⟩ (hc70 F) (v := .ref 80) rfl ?_
  show zR _ _ _ _ _ (4, [(0, .ref 70)], [.ref 80]) hp _
  refine r_s (fr' := (5, [(0, .ref 70)], [.int 0, .ref 80])) (hp' := hp) zf204_4 (fun _ => rfl) (Nat.le_refl _) ?_
  refine r_iald zf204_5 ⟨by decide, (hl80 F)⟩ (hc80 F) (by decide) (ha80_0 F) ?_
  show zR _ _ _ _ _ (6, [(0, .ref 70)], [.int 0]) hp _
  refine r_if zf204_6 (fun _ => ?_) (fun h => absurd h (by decide))
  show zR _ _ _ _ _ (13, [(0, .ref 70)], []) hp _
  refine r_s (fr' := (14, [(0, .ref 70)], [.int 0])) (hp' := hp) zf204_13 (fun _ => rfl) (Nat.le_refl _) ?_
  exact r_ret zf204_14 rfl (fun _ => rfl)
theorem zc_248_29 {hp : zHp} (F : zFr0 hp) (d : Nat) (a0 : Int32) (a1 : Int32) : zCan (d + 2) 248 [.ref 70, .int a0, .int a1] hp (some (.int (-1)), hp) := by
  refine zCan_body (d := d + 1) hgm248 ⟨Nat.le_of_ble_eq_true rfl, by decide⟩ (Nat.le_refl _) ?_
  show zR _ _ _ _ _ (0, [(0, .ref 70), (1, .int a0), (2, .int a1)], []) hp _
  refine r_s (fr' := (1, [(0, .ref 70), (1, .int a0), (2, .int a1)], [.ref 70])) (hp' := hp) zf248_0 (fun _ => rfl) (Nat.le_refl _) ?_
  refine r_call (ix := 70) (as := []) (rest := []) (rv := some (.int 0)) (hp' := hp) zf248_1 har204 rfl rfl rfl (hk70 F) (Nat.le_of_ble_eq_true rfl) (zc_204_28 F (d + 0) ) (Nat.le_refl _) ?_
  show zR _ _ _ _ _ (4, [(0, .ref 70), (1, .int a0), (2, .int a1)], [.int 0]) hp _
  refine r_if zf248_4 (fun _ => ?_) (fun h => absurd h (by decide))
  show zR _ _ _ _ _ (41, [(0, .ref 70), (1, .int a0), (2, .int a1)], []) hp _
  refine r_s (fr' := (42, [(0, .ref 70), (1, .int a0), (2, .int a1)], [.int (-1)])) (hp' := hp) zf248_41 (fun _ => rfl) (Nat.le_refl _) ?_
  exact r_ret zf248_42 rfl (fun _ => rfl)
theorem zc_141_30 {hp : zHp} (F : zFr0 hp) (d : Nat) (a0 : Int32) (a1 : Int32) (a2 : Int32) (a3 : Int32) : zCan (d + 3) 141 [.ref 0, .int a0, .int a1, .int a2, .int a3] hp (some (.int (-3)), hp) := by
  refine zCan_body (d := d + 2) hgm141 ⟨Nat.le_of_ble_eq_true rfl, by decide⟩ (Nat.le_refl _) ?_
  show zR _ _ _ _ _ (0, [(0, .ref 0), (1, .int a0), (2, .int a1), (3, .int a2), (4, .int a3)], []) hp _
  refine r_s (fr' := (1, [(0, .ref 0), (1, .int a0), (2, .int a1), (3, .int a2), (4, .int a3)], [.ref 0])) (hp' := hp) zf141_0 (fun _ => rfl) (Nat.le_refl _) ?_
  refine r_get zf141_1 (by decide) ⟨(hl0 F), by decide⟩ (hc0 F) (v := .ref 9) rfl ?_
  show zR _ _ _ _ _ (4, [(0, .ref 0), (1, .int a0), (2, .int a1), (3, .int a2), (4, .int a3)], [.ref 9]) hp _
  refine r_s (fr' := (5, [(0, .ref 0), (1, .int a0), (2, .int a1), (3, .int a2), (4, .int a3)], [.int a0, .ref 9])) (hp' := hp) zf141_4 (fun _ => rfl) (Nat.le_refl _) ?_
  refine r_call (ix := 9) (as := [.int a0]) (rest := []) (rv := some (.int 0)) (hp' := hp) zf141_5 har83 rfl rfl rfl (hk9 F) (Nat.le_of_ble_eq_true rfl) (zc_83_1 F (d + 0) a0) (Nat.le_refl _) ?_
  show zR _ _ _ _ _ (8, [(0, .ref 0), (1, .int a0), (2, .int a1), (3, .int a2), (4, .int a3)], [.int 0]) hp _
  refine r_if zf141_8 (fun _ => ?_) (fun h => absurd h (by decide))
  show zR _ _ _ _ _ (34, [(0, .ref 0), (1, .int a0), (2, .int a1), (3, .int a2), (4, .int a3)], []) hp _
  refine r_s (fr' := (36, [(0, .ref 0), (1, .int a0), (2, .int a1), (3, .int a2), (4, .int a3)], [.int (-3)])) (hp' := hp) zf141_34 (fun _ => rfl) (Nat.le_refl _) ?_
  exact r_ret zf141_36 rfl (fun _ => rfl)
theorem zc_252_31 {hp : zHp} (F : zFr0 hp) (d : Nat) (a0 : Int32) (a1 : Int32) (a2 : Int32) (a3 : Int32) : zCan (d + 2) 252 [.ref 70, .int a0, .int a1, .int a2, .int a3] hp (some (.int (-3)), hp) := by
  refine zCan_body (d := d + 1) hgm252 ⟨Nat.le_of_ble_eq_true rfl, by decide⟩ (Nat.le_refl _) ?_
  show zR _ _ _ _ _ (0, [(0, .ref 70), (1, .int a0), (2, .int a1), (3, .int a2), (4, .int a3)], []) hp _
  refine r_s (fr' := (1, [(0, .ref 70), (1, .int a0), (2, .int a1), (3, .int a2), (4, .int a3)], [.ref 70])) (hp' := hp) zf252_0 (fun _ => rfl) (Nat.le_refl _) ?_
  refine r_s (fr' := (2, [(0, .ref 70), (1, .int a0), (2, .int a1), (3, .int a2), (4, .int a3)], [.int a0, .ref 70])) (hp' := hp) zf252_1 (fun _ => rfl) (Nat.le_refl _) ?_
  refine r_call (ix := 70) (as := [.int a0]) (rest := []) (rv := some (.int 0)) (hp' := hp) zf252_2 har206 rfl rfl rfl (hk70 F) (Nat.le_of_ble_eq_true rfl) (zc_206_3 F (d + 0) a0) (Nat.le_refl _) ?_
  show zR _ _ _ _ _ (5, [(0, .ref 70), (1, .int a0), (2, .int a1), (3, .int a2), (4, .int a3)], [.int 0]) hp _
  refine r_if zf252_5 (fun _ => ?_) (fun h => absurd h (by decide))
  show zR _ _ _ _ _ (29, [(0, .ref 70), (1, .int a0), (2, .int a1), (3, .int a2), (4, .int a3)], []) hp _
  refine r_s (fr' := (31, [(0, .ref 70), (1, .int a0), (2, .int a1), (3, .int a2), (4, .int a3)], [.int (-3)])) (hp' := hp) zf252_29 (fun _ => rfl) (Nat.le_refl _) ?_
  exact r_ret zf252_31 rfl (fun _ => rfl)
theorem zc_142_32 {hp : zHp} (F : zFr0 hp) (d : Nat) (a0 : Int32) : zCan (d + 3) 142 [.ref 0, .int a0] hp (some (.int (-3)), hp) := by
  refine zCan_body (d := d + 2) hgm142 ⟨Nat.le_of_ble_eq_true rfl, by decide⟩ (Nat.le_refl _) ?_
  show zR _ _ _ _ _ (0, [(0, .ref 0), (1, .int a0)], []) hp _
  refine r_s (fr' := (1, [(0, .ref 0), (1, .int a0)], [.ref 0])) (hp' := hp) zf142_0 (fun _ => rfl) (Nat.le_refl _) ?_
  refine r_get zf142_1 (by decide) ⟨(hl0 F), by decide⟩ (hc0 F) (v := .ref 9) rfl ?_
  show zR _ _ _ _ _ (4, [(0, .ref 0), (1, .int a0)], [.ref 9]) hp _
  refine r_call (ix := 9) (as := []) (rest := []) (rv := some (.int 0)) (hp' := hp) zf142_4 har76 rfl rfl rfl (hk9 F) (Nat.le_of_ble_eq_true rfl) (zc_76_26 F (d + 0) ) (Nat.le_refl _) ?_
  show zR _ _ _ _ _ (7, [(0, .ref 0), (1, .int a0)], [.int 0]) hp _
  refine r_if zf142_7 (fun _ => ?_) (fun h => absurd h (by decide))
  show zR _ _ _ _ _ (20, [(0, .ref 0), (1, .int a0)], []) hp _
  refine r_s (fr' := (22, [(0, .ref 0), (1, .int a0)], [.int (-3)])) (hp' := hp) zf142_20 (fun _ => rfl) (Nat.le_refl _) ?_
  exact r_ret zf142_22 rfl (fun _ => rfl)
theorem zc_257_33 {hp : zHp} (F : zFr0 hp) (d : Nat) (a0 : Int32) : zCan (d + 2) 257 [.ref 70, .int a0] hp (some (.int (-3)), hp) := by
  refine zCan_body (d := d + 1) hgm257 ⟨Nat.le_of_ble_eq_true rfl, by decide⟩ (Nat.le_refl _) ?_
  show zR _ _ _ _ _ (0, [(0, .ref 70), (1, .int a0)], []) hp _
  refine r_s (fr' := (1, [(0, .ref 70), (1, .int a0)], [.ref 70])) (hp' := hp) zf257_0 (fun _ => rfl) (Nat.le_refl _) ?_
  refine r_call (ix := 70) (as := []) (rest := []) (rv := some (.int 0)) (hp' := hp) zf257_1 har204 rfl rfl rfl (hk70 F) (Nat.le_of_ble_eq_true rfl) (zc_204_28 F (d + 0) ) (Nat.le_refl _) ?_
  show zR _ _ _ _ _ (4, [(0, .ref 70), (1, .int a0)], [.int 0]) hp _
  refine r_if zf257_4 (fun _ => ?_) (fun h => absurd h (by decide))
  show zR _ _ _ _ _ (19, [(0, .ref 70), (1, .int a0)], []) hp _
  refine r_s (fr' := (21, [(0, .ref 70), (1, .int a0)], [.int (-3)])) (hp' := hp) zf257_19 (fun _ => rfl) (Nat.le_refl _) ?_
  exact r_ret zf257_21 rfl (fun _ => rfl)
theorem zc_143_34 {hp : zHp} (F : zFr0 hp) (d : Nat) (a0 : Int32) : zCan (d + 3) 143 [.ref 0, .int a0] hp (some (.int (-1)), hp) := by
  refine zCan_body (d := d + 2) hgm143 ⟨Nat.le_of_ble_eq_true rfl, by decide⟩ (Nat.le_refl _) ?_
  show zR _ _ _ _ _ (0, [(0, .ref 0), (1, .int a0)], []) hp _
  refine r_s (fr' := (1, [(0, .ref 0), (1, .int a0)], [.ref 0])) (hp' := hp) zf143_0 (fun _ => rfl) (Nat.le_refl _) ?_
  refine r_get zf143_1 (by decide) ⟨(hl0 F), by decide⟩ (hc0 F) (v := .ref 9) rfl ?_
  show zR _ _ _ _ _ (4, [(0, .ref 0), (1, .int a0)], [.ref 9]) hp _
  refine r_s (fr' := (5, [(0, .ref 0), (1, .int a0)], [.int a0, .ref 9])) (hp' := hp) zf143_4 (fun _ => rfl) (Nat.le_refl _) ?_
  refine r_call (ix := 9) (as := [.int a0]) (rest := []) (rv := some (.int 0)) (hp' := hp) zf143_5 har83 rfl rfl rfl (hk9 F) (Nat.le_of_ble_eq_true rfl) (zc_83_1 F (d + 0) a0) (Nat.le_refl _) ?_
  show zR _ _ _ _ _ (8, [(0, .ref 0), (1, .int a0)], [.int 0]) hp _
  refine r_if zf143_8 (fun h => absurd h (by decide)) (fun _ => ?_)
  show zR _ _ _ _ _ (11, [(0, .ref 0), (1, .int a0)], []) hp _
  refine r_s (fr' := (12, [(0, .ref 0), (1, .int a0)], [.int (-1)])) (hp' := hp) zf143_11 (fun _ => rfl) (Nat.le_refl _) ?_
  exact r_ret zf143_12 rfl (fun _ => rfl)
theorem zc_258_35 {hp : zHp} (F : zFr0 hp) (d : Nat) (a0 : Int32) : zCan (d + 2) 258 [.ref 70, .int a0] hp (some (.int (-1)), hp) := by
  refine zCan_body (d := d + 1) hgm258 ⟨Nat.le_of_ble_eq_true rfl, by decide⟩ (Nat.le_refl _) ?_
  show zR _ _ _ _ _ (0, [(0, .ref 70), (1, .int a0)], []) hp _
  refine r_s (fr' := (1, [(0, .ref 70), (1, .int a0)], [.ref 70])) (hp' := hp) zf258_0 (fun _ => rfl) (Nat.le_refl _) ?_
  refine r_s (fr' := (2, [(0, .ref 70), (1, .int a0)], [.int a0, .ref 70])) (hp' := hp) zf258_1 (fun _ => rfl) (Nat.le_refl _) ?_
  refine r_call (ix := 70) (as := [.int a0]) (rest := []) (rv := some (.int 0)) (hp' := hp) zf258_2 har206 rfl rfl rfl (hk70 F) (Nat.le_of_ble_eq_true rfl) (zc_206_3 F (d + 0) a0) (Nat.le_refl _) ?_
  show zR _ _ _ _ _ (5, [(0, .ref 70), (1, .int a0)], [.int 0]) hp _
  refine r_if zf258_5 (fun _ => ?_) (fun h => absurd h (by decide))
  show zR _ _ _ _ _ (22, [(0, .ref 70), (1, .int a0)], []) hp _
  refine r_s (fr' := (23, [(0, .ref 70), (1, .int a0)], [.int (-1)])) (hp' := hp) zf258_22 (fun _ => rfl) (Nat.le_refl _) ?_
  exact r_ret zf258_23 rfl (fun _ => rfl)
theorem zc_144_36 {hp : zHp} (F : zFr0 hp) (d : Nat) (a0 : Int32) (a1 : Int32) : zCan (d + 3) 144 [.ref 0, .int a0, .int a1] hp (some (.int (-1)), hp) := by
  refine zCan_body (d := d + 2) hgm144 ⟨Nat.le_of_ble_eq_true rfl, by decide⟩ (Nat.le_refl _) ?_
  show zR _ _ _ _ _ (0, [(0, .ref 0), (1, .int a0), (2, .int a1)], []) hp _
  refine r_s (fr' := (1, [(0, .ref 0), (1, .int a0), (2, .int a1)], [.ref 0])) (hp' := hp) zf144_0 (fun _ => rfl) (Nat.le_refl _) ?_
  refine r_get zf144_1 (by decide) ⟨(hl0 F), by decide⟩ (hc0 F) (v := .ref 9) rfl ?_
  show zR _ _ _ _ _ (4, [(0, .ref 0), (1, .int a0), (2, .int a1)], [.ref 9]) hp _
  refine r_s (fr' := (5, [(0, .ref 0), (1, .int a0), (2, .int a1)], [.int a0, .ref 9])) (hp' := hp) zf144_4 (fun _ => rfl) (Nat.le_refl _) ?_
  refine r_call (ix := 9) (as := [.int a0]) (rest := []) (rv := some (.int 0)) (hp' := hp) zf144_5 har83 rfl rfl rfl (hk9 F) (Nat.le_of_ble_eq_true rfl) (zc_83_1 F (d + 0) a0) (Nat.le_refl _) ?_
  show zR _ _ _ _ _ (8, [(0, .ref 0), (1, .int a0), (2, .int a1)], [.int 0]) hp _
  refine r_if zf144_8 (fun _ => ?_) (fun h => absurd h (by decide))
  show zR _ _ _ _ _ (20, [(0, .ref 0), (1, .int a0), (2, .int a1)], []) hp _
  refine r_s (fr' := (21, [(0, .ref 0), (1, .int a0), (2, .int a1)], [.int (-1)])) (hp' := hp) zf144_20 (fun _ => rfl) (Nat.le_refl _) ?_
  exact r_ret zf144_21 rfl (fun _ => rfl)
theorem zc_261_37 {hp : zHp} (F : zFr0 hp) (d : Nat) (a0 : Int32) (a1 : Int32) : zCan (d + 2) 261 [.ref 70, .int a0, .int a1] hp (some (.int (-1)), hp) := by
  refine zCan_body (d := d + 1) hgm261 ⟨Nat.le_of_ble_eq_true rfl, by decide⟩ (Nat.le_refl _) ?_
  show zR _ _ _ _ _ (0, [(0, .ref 70), (1, .int a0), (2, .int a1)], []) hp _
  refine r_s (fr' := (1, [(0, .ref 70), (1, .int a0), (2, .int a1)], [.ref 70])) (hp' := hp) zf261_0 (fun _ => rfl) (Nat.le_refl _) ?_
  refine r_s (fr' := (2, [(0, .ref 70), (1, .int a0), (2, .int a1)], [.int a0, .ref 70])) (hp' := hp) zf261_1 (fun _ => rfl) (Nat.le_refl _) ?_
  refine r_call (ix := 70) (as := [.int a0]) (rest := []) (rv := some (.int 0)) (hp' := hp) zf261_2 har206 rfl rfl rfl (hk70 F) (Nat.le_of_ble_eq_true rfl) (zc_206_3 F (d + 0) a0) (Nat.le_refl _) ?_
  show zR _ _ _ _ _ (5, [(0, .ref 70), (1, .int a0), (2, .int a1)], [.int 0]) hp _
  refine r_if zf261_5 (fun _ => ?_) (fun h => absurd h (by decide))
  show zR _ _ _ _ _ (18, [(0, .ref 70), (1, .int a0), (2, .int a1)], []) hp _
  refine r_s (fr' := (19, [(0, .ref 70), (1, .int a0), (2, .int a1)], [.int (-1)])) (hp' := hp) zf261_18 (fun _ => rfl) (Nat.le_refl _) ?_
  exact r_ret zf261_19 rfl (fun _ => rfl)
theorem zc_145_38 {hp : zHp} (F : zFr0 hp) (d : Nat) (a0 : Int32) : zCan (d + 3) 145 [.ref 0, .int a0] hp (some (.int (-1)), hp) := by
  refine zCan_body (d := d + 2) hgm145 ⟨Nat.le_of_ble_eq_true rfl, by decide⟩ (Nat.le_refl _) ?_
  show zR _ _ _ _ _ (0, [(0, .ref 0), (1, .int a0)], []) hp _
  refine r_s (fr' := (1, [(0, .ref 0), (1, .int a0)], [.ref 0])) (hp' := hp) zf145_0 (fun _ => rfl) (Nat.le_refl _) ?_
  refine r_get zf145_1 (by decide) ⟨(hl0 F), by decide⟩ (hc0 F) (v := .ref 9) rfl ?_
  show zR _ _ _ _ _ (4, [(0, .ref 0), (1, .int a0)], [.ref 9]) hp _
  refine r_call (ix := 9) (as := []) (rest := []) (rv := some (.int 0)) (hp' := hp) zf145_4 har76 rfl rfl rfl (hk9 F) (Nat.le_of_ble_eq_true rfl) (zc_76_26 F (d + 0) ) (Nat.le_refl _) ?_
  show zR _ _ _ _ _ (7, [(0, .ref 0), (1, .int a0)], [.int 0]) hp _
  refine r_if zf145_7 (fun _ => ?_) (fun h => absurd h (by decide))
  show zR _ _ _ _ _ (19, [(0, .ref 0), (1, .int a0)], []) hp _
  refine r_s (fr' := (20, [(0, .ref 0), (1, .int a0)], [.int (-1)])) (hp' := hp) zf145_19 (fun _ => rfl) (Nat.le_refl _) ?_
  exact r_ret zf145_20 rfl (fun _ => rfl)
theorem zc_262_39 {hp : zHp} (F : zFr0 hp) (d : Nat) (a0 : Int32) : zCan (d + 2) 262 [.ref 70, .int a0] hp (some (.int (-1)), hp) := by
  refine zCan_body (d := d + 1) hgm262 ⟨Nat.le_of_ble_eq_true rfl, by decide⟩ (Nat.le_refl _) ?_
  show zR _ _ _ _ _ (0, [(0, .ref 70), (1, .int a0)], []) hp _
  refine r_s (fr' := (1, [(0, .ref 70), (1, .int a0)], [.ref 70])) (hp' := hp) zf262_0 (fun _ => rfl) (Nat.le_refl _) ?_
  refine r_call (ix := 70) (as := []) (rest := []) (rv := some (.int 0)) (hp' := hp) zf262_1 har204 rfl rfl rfl (hk70 F) (Nat.le_of_ble_eq_true rfl) (zc_204_28 F (d + 0) ) (Nat.le_refl _) ?_
  show zR _ _ _ _ _ (4, [(0, .ref 70), (1, .int a0)], [.int 0]) hp _
  refine r_if zf262_4 (fun _ => ?_) (fun h => absurd h (by decide))
  show zR _ _ _ _ _ (19, [(0, .ref 70), (1, .int a0)], []) hp _
  refine r_s (fr' := (20, [(0, .ref 70), (1, .int a0)], [.int (-1)])) (hp' := hp) zf262_19 (fun _ => rfl) (Nat.le_refl _) ?_
  exact r_ret zf262_20 rfl (fun _ => rfl)
theorem zc_146_40 {hp : zHp} (F : zFr0 hp) (d : Nat) (a0 : Int32) : zCan (d + 3) 146 [.ref 0, .int a0] hp (some (.int (-1)), hp) := by
  refine zCan_body (d := d + 2) hgm146 ⟨Nat.le_of_ble_eq_true rfl, by decide⟩ (Nat.le_refl _) ?_
  show zR _ _ _ _ _ (0, [(0, .ref 0), (1, .int a0)], []) hp _
  refine r_s (fr' := (1, [(0, .ref 0), (1, .int a0)], [.ref 0])) (hp' := hp) zf146_0 (fun _ => rfl) (Nat.le_refl _) ?_
  refine r_get zf146_1 (by decide) ⟨(hl0 F), by decide⟩ (hc0 F) (v := .ref 9) rfl ?_
  show zR _ _ _ _ _ (4, [(0, .ref 0), (1, .int a0)], [.ref 9]) hp _
  refine r_call (ix := 9) (as := []) (rest := []) (rv := some (.int 0)) (hp' := hp) zf146_4 har76 rfl rfl rfl (hk9 F) (Nat.le_of_ble_eq_true rfl) (zc_76_26 F (d + 0) ) (Nat.le_refl _) ?_
  show zR _ _ _ _ _ (7, [(0, .ref 0), (1, .int a0)], [.int 0]) hp _
  refine r_if zf146_7 (fun _ => ?_) (fun h => absurd h (by decide))
  show zR _ _ _ _ _ (20, [(0, .ref 0), (1, .int a0)], []) hp _
  refine r_s (fr' := (21, [(0, .ref 0), (1, .int a0)], [.int (-1)])) (hp' := hp) zf146_20 (fun _ => rfl) (Nat.le_refl _) ?_
  exact r_ret zf146_21 rfl (fun _ => rfl)
theorem zc_264_41 {hp : zHp} (F : zFr0 hp) (d : Nat) (a0 : Int32) : zCan (d + 2) 264 [.ref 70, .int a0] hp (some (.int (-1)), hp) := by
  refine zCan_body (d := d + 1) hgm264 ⟨Nat.le_of_ble_eq_true rfl, by decide⟩ (Nat.le_refl _) ?_
  show zR _ _ _ _ _ (0, [(0, .ref 70), (1, .int a0)], []) hp _
  refine r_s (fr' := (1, [(0, .ref 70), (1, .int a0)], [.ref 70])) (hp' := hp) zf264_0 (fun _ => rfl) (Nat.le_refl _) ?_
  refine r_call (ix := 70) (as := []) (rest := []) (rv := some (.int 0)) (hp' := hp) zf264_1 har204 rfl rfl rfl (hk70 F) (Nat.le_of_ble_eq_true rfl) (zc_204_28 F (d + 0) ) (Nat.le_refl _) ?_
  show zR _ _ _ _ _ (4, [(0, .ref 70), (1, .int a0)], [.int 0]) hp _
  refine r_if zf264_4 (fun _ => ?_) (fun h => absurd h (by decide))
  show zR _ _ _ _ _ (19, [(0, .ref 70), (1, .int a0)], []) hp _
  refine r_s (fr' := (20, [(0, .ref 70), (1, .int a0)], [.int (-1)])) (hp' := hp) zf264_19 (fun _ => rfl) (Nat.le_refl _) ?_
  exact r_ret zf264_20 rfl (fun _ => rfl)
theorem zc_147_42 {hp : zHp} (F : zFr0 hp) (d : Nat) (a0 : Int32) : zCan (d + 3) 147 [.ref 0, .int a0] hp (some (.int (-1000)), hp) := by
  refine zCan_body (d := d + 2) hgm147 ⟨Nat.le_of_ble_eq_true rfl, by decide⟩ (Nat.le_refl _) ?_
  show zR _ _ _ _ _ (0, [(0, .ref 0), (1, .int a0)], []) hp _
  refine r_s (fr' := (1, [(0, .ref 0), (1, .int a0)], [.ref 0])) (hp' := hp) zf147_0 (fun _ => rfl) (Nat.le_refl _) ?_
  refine r_get zf147_1 (by decide) ⟨(hl0 F), by decide⟩ (hc0 F) (v := .ref 9) rfl ?_
  show zR _ _ _ _ _ (4, [(0, .ref 0), (1, .int a0)], [.ref 9]) hp _
  refine r_s (fr' := (5, [(0, .ref 0), (1, .int a0)], [.int a0, .ref 9])) (hp' := hp) zf147_4 (fun _ => rfl) (Nat.le_refl _) ?_
  refine r_call (ix := 9) (as := [.int a0]) (rest := []) (rv := some (.int 0)) (hp' := hp) zf147_5 har85 rfl rfl rfl (hk9 F) (Nat.le_of_ble_eq_true rfl) (zc_85_11 F (d + 0) a0) (Nat.le_refl _) ?_
  show zR _ _ _ _ _ (8, [(0, .ref 0), (1, .int a0)], [.int 0]) hp _
  refine r_if zf147_8 (fun _ => ?_) (fun h => absurd h (by decide))
  show zR _ _ _ _ _ (22, [(0, .ref 0), (1, .int a0)], []) hp _
  refine r_s (fr' := (25, [(0, .ref 0), (1, .int a0)], [.int (-1000)])) (hp' := hp) zf147_22 (fun _ => rfl) (Nat.le_refl _) ?_
  exact r_ret zf147_25 rfl (fun _ => rfl)
theorem zc_265_43 {hp : zHp} (F : zFr0 hp) (d : Nat) (a0 : Int32) : zCan (d + 2) 265 [.ref 70, .int a0] hp (some (.int (-1000)), hp) := by
  refine zCan_body (d := d + 1) hgm265 ⟨Nat.le_of_ble_eq_true rfl, by decide⟩ (Nat.le_refl _) ?_
  show zR _ _ _ _ _ (0, [(0, .ref 70), (1, .int a0)], []) hp _
  refine r_s (fr' := (1, [(0, .ref 70), (1, .int a0)], [.ref 70])) (hp' := hp) zf265_0 (fun _ => rfl) (Nat.le_refl _) ?_
  refine r_s (fr' := (2, [(0, .ref 70), (1, .int a0)], [.int a0, .ref 70])) (hp' := hp) zf265_1 (fun _ => rfl) (Nat.le_refl _) ?_
  refine r_call (ix := 70) (as := [.int a0]) (rest := []) (rv := some (.int 0)) (hp' := hp) zf265_2 har205 rfl rfl rfl (hk70 F) (Nat.le_of_ble_eq_true rfl) (zc_205_14 F (d + 0) a0) (Nat.le_refl _) ?_
  show zR _ _ _ _ _ (5, [(0, .ref 70), (1, .int a0)], [.int 0]) hp _
  refine r_if zf265_5 (fun h => absurd h (by decide)) (fun _ => ?_)
  show zR _ _ _ _ _ (8, [(0, .ref 70), (1, .int a0)], []) hp _
  refine r_s (fr' := (11, [(0, .ref 70), (1, .int a0)], [.int (-1000)])) (hp' := hp) zf265_8 (fun _ => rfl) (Nat.le_refl _) ?_
  exact r_ret zf265_11 rfl (fun _ => rfl)
theorem zc_148_44 {hp : zHp} (F : zFr0 hp) (d : Nat) (a0 : Int32) (a1 : Int32) : zCan (d + 3) 148 [.ref 0, .int a0, .int a1] hp (some (.int (-1)), hp) := by
  refine zCan_body (d := d + 2) hgm148 ⟨Nat.le_of_ble_eq_true rfl, by decide⟩ (Nat.le_refl _) ?_
  show zR _ _ _ _ _ (0, [(0, .ref 0), (1, .int a0), (2, .int a1)], []) hp _
  refine r_s (fr' := (1, [(0, .ref 0), (1, .int a0), (2, .int a1)], [.ref 0])) (hp' := hp) zf148_0 (fun _ => rfl) (Nat.le_refl _) ?_
  refine r_get zf148_1 (by decide) ⟨(hl0 F), by decide⟩ (hc0 F) (v := .ref 9) rfl ?_
  show zR _ _ _ _ _ (4, [(0, .ref 0), (1, .int a0), (2, .int a1)], [.ref 9]) hp _
  refine r_s (fr' := (5, [(0, .ref 0), (1, .int a0), (2, .int a1)], [.int a0, .ref 9])) (hp' := hp) zf148_4 (fun _ => rfl) (Nat.le_refl _) ?_
  refine r_call (ix := 9) (as := [.int a0]) (rest := []) (rv := some (.int 0)) (hp' := hp) zf148_5 har83 rfl rfl rfl (hk9 F) (Nat.le_of_ble_eq_true rfl) (zc_83_1 F (d + 0) a0) (Nat.le_refl _) ?_
  show zR _ _ _ _ _ (8, [(0, .ref 0), (1, .int a0), (2, .int a1)], [.int 0]) hp _
  refine r_if zf148_8 (fun _ => ?_) (fun h => absurd h (by decide))
  show zR _ _ _ _ _ (20, [(0, .ref 0), (1, .int a0), (2, .int a1)], []) hp _
  refine r_s (fr' := (21, [(0, .ref 0), (1, .int a0), (2, .int a1)], [.int (-1)])) (hp' := hp) zf148_20 (fun _ => rfl) (Nat.le_refl _) ?_
  exact r_ret zf148_21 rfl (fun _ => rfl)
theorem zc_267_45 {hp : zHp} (F : zFr0 hp) (d : Nat) (a0 : Int32) (a1 : Int32) : zCan (d + 2) 267 [.ref 70, .int a0, .int a1] hp (some (.int (-1)), hp) := by
  refine zCan_body (d := d + 1) hgm267 ⟨Nat.le_of_ble_eq_true rfl, by decide⟩ (Nat.le_refl _) ?_
  show zR _ _ _ _ _ (0, [(0, .ref 70), (1, .int a0), (2, .int a1)], []) hp _
  refine r_s (fr' := (1, [(0, .ref 70), (1, .int a0), (2, .int a1)], [.ref 70])) (hp' := hp) zf267_0 (fun _ => rfl) (Nat.le_refl _) ?_
  refine r_s (fr' := (2, [(0, .ref 70), (1, .int a0), (2, .int a1)], [.int a0, .ref 70])) (hp' := hp) zf267_1 (fun _ => rfl) (Nat.le_refl _) ?_
  refine r_call (ix := 70) (as := [.int a0]) (rest := []) (rv := some (.int 0)) (hp' := hp) zf267_2 har206 rfl rfl rfl (hk70 F) (Nat.le_of_ble_eq_true rfl) (zc_206_3 F (d + 0) a0) (Nat.le_refl _) ?_
  show zR _ _ _ _ _ (5, [(0, .ref 70), (1, .int a0), (2, .int a1)], [.int 0]) hp _
  refine r_if zf267_5 (fun _ => ?_) (fun h => absurd h (by decide))
  show zR _ _ _ _ _ (20, [(0, .ref 70), (1, .int a0), (2, .int a1)], []) hp _
  refine r_s (fr' := (21, [(0, .ref 70), (1, .int a0), (2, .int a1)], [.int (-1)])) (hp' := hp) zf267_20 (fun _ => rfl) (Nat.le_refl _) ?_
  exact r_ret zf267_21 rfl (fun _ => rfl)
theorem zc_149_46 {hp : zHp} (F : zFr0 hp) (d : Nat) (a0 : Int32) : zCan (d + 3) 149 [.ref 0, .int a0] hp (some (.int (-1)), hp) := by
  refine zCan_body (d := d + 2) hgm149 ⟨Nat.le_of_ble_eq_true rfl, by decide⟩ (Nat.le_refl _) ?_
  show zR _ _ _ _ _ (0, [(0, .ref 0), (1, .int a0)], []) hp _
  refine r_s (fr' := (1, [(0, .ref 0), (1, .int a0)], [.ref 0])) (hp' := hp) zf149_0 (fun _ => rfl) (Nat.le_refl _) ?_
  refine r_get zf149_1 (by decide) ⟨(hl0 F), by decide⟩ (hc0 F) (v := .ref 9) rfl ?_
  show zR _ _ _ _ _ (4, [(0, .ref 0), (1, .int a0)], [.ref 9]) hp _
  refine r_call (ix := 9) (as := []) (rest := []) (rv := some (.int 0)) (hp' := hp) zf149_4 har76 rfl rfl rfl (hk9 F) (Nat.le_of_ble_eq_true rfl) (zc_76_26 F (d + 0) ) (Nat.le_refl _) ?_
  show zR _ _ _ _ _ (7, [(0, .ref 0), (1, .int a0)], [.int 0]) hp _
  refine r_if zf149_7 (fun _ => ?_) (fun h => absurd h (by decide))
  show zR _ _ _ _ _ (18, [(0, .ref 0), (1, .int a0)], []) hp _
  refine r_s (fr' := (19, [(0, .ref 0), (1, .int a0)], [.int (-1)])) (hp' := hp) zf149_18 (fun _ => rfl) (Nat.le_refl _) ?_
  exact r_ret zf149_19 rfl (fun _ => rfl)
theorem zc_269_47 {hp : zHp} (F : zFr0 hp) (d : Nat) (a0 : Int32) : zCan (d + 2) 269 [.ref 70, .int a0] hp (some (.int (-1)), hp) := by
  refine zCan_body (d := d + 1) hgm269 ⟨Nat.le_of_ble_eq_true rfl, by decide⟩ (Nat.le_refl _) ?_
  show zR _ _ _ _ _ (0, [(0, .ref 70), (1, .int a0)], []) hp _
  refine r_s (fr' := (1, [(0, .ref 70), (1, .int a0)], [.ref 70])) (hp' := hp) zf269_0 (fun _ => rfl) (Nat.le_refl _) ?_
  refine r_call (ix := 70) (as := []) (rest := []) (rv := some (.int 0)) (hp' := hp) zf269_1 har204 rfl rfl rfl (hk70 F) (Nat.le_of_ble_eq_true rfl) (zc_204_28 F (d + 0) ) (Nat.le_refl _) ?_
  show zR _ _ _ _ _ (4, [(0, .ref 70), (1, .int a0)], [.int 0]) hp _
  refine r_if zf269_4 (fun _ => ?_) (fun h => absurd h (by decide))
  show zR _ _ _ _ _ (15, [(0, .ref 70), (1, .int a0)], []) hp _
  refine r_s (fr' := (16, [(0, .ref 70), (1, .int a0)], [.int (-1)])) (hp' := hp) zf269_15 (fun _ => rfl) (Nat.le_refl _) ?_
  exact r_ret zf269_16 rfl (fun _ => rfl)
theorem zc_150_48 {hp : zHp} (F : zFr0 hp) (d : Nat) (a0 : Int32) : zCan (d + 3) 150 [.ref 0, .int a0] hp (some (.int (-1)), hp) := by
  refine zCan_body (d := d + 2) hgm150 ⟨Nat.le_of_ble_eq_true rfl, by decide⟩ (Nat.le_refl _) ?_
  show zR _ _ _ _ _ (0, [(0, .ref 0), (1, .int a0)], []) hp _
  refine r_s (fr' := (1, [(0, .ref 0), (1, .int a0)], [.ref 0])) (hp' := hp) zf150_0 (fun _ => rfl) (Nat.le_refl _) ?_
  refine r_get zf150_1 (by decide) ⟨(hl0 F), by decide⟩ (hc0 F) (v := .ref 9) rfl ?_
  show zR _ _ _ _ _ (4, [(0, .ref 0), (1, .int a0)], [.ref 9]) hp _
  refine r_call (ix := 9) (as := []) (rest := []) (rv := some (.int 0)) (hp' := hp) zf150_4 har76 rfl rfl rfl (hk9 F) (Nat.le_of_ble_eq_true rfl) (zc_76_26 F (d + 0) ) (Nat.le_refl _) ?_
  show zR _ _ _ _ _ (7, [(0, .ref 0), (1, .int a0)], [.int 0]) hp _
  refine r_if zf150_7 (fun _ => ?_) (fun h => absurd h (by decide))
  show zR _ _ _ _ _ (19, [(0, .ref 0), (1, .int a0)], []) hp _
  refine r_s (fr' := (20, [(0, .ref 0), (1, .int a0)], [.int (-1)])) (hp' := hp) zf150_19 (fun _ => rfl) (Nat.le_refl _) ?_
  exact r_ret zf150_20 rfl (fun _ => rfl)
theorem zc_272_49 {hp : zHp} (F : zFr0 hp) (d : Nat) (a0 : Int32) : zCan (d + 2) 272 [.ref 70, .int a0] hp (some (.int (-1)), hp) := by
  refine zCan_body (d := d + 1) hgm272 ⟨Nat.le_of_ble_eq_true rfl, by decide⟩ (Nat.le_refl _) ?_
  show zR _ _ _ _ _ (0, [(0, .ref 70), (1, .int a0)], []) hp _
  refine r_s (fr' := (1, [(0, .ref 70), (1, .int a0)], [.ref 70])) (hp' := hp) zf272_0 (fun _ => rfl) (Nat.le_refl _) ?_
  refine r_call (ix := 70) (as := []) (rest := []) (rv := some (.int 0)) (hp' := hp) zf272_1 har204 rfl rfl rfl (hk70 F) (Nat.le_of_ble_eq_true rfl) (zc_204_28 F (d + 0) ) (Nat.le_refl _) ?_
  show zR _ _ _ _ _ (4, [(0, .ref 70), (1, .int a0)], [.int 0]) hp _
  refine r_if zf272_4 (fun _ => ?_) (fun h => absurd h (by decide))
  show zR _ _ _ _ _ (19, [(0, .ref 70), (1, .int a0)], []) hp _
  refine r_s (fr' := (20, [(0, .ref 70), (1, .int a0)], [.int (-1)])) (hp' := hp) zf272_19 (fun _ => rfl) (Nat.le_refl _) ?_
  exact r_ret zf272_20 rfl (fun _ => rfl)
theorem zc_153_50 {hp : zHp} (F : zFr0 hp) (d : Nat) (a0 : Int32) (a1 : Int32) (a2 : Int32) : zCan (d + 3) 153 [.ref 0, .int a0, .int a1, .int a2] hp (some (.int (-1)), hp) := by
  refine zCan_body (d := d + 2) hgm153 ⟨Nat.le_of_ble_eq_true rfl, by decide⟩ (Nat.le_refl _) ?_
  show zR _ _ _ _ _ (0, [(0, .ref 0), (1, .int a0), (2, .int a1), (3, .int a2)], []) hp _
  refine r_s (fr' := (1, [(0, .ref 0), (1, .int a0), (2, .int a1), (3, .int a2)], [.ref 0])) (hp' := hp) zf153_0 (fun _ => rfl) (Nat.le_refl _) ?_
  refine r_get zf153_1 (by decide) ⟨(hl0 F), by decide⟩ (hc0 F) (v := .ref 9) rfl ?_
  show zR _ _ _ _ _ (4, [(0, .ref 0), (1, .int a0), (2, .int a1), (3, .int a2)], [.ref 9]) hp _
  refine r_call (ix := 9) (as := []) (rest := []) (rv := some (.int 0)) (hp' := hp) zf153_4 har76 rfl rfl rfl (hk9 F) (Nat.le_of_ble_eq_true rfl) (zc_76_26 F (d + 0) ) (Nat.le_refl _) ?_
  show zR _ _ _ _ _ (7, [(0, .ref 0), (1, .int a0), (2, .int a1), (3, .int a2)], [.int 0]) hp _
  refine r_if zf153_7 (fun _ => ?_) (fun h => absurd h (by decide))
  show zR _ _ _ _ _ (41, [(0, .ref 0), (1, .int a0), (2, .int a1), (3, .int a2)], []) hp _
  refine r_s (fr' := (42, [(0, .ref 0), (1, .int a0), (2, .int a1), (3, .int a2)], [.int (-1)])) (hp' := hp) zf153_41 (fun _ => rfl) (Nat.le_refl _) ?_
  exact r_ret zf153_42 rfl (fun _ => rfl)
theorem zc_276_51 {hp : zHp} (F : zFr0 hp) (d : Nat) (a0 : Int32) (a1 : Int32) (a2 : Int32) : zCan (d + 2) 276 [.ref 70, .int a0, .int a1, .int a2] hp (some (.int (-1)), hp) := by
  refine zCan_body (d := d + 1) hgm276 ⟨Nat.le_of_ble_eq_true rfl, by decide⟩ (Nat.le_refl _) ?_
  show zR _ _ _ _ _ (0, [(0, .ref 70), (1, .int a0), (2, .int a1), (3, .int a2)], []) hp _
  refine r_s (fr' := (1, [(0, .ref 70), (1, .int a0), (2, .int a1), (3, .int a2)], [.ref 70])) (hp' := hp) zf276_0 (fun _ => rfl) (Nat.le_refl _) ?_
  refine r_call (ix := 70) (as := []) (rest := []) (rv := some (.int 0)) (hp' := hp) zf276_1 har204 rfl rfl rfl (hk70 F) (Nat.le_of_ble_eq_true rfl) (zc_204_28 F (d + 0) ) (Nat.le_refl _) ?_
  show zR _ _ _ _ _ (4, [(0, .ref 70), (1, .int a0), (2, .int a1), (3, .int a2)], [.int 0]) hp _
  refine r_if zf276_4 (fun _ => ?_) (fun h => absurd h (by decide))
  show zR _ _ _ _ _ (41, [(0, .ref 70), (1, .int a0), (2, .int a1), (3, .int a2)], []) hp _
  refine r_s (fr' := (42, [(0, .ref 70), (1, .int a0), (2, .int a1), (3, .int a2)], [.int (-1)])) (hp' := hp) zf276_41 (fun _ => rfl) (Nat.le_refl _) ?_
  exact r_ret zf276_42 rfl (fun _ => rfl)
theorem zc_124x_52 {hp : zHp} (F : zFr0 hp) (d : Nat) (a0 : Int32) (x0 : ¬ a0 = 0) : zCan (d + 1) 124 [.ref 0, .int a0] hp (some (.int (-1)), hp) := by
  refine zCan_body (d := d + 0) hgm124 ⟨Nat.le_of_ble_eq_true rfl, by decide⟩ (Nat.le_refl _) ?_
  show zR _ _ _ _ _ (0, [(0, .ref 0), (1, .int a0)], []) hp _
  refine r_s (fr' := (1, [(0, .ref 0), (1, .int a0)], [.int a0])) (hp' := hp) zf124_0 (fun _ => rfl) (Nat.le_refl _) ?_
  refine r_if zf124_1 (fun q0 => ?_) (fun q0 => ?_)
  · show zR _ _ _ _ _ (12, [(0, .ref 0), (1, .int a0)], []) hp _
    refine r_s (fr' := (13, [(0, .ref 0), (1, .int a0)], [.int (-1)])) (hp' := hp) zf124_12 (fun _ => rfl) (Nat.le_refl _) ?_
    exact r_ret zf124_13 rfl (fun _ => rfl)
  · show zR _ _ _ _ _ (4, [(0, .ref 0), (1, .int a0)], []) hp _
    refine r_s (fr' := (5, [(0, .ref 0), (1, .int a0)], [.int a0])) (hp' := hp) zf124_4 (fun _ => rfl) (Nat.le_refl _) ?_
    refine r_s (fr' := (6, [(0, .ref 0), (1, .int a0)], [.ref 0, .int a0])) (hp' := hp) zf124_5 (fun _ => rfl) (Nat.le_refl _) ?_
    refine r_get zf124_6 (by decide) ⟨(hl0 F), by decide⟩ (hc0 F) (v := .int 0) rfl ?_
    show zR _ _ _ _ _ (9, [(0, .ref 0), (1, .int a0)], [.int 0, .int a0]) hp _
    refine r_ifc zf124_9 (fun q1 => ?_) (fun q1 => ?_)
    · exact zno (by simp only [zcmp, decide_eq_true_eq, decide_eq_false_iff_not, Int32.lt_iff_toInt_lt, Int32.le_iff_toInt_le, ← Int32.toInt_inj, zI0, zI1, zI2, zI3, zI4, zI5, zI6, zI7, zI8, zI9, zI10, zI11] at *; omega)
    · show zR _ _ _ _ _ (12, [(0, .ref 0), (1, .int a0)], []) hp _
      refine r_s (fr' := (13, [(0, .ref 0), (1, .int a0)], [.int (-1)])) (hp' := hp) zf124_12 (fun _ => rfl) (Nat.le_refl _) ?_
      exact r_ret zf124_13 rfl (fun _ => rfl)
theorem zc_162x_53 {hp : zHp} (F : zFr0 hp) (d : Nat) (a0 : Int32) (x0 : ¬ a0 = 0) : zCan (d + 1) 162 [.ref 70, .int a0] hp (some (.int (-1)), hp) := by
  refine zCan_body (d := d + 0) hgm162 ⟨Nat.le_of_ble_eq_true rfl, by decide⟩ (Nat.le_refl _) ?_
  show zR _ _ _ _ _ (0, [(0, .ref 70), (1, .int a0)], []) hp _
  refine r_s (fr' := (1, [(0, .ref 70), (1, .int a0)], [.int a0])) (hp' := hp) zf162_0 (fun _ => rfl) (Nat.le_refl _) ?_
  refine r_if zf162_1 (fun q0 => ?_) (fun q0 => ?_)
  · show zR _ _ _ _ _ (12, [(0, .ref 70), (1, .int a0)], []) hp _
    refine r_s (fr' := (13, [(0, .ref 70), (1, .int a0)], [.int (-1)])) (hp' := hp) zf162_12 (fun _ => rfl) (Nat.le_refl _) ?_
    exact r_ret zf162_13 rfl (fun _ => rfl)
  · show zR _ _ _ _ _ (4, [(0, .ref 70), (1, .int a0)], []) hp _
    refine r_s (fr' := (5, [(0, .ref 70), (1, .int a0)], [.int a0])) (hp' := hp) zf162_4 (fun _ => rfl) (Nat.le_refl _) ?_
    refine r_s (fr' := (6, [(0, .ref 70), (1, .int a0)], [.ref 70, .int a0])) (hp' := hp) zf162_5 (fun _ => rfl) (Nat.le_refl _) ?_
    refine r_get zf162_6 (by decide) ⟨(hl70 F), by decide⟩ (hc70 F) (v := .int 0) rfl ?_
    show zR _ _ _ _ _ (9, [(0, .ref 70), (1, .int a0)], [.int 0, .int a0]) hp _
    refine r_ifc zf162_9 (fun q1 => ?_) (fun q1 => ?_)
    · exact zno (by simp only [zcmp, decide_eq_true_eq, decide_eq_false_iff_not, Int32.lt_iff_toInt_lt, Int32.le_iff_toInt_le, ← Int32.toInt_inj, zI0, zI1, zI2, zI3, zI4, zI5, zI6, zI7, zI8, zI9, zI10, zI11] at *; omega)
    · show zR _ _ _ _ _ (12, [(0, .ref 70), (1, .int a0)], []) hp _
      refine r_s (fr' := (13, [(0, .ref 70), (1, .int a0)], [.int (-1)])) (hp' := hp) zf162_12 (fun _ => rfl) (Nat.le_refl _) ?_
      exact r_ret zf162_13 rfl (fun _ => rfl)
theorem zc_154x_54 {hp : zHp} (F : zFr0 hp) (d : Nat) (a0 : Int32) (x0 : ¬ a0 = 0) (x1 : ¬ a0 = 1) (x2 : ¬ a0 = 2) (x3 : ¬ a0 = 3) (x4 : ¬ a0 = 4) (x5 : ¬ a0 = 5) (x6 : ¬ a0 = 6) (x7 : ¬ a0 = 7) (x8 : ¬ a0 = 8) (x9 : ¬ a0 = 9) (x10 : ¬ a0 = 10) (x11 : ¬ a0 = 11) : zCan (d + 1) 154 [.ref 0, .int a0] hp (some (.int (-1)), hp) := by
  refine zCan_body (d := d + 0) hgm154 ⟨Nat.le_of_ble_eq_true rfl, by decide⟩ (Nat.le_refl _) ?_
  show zR _ _ _ _ _ (0, [(0, .ref 0), (1, .int a0)], []) hp _
  refine r_s (fr' := (1, [(0, .ref 0), (1, .int a0)], [.int a0])) (hp' := hp) zf154_0 (fun _ => rfl) (Nat.le_refl _) ?_
  refine r_s (fr' := (154, [(0, .ref 0), (1, .int a0)], [])) (hp' := hp) zf154_1 (fun _ => zTab_out (by simp only [← Int32.toInt_inj, zI0, zI1, zI2, zI3, zI4, zI5, zI6, zI7, zI8, zI9, zI10, zI11] at *; omega) rfl) (Nat.le_refl _) ?_
  refine r_s (fr' := (155, [(0, .ref 0), (1, .int a0)], [.int (-1)])) (hp' := hp) zf154_154 (fun _ => rfl) (Nat.le_refl _) ?_
  exact r_ret zf154_155 rfl (fun _ => rfl)
theorem zc_277x_55 {hp : zHp} (F : zFr0 hp) (d : Nat) (a0 : Int32) (x0 : ¬ a0 = 0) (x1 : ¬ a0 = 1) (x2 : ¬ a0 = 2) (x3 : ¬ a0 = 3) (x4 : ¬ a0 = 4) (x5 : ¬ a0 = 5) (x6 : ¬ a0 = 6) (x7 : ¬ a0 = 7) (x8 : ¬ a0 = 8) (x9 : ¬ a0 = 9) (x10 : ¬ a0 = 10) (x11 : ¬ a0 = 11) : zCan (d + 1) 277 [.ref 70, .int a0] hp (some (.int (-1)), hp) := by
  refine zCan_body (d := d + 0) hgm277 ⟨Nat.le_of_ble_eq_true rfl, by decide⟩ (Nat.le_refl _) ?_
  show zR _ _ _ _ _ (0, [(0, .ref 70), (1, .int a0)], []) hp _
  refine r_s (fr' := (1, [(0, .ref 70), (1, .int a0)], [.int 0])) (hp' := hp) zf277_0 (fun _ => rfl) (Nat.le_refl _) ?_
  refine r_s (fr' := (2, [(2, .int 0), (0, .ref 70), (1, .int a0)], [])) (hp' := hp) zf277_1 (fun _ => rfl) (Nat.le_refl _) ?_
  refine r_s (fr' := (3, [(2, .int 0), (0, .ref 70), (1, .int a0)], [.int a0])) (hp' := hp) zf277_2 (fun _ => rfl) (Nat.le_refl _) ?_
  refine r_s (fr' := (171, [(2, .int 0), (0, .ref 70), (1, .int a0)], [])) (hp' := hp) zf277_3 (fun _ => zTab_out (by simp only [← Int32.toInt_inj, zI0, zI1, zI2, zI3, zI4, zI5, zI6, zI7, zI8, zI9, zI10, zI11] at *; omega) rfl) (Nat.le_refl _) ?_
  refine r_s (fr' := (172, [(2, .int 0), (0, .ref 70), (1, .int a0)], [.int (-1)])) (hp' := hp) zf277_171 (fun _ => rfl) (Nat.le_refl _) ?_
  exact r_ret zf277_172 rfl (fun _ => rfl)
theorem zc_155x_56 {hp : zHp} (F : zFr0 hp) (d : Nat) (a0 : Int32) (x0 : ¬ a0 = 0) (x1 : ¬ a0 = 1) (x2 : ¬ a0 = 2) (x3 : ¬ a0 = 3) : zCan (d + 1) 155 [.ref 0, .int a0] hp (some (.int (-1)), hp) := by
  refine zCan_body (d := d + 0) hgm155 ⟨Nat.le_of_ble_eq_true rfl, by decide⟩ (Nat.le_refl _) ?_
  show zR _ _ _ _ _ (0, [(0, .ref 0), (1, .int a0)], []) hp _
  refine r_s (fr' := (1, [(0, .ref 0), (1, .int a0)], [.int a0])) (hp' := hp) zf155_0 (fun _ => rfl) (Nat.le_refl _) ?_
  refine r_if zf155_1 (fun q0 => ?_) (fun q0 => ?_)
  · show zR _ _ _ _ _ (9, [(0, .ref 0), (1, .int a0)], []) hp _
    refine r_s (fr' := (10, [(0, .ref 0), (1, .int a0)], [.int (-1)])) (hp' := hp) zf155_9 (fun _ => rfl) (Nat.le_refl _) ?_
    exact r_ret zf155_10 rfl (fun _ => rfl)
  · show zR _ _ _ _ _ (4, [(0, .ref 0), (1, .int a0)], []) hp _
    refine r_s (fr' := (5, [(0, .ref 0), (1, .int a0)], [.int a0])) (hp' := hp) zf155_4 (fun _ => rfl) (Nat.le_refl _) ?_
    refine r_s (fr' := (6, [(0, .ref 0), (1, .int a0)], [.int 4, .int a0])) (hp' := hp) zf155_5 (fun _ => rfl) (Nat.le_refl _) ?_
    refine r_ifc zf155_6 (fun q1 => ?_) (fun q1 => ?_)
    · exact zno (by simp only [zcmp, decide_eq_true_eq, decide_eq_false_iff_not, Int32.lt_iff_toInt_lt, Int32.le_iff_toInt_le, ← Int32.toInt_inj, zI0, zI1, zI2, zI3, zI4, zI5, zI6, zI7, zI8, zI9, zI10, zI11] at *; omega)
    · show zR _ _ _ _ _ (9, [(0, .ref 0), (1, .int a0)], []) hp _
      refine r_s (fr' := (10, [(0, .ref 0), (1, .int a0)], [.int (-1)])) (hp' := hp) zf155_9 (fun _ => rfl) (Nat.le_refl _) ?_
      exact r_ret zf155_10 rfl (fun _ => rfl)
theorem zc_156x_57 {hp : zHp} (F : zFr0 hp) (d : Nat) (a0 : Int32) (x0 : ¬ a0 = 0) (x1 : ¬ a0 = 1) (x2 : ¬ a0 = 2) (x3 : ¬ a0 = 3) : zCan (d + 1) 156 [.ref 0, .int a0] hp (some (.int (-1)), hp) := by
  refine zCan_body (d := d + 0) hgm156 ⟨Nat.le_of_ble_eq_true rfl, by decide⟩ (Nat.le_refl _) ?_
  show zR _ _ _ _ _ (0, [(0, .ref 0), (1, .int a0)], []) hp _
  refine r_s (fr' := (1, [(0, .ref 0), (1, .int a0)], [.int a0])) (hp' := hp) zf156_0 (fun _ => rfl) (Nat.le_refl _) ?_
  refine r_if zf156_1 (fun q0 => ?_) (fun q0 => ?_)
  · show zR _ _ _ _ _ (18, [(0, .ref 0), (1, .int a0)], []) hp _
    refine r_s (fr' := (19, [(0, .ref 0), (1, .int a0)], [.int (-1)])) (hp' := hp) zf156_18 (fun _ => rfl) (Nat.le_refl _) ?_
    exact r_ret zf156_19 rfl (fun _ => rfl)
  · show zR _ _ _ _ _ (4, [(0, .ref 0), (1, .int a0)], []) hp _
    refine r_s (fr' := (5, [(0, .ref 0), (1, .int a0)], [.int a0])) (hp' := hp) zf156_4 (fun _ => rfl) (Nat.le_refl _) ?_
    refine r_s (fr' := (6, [(0, .ref 0), (1, .int a0)], [.int 4, .int a0])) (hp' := hp) zf156_5 (fun _ => rfl) (Nat.le_refl _) ?_
    refine r_ifc zf156_6 (fun q1 => ?_) (fun q1 => ?_)
    · show zR _ _ _ _ _ (18, [(0, .ref 0), (1, .int a0)], []) hp _
      refine r_s (fr' := (19, [(0, .ref 0), (1, .int a0)], [.int (-1)])) (hp' := hp) zf156_18 (fun _ => rfl) (Nat.le_refl _) ?_
      exact r_ret zf156_19 rfl (fun _ => rfl)
    · exact zno (by simp only [zcmp, decide_eq_true_eq, decide_eq_false_iff_not, Int32.lt_iff_toInt_lt, Int32.le_iff_toInt_le, ← Int32.toInt_inj, zI0, zI1, zI2, zI3, zI4, zI5, zI6, zI7, zI8, zI9, zI10, zI11] at *; omega)
theorem zc_in {hp : zHp} (F : zFr0 hp) (d : Nat) (a0 : Int32) (x0 : ¬ a0 = 0) (x1 : ¬ a0 = 1) (x2 : ¬ a0 = 2) (x3 : ¬ a0 = 3) : zCan (d + 1) 158 [.long a0.toInt64, .long 0, .long 3] hp (some (.int 0), hp) := by
  refine zCan_body (d := d) hgm158 ⟨Nat.le_of_ble_eq_true rfl, by decide⟩ (Nat.le_refl _) ?_
  show zR _ _ _ _ _ (0, [(0, .long a0.toInt64), (2, .long 0), (4, .long 3)], []) hp _
  refine r_s (fr' := (1, [(0, .long a0.toInt64), (2, .long 0), (4, .long 3)], [.long a0.toInt64])) (hp' := hp) zf158_0 (fun _ => rfl) (Nat.le_refl _) ?_
  refine r_s (fr' := (2, [(0, .long a0.toInt64), (2, .long 0), (4, .long 3)], [.long 0, .long a0.toInt64])) (hp' := hp) zf158_1 (fun _ => rfl) (Nat.le_refl _) ?_
  refine r_s (fr' := (3, [(0, .long a0.toInt64), (2, .long 0), (4, .long 3)], [.int (lg_cmp a0.toInt64 0)])) (hp' := hp) zf158_2 (fun _ => rfl) (Nat.le_refl _) ?_
  refine r_if zf158_3 (fun q0 => ?_) (fun q0 => ?_)
  · show zR _ _ _ _ _ (17, [(0, .long a0.toInt64), (2, .long 0), (4, .long 3)], []) hp _
    refine r_s (fr' := (18, [(0, .long a0.toInt64), (2, .long 0), (4, .long 3)], [.int 0])) (hp' := hp) zf158_17 (fun _ => rfl) (Nat.le_refl _) ?_
    exact r_ret zf158_18 rfl (fun _ => rfl)
  · show zR _ _ _ _ _ (6, [(0, .long a0.toInt64), (2, .long 0), (4, .long 3)], []) hp _
    refine r_s (fr' := (7, [(0, .long a0.toInt64), (2, .long 0), (4, .long 3)], [.long a0.toInt64])) (hp' := hp) zf158_6 (fun _ => rfl) (Nat.le_refl _) ?_
    refine r_s (fr' := (9, [(0, .long a0.toInt64), (2, .long 0), (4, .long 3)], [.long 3, .long a0.toInt64])) (hp' := hp) zf158_7 (fun _ => rfl) (Nat.le_refl _) ?_
    refine r_s (fr' := (10, [(0, .long a0.toInt64), (2, .long 0), (4, .long 3)], [.int (lg_cmp a0.toInt64 3)])) (hp' := hp) zf158_9 (fun _ => rfl) (Nat.le_refl _) ?_
    refine r_if zf158_10 (fun q1 => ?_) (fun q1 => ?_)
    · show zR _ _ _ _ _ (17, [(0, .long a0.toInt64), (2, .long 0), (4, .long 3)], []) hp _
      refine r_s (fr' := (18, [(0, .long a0.toInt64), (2, .long 0), (4, .long 3)], [.int 0])) (hp' := hp) zf158_17 (fun _ => rfl) (Nat.le_refl _) ?_
      exact r_ret zf158_18 rfl (fun _ => rfl)
    · exact zno (by (try simp only [zcmp, decide_eq_true_eq, decide_eq_false_iff_not, zlgL, zlgG, Int32.toInt_toInt64, zL0, zL3] at *); (try simp only [← Int32.toInt_inj, zI0, zI1, zI2, zI3] at *); omega)

theorem zc_image {hp : zHp} (F : zFr0 hp) (d : Nat) (a0 : Int32) (x0 : ¬ a0 = 0) (x1 : ¬ a0 = 1) (x2 : ¬ a0 = 2) (x3 : ¬ a0 = 3) : zCan (d + 2) 278 [.ref 70, .int a0] hp (some (.int (-1)), hp) := by
  refine zCan_body (d := d + 1) hgm278 ⟨Nat.le_of_ble_eq_true rfl, by decide⟩ (Nat.le_refl _) ?_
  show zR _ _ _ _ _ (0, [(0, .ref 70), (1, .int a0)], []) hp _
  refine r_s (fr' := (1, [(0, .ref 70), (1, .int a0)], [.int a0])) (hp' := hp) zf278_0 (fun _ => rfl) (Nat.le_refl _) ?_
  refine r_s (fr' := (2, [(0, .ref 70), (1, .int a0)], [.long a0.toInt64])) (hp' := hp) zf278_1 (fun _ => rfl) (Nat.le_refl _) ?_
  refine r_s (fr' := (3, [(0, .ref 70), (1, .int a0)], [.long 0, .long a0.toInt64])) (hp' := hp) zf278_2 (fun _ => rfl) (Nat.le_refl _) ?_
  refine r_s (fr' := (6, [(0, .ref 70), (1, .int a0)], [.long 3, .long 0, .long a0.toInt64])) (hp' := hp) zf278_3 (fun _ => rfl) (Nat.le_refl _) ?_
  refine r_callS (as := [.long a0.toInt64, .long 0, .long 3]) (rest := []) (rv := some (.int 0)) (hp' := hp) zf278_6 har158 rfl rfl rfl (Nat.le_of_ble_eq_true rfl) (zc_in F d a0 x0 x1 x2 x3) (Nat.le_refl _) ?_
  show zR _ _ _ _ _ (9, [(0, .ref 70), (1, .int a0)], [.int 0]) hp _
  refine r_if zf278_9 (fun h => absurd h (by decide)) (fun _ => ?_)
  show zR _ _ _ _ _ (12, [(0, .ref 70), (1, .int a0)], []) hp _
  refine r_s (fr' := (13, [(0, .ref 70), (1, .int a0)], [.int (-1)])) (hp' := hp) zf278_12 (fun _ => rfl) (Nat.le_refl _) ?_
  exact r_ret zf278_13 rfl (fun _ => rfl)

theorem zc_back {hp : zHp} (F : zFr0 hp) (d : Nat) (a0 : Int32) (x0 : ¬ a0 = 0) (x1 : ¬ a0 = 1) (x2 : ¬ a0 = 2) (x3 : ¬ a0 = 3) : zCan (d + 2) 279 [.ref 70, .int a0] hp (some (.int (-1)), hp) := by
  refine zCan_body (d := d + 1) hgm279 ⟨Nat.le_of_ble_eq_true rfl, by decide⟩ (Nat.le_refl _) ?_
  show zR _ _ _ _ _ (0, [(0, .ref 70), (1, .int a0)], []) hp _
  refine r_s (fr' := (1, [(0, .ref 70), (1, .int a0)], [.int a0])) (hp' := hp) zf279_0 (fun _ => rfl) (Nat.le_refl _) ?_
  refine r_s (fr' := (2, [(0, .ref 70), (1, .int a0)], [.long a0.toInt64])) (hp' := hp) zf279_1 (fun _ => rfl) (Nat.le_refl _) ?_
  refine r_s (fr' := (3, [(0, .ref 70), (1, .int a0)], [.long 0, .long a0.toInt64])) (hp' := hp) zf279_2 (fun _ => rfl) (Nat.le_refl _) ?_
  refine r_s (fr' := (6, [(0, .ref 70), (1, .int a0)], [.long 3, .long 0, .long a0.toInt64])) (hp' := hp) zf279_3 (fun _ => rfl) (Nat.le_refl _) ?_
  refine r_callS (as := [.long a0.toInt64, .long 0, .long 3]) (rest := []) (rv := some (.int 0)) (hp' := hp) zf279_6 har158 rfl rfl rfl (Nat.le_of_ble_eq_true rfl) (zc_in F d a0 x0 x1 x2 x3) (Nat.le_refl _) ?_
  show zR _ _ _ _ _ (9, [(0, .ref 70), (1, .int a0)], [.int 0]) hp _
  refine r_if zf279_9 (fun _ => ?_) (fun h => absurd h (by decide))
  show zR _ _ _ _ _ (21, [(0, .ref 70), (1, .int a0)], []) hp _
  refine r_s (fr' := (22, [(0, .ref 70), (1, .int a0)], [.int (-1)])) (hp' := hp) zf279_21 (fun _ => rfl) (Nat.le_refl _) ?_
  exact r_ret zf279_22 rfl (fun _ => rfl)

