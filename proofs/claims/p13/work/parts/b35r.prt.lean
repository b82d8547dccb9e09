/-! Methods as functions over the memory. -/
set_option maxRecDepth 4000 in
theorem xg27 : zg zms 27 = some (zm27.2.2.1, zm27.2.2.2.1, zc27) := rfl
theorem xr27 : zar 27 = (1, 4) := by decide +kernel
set_option maxRecDepth 4000 in
theorem xg28 : zg zms 28 = some (zm28.2.2.1, zm28.2.2.2.1, zc28) := rfl
theorem xr28 : zar 28 = (3, 4) := by decide +kernel
set_option maxRecDepth 4000 in
theorem xg29 : zg zms 29 = some (zm29.2.2.1, zm29.2.2.2.1, zc29) := rfl
theorem xr29 : zar 29 = (3, 200) := by decide +kernel
set_option maxRecDepth 4000 in
theorem xg30 : zg zms 30 = some (zm30.2.2.1, zm30.2.2.2.1, zc30) := rfl
theorem xr30 : zar 30 = (3, 200) := by decide +kernel
set_option maxRecDepth 4000 in
theorem xg31 : zg zms 31 = some (zm31.2.2.1, zm31.2.2.2.1, zc31) := rfl
theorem xr31 : zar 31 = (4, 200) := by decide +kernel
set_option maxRecDepth 4000 in
theorem xg114 : zg zms 114 = some (zm114.2.2.1, zm114.2.2.2.1, zc114) := rfl
theorem xr114 : zar 114 = (4, 8) := by decide +kernel
set_option maxRecDepth 4000 in
theorem xg139 : zg zms 139 = some (zm139.2.2.1, zm139.2.2.2.1, zc139) := rfl
theorem xr139 : zar 139 = (2, 10) := by decide +kernel
set_option maxRecDepth 4000 in
theorem xg140 : zg zms 140 = some (zm140.2.2.1, zm140.2.2.2.1, zc140) := rfl
theorem xr140 : zar 140 = (1, 10) := by decide +kernel
set_option maxRecDepth 4000 in
theorem xg199 : zg zms 199 = some (zm199.2.2.1, zm199.2.2.2.1, zc199) := rfl
theorem xr199 : zar 199 = (1, 11) := by decide +kernel
set_option maxRecDepth 4000 in
theorem xg243 : zg zms 243 = some (zm243.2.2.1, zm243.2.2.2.1, zc243) := rfl
theorem xr243 : zar 243 = (2, 11) := by decide +kernel
set_option maxRecDepth 4000 in
theorem xg245 : zg zms 245 = some (zm245.2.2.1, zm245.2.2.2.1, zc245) := rfl
theorem xr245 : zar 245 = (2, 11) := by decide +kernel
set_option maxRecDepth 4000 in
theorem xg247 : zg zms 247 = some (zm247.2.2.1, zm247.2.2.2.1, zc247) := rfl
theorem xr247 : zar 247 = (1, 11) := by decide +kernel
set_option maxRecDepth 4000 in
theorem xg248 : zg zms 248 = some (zm248.2.2.1, zm248.2.2.2.1, zc248) := rfl
theorem xr248 : zar 248 = (2, 11) := by decide +kernel
set_option maxRecDepth 4000 in
theorem xg268 : zg zms 268 = some (zm268.2.2.1, zm268.2.2.2.1, zc268) := rfl
theorem xr268 : zar 268 = (0, 11) := by decide +kernel
set_option maxRecDepth 4000 in
theorem xg269 : zg zms 269 = some (zm269.2.2.1, zm269.2.2.2.1, zc269) := rfl
theorem xr269 : zar 269 = (1, 11) := by decide +kernel
/-- LentTools$Village.wantedOf -/
def D114_9_84 (F : Nat) (g6 : Int32 → Int32 → Int32 → Int32 → Int32 → Int32 → xS → Option (Int32 × xS)) (v1 : Int32) (v2 : Int32) (v3 : Int32) (v4 : Int32) (v5 : Int32) (v6 : Int32) (m : xS) : Option (Int32 × xS) :=
  g6 v1 v2 v3 v4 v5 (v6 + Int32.ofInt 1) m
set_option maxRecDepth 20000 in
theorem T114_9_84 {B : zHp} (H : yH0 B) {e : Nat} (he : 2 ≤ e + 1) (F : Nat) (g6 : Int32 → Int32 → Int32 → Int32 → Int32 → Int32 → xS → Option (Int32 × xS)) (k6 : ∀ {v1 : Int32} {v2 : Int32} {v3 : Int32} {v4 : Int32} {v5 : Int32} {v6 : Int32} {lv : List (Nat × Value)} {m : xS} {x : Int32 × xS}, zld lv 0 = some (.ref 9) → zld lv 1 = some (.int v1) → zld lv 2 = some (.int v2) → zld lv 3 = some (.int v3) → zld lv 4 = some (.int v4) → zld lv 5 = some (.int v5) → zld lv 6 = some (.int v6) → g6 v1 v2 v3 v4 v5 v6 m = some x → zR none e 8 (some .int) zc114 (6, lv, []) (xW B m) (some (.int x.1), xW B x.2)) {v1 : Int32} {v2 : Int32} {v3 : Int32} {v4 : Int32} {v5 : Int32} {v6 : Int32} {lv : List (Nat × Value)} {m : xS} {x : Int32 × xS} (l0 : zld lv 0 = some (.ref 9)) (l1 : zld lv 1 = some (.int v1)) (l2 : zld lv 2 = some (.int v2)) (l3 : zld lv 3 = some (.int v3)) (l4 : zld lv 4 = some (.int v4)) (l5 : zld lv 5 = some (.int v5)) (l6 : zld lv 6 = some (.int v6)) (h : D114_9_84 F g6 v1 v2 v3 v4 v5 v6 m = some x) : zR none e 8 (some .int) zc114 (84, lv, []) (xW B m) (some (.int x.1), xW B x.2) := by
  unfold D114_9_84 at h
  refine q_inc (i := 6) (n := 1) (q := (.iinc 6 1, 3, 0, 0, .null)) rfl (fun _ => rfl) l6 (by decide) ?_
  have l0_1 : zld (zs1 lv 6 (.int (v6 + Int32.ofInt 1))) 0 = some (.ref 9) := x_o1 l0 rfl rfl
  have l1_1 : zld (zs1 lv 6 (.int (v6 + Int32.ofInt 1))) 1 = some (.int v1) := x_o1 l1 rfl rfl
  have l2_1 : zld (zs1 lv 6 (.int (v6 + Int32.ofInt 1))) 2 = some (.int v2) := x_o1 l2 rfl rfl
  have l3_1 : zld (zs1 lv 6 (.int (v6 + Int32.ofInt 1))) 3 = some (.int v3) := x_o1 l3 rfl rfl
  have l4_1 : zld (zs1 lv 6 (.int (v6 + Int32.ofInt 1))) 4 = some (.int v4) := x_o1 l4 rfl rfl
  have l5_1 : zld (zs1 lv 6 (.int (v6 + Int32.ofInt 1))) 5 = some (.int v5) := x_o1 l5 rfl rfl
  have l6_1 : zld (zs1 lv 6 (.int (v6 + Int32.ofInt 1))) 6 = some (.int (v6 + Int32.ofInt 1)) := zs1_ld _ _ _
  generalize (zs1 lv 6 (.int (v6 + Int32.ofInt 1))) = lv1 at *
  refine r_s (fr' := (6, lv1, [])) (hp' := xW B m) (q := (.goto (-81), 3, 6, 0, .null)) rfl (fun _ => rfl) (Nat.le_refl _) ?_
  exact k6 l0_1 l1_1 l2_1 l3_1 l4_1 l5_1 l6_1 h
def D114_9_82 (F : Nat) (g6 : Int32 → Int32 → Int32 → Int32 → Int32 → Int32 → xS → Option (Int32 × xS)) (v1 : Int32) (v2 : Int32) (v3 : Int32) (v4 : Int32) (v5 : Int32) (v6 : Int32) (v7 : Int32) (w0 : Int32) (m : xS) : Option (Int32 × xS) :=
  D114_9_84 F g6 v1 v2 v3 v4 w0 v6 m
set_option maxRecDepth 20000 in
theorem T114_9_82 {B : zHp} (H : yH0 B) {e : Nat} (he : 2 ≤ e + 1) (F : Nat) (g6 : Int32 → Int32 → Int32 → Int32 → Int32 → Int32 → xS → Option (Int32 × xS)) (k6 : ∀ {v1 : Int32} {v2 : Int32} {v3 : Int32} {v4 : Int32} {v5 : Int32} {v6 : Int32} {lv : List (Nat × Value)} {m : xS} {x : Int32 × xS}, zld lv 0 = some (.ref 9) → zld lv 1 = some (.int v1) → zld lv 2 = some (.int v2) → zld lv 3 = some (.int v3) → zld lv 4 = some (.int v4) → zld lv 5 = some (.int v5) → zld lv 6 = some (.int v6) → g6 v1 v2 v3 v4 v5 v6 m = some x → zR none e 8 (some .int) zc114 (6, lv, []) (xW B m) (some (.int x.1), xW B x.2)) {v1 : Int32} {v2 : Int32} {v3 : Int32} {v4 : Int32} {v5 : Int32} {v6 : Int32} {v7 : Int32} {w0 : Int32} {lv : List (Nat × Value)} {m : xS} {x : Int32 × xS} (l0 : zld lv 0 = some (.ref 9)) (l1 : zld lv 1 = some (.int v1)) (l2 : zld lv 2 = some (.int v2)) (l3 : zld lv 3 = some (.int v3)) (l4 : zld lv 4 = some (.int v4)) (l5 : zld lv 5 = some (.int v5)) (l6 : zld lv 6 = some (.int v6)) (l7 : zld lv 7 = some (.int v7)) (h : D114_9_82 F g6 v1 v2 v3 v4 v5 v6 v7 w0 m = some x) : zR none e 8 (some .int) zc114 (82, lv, [.int w0]) (xW B m) (some (.int x.1), xW B x.2) := by
  unfold D114_9_82 at h
  refine q_si (k := 2) (i := 5) (q := (.istore 5, 2, 0, 0, .null)) rfl (fun _ => rfl) (by decide) ?_
  have l0_1 : zld (zs1 lv 5 (.int w0)) 0 = some (.ref 9) := x_o1 l0 rfl rfl
  have l1_1 : zld (zs1 lv 5 (.int w0)) 1 = some (.int v1) := x_o1 l1 rfl rfl
  have l2_1 : zld (zs1 lv 5 (.int w0)) 2 = some (.int v2) := x_o1 l2 rfl rfl
  have l3_1 : zld (zs1 lv 5 (.int w0)) 3 = some (.int v3) := x_o1 l3 rfl rfl
  have l4_1 : zld (zs1 lv 5 (.int w0)) 4 = some (.int v4) := x_o1 l4 rfl rfl
  have l5_1 : zld (zs1 lv 5 (.int w0)) 5 = some (.int w0) := zs1_ld _ _ _
  have l6_1 : zld (zs1 lv 5 (.int w0)) 6 = some (.int v6) := x_o1 l6 rfl rfl
  have l7_1 : zld (zs1 lv 5 (.int w0)) 7 = some (.int v7) := x_o1 l7 rfl rfl
  generalize (zs1 lv 5 (.int w0)) = lv1 at *
  exact T114_9_84 H he F _ k6 l0_1 l1_1 l2_1 l3_1 l4_1 l5_1 l6_1 h
def D114_9_6 (F : Nat) : Nat → Int32 → Int32 → Int32 → Int32 → Int32 → Int32 → xS → Option (Int32 × xS)
  | 0, _, _, _, _, _, _, _ => none
  | f + 1, v1, v2, v3, v4, v5, v6, m =>
    (D80_9 F m).bind fun q9 =>
      if zcmp .ge v6 q9.1 = true then
        some (v5, q9.2)
      else
        (D89_9 F v6 0 q9.2).bind fun q19 =>
          if zcmp .ne q19.1 v2 = true then
            D114_9_84 F (D114_9_6 F f) v1 v2 v3 v4 v5 v6 q19.2
          else
            (D89_9 F v6 4 q19.2).bind fun q30 =>
              if zcmp .ne q30.1 (-1) = true then
                D114_9_84 F (D114_9_6 F f) v1 v2 v3 v4 v5 v6 q30.2
              else
                (D89_9 F v6 1 q30.2).bind fun q41 =>
                  (D87_9 F v1 1 q41.2).bind fun q47 =>
                    if zcmp .ne q41.1 q47.1 = true then
                      D114_9_84 F (D114_9_6 F f) v1 v2 v3 v4 v5 v6 q47.2
                    else
                      (D89_9 F v6 v3 q47.2).bind fun q57 =>
                        if zcmp .eq v4 0 = true then
                          D114_9_82 F (D114_9_6 F f) v1 v2 v3 v4 v5 v6 q57.1 (v5 + q57.1) q57.2
                        else
                          D114_9_82 F (D114_9_6 F f) v1 v2 v3 v4 v5 v6 q57.1 (if v5 < q57.1 then q57.1 else v5) q57.2
set_option maxRecDepth 20000 in
theorem T114_9_6 {B : zHp} (H : yH0 B) {e : Nat} (he : 2 ≤ e + 1) (F : Nat) : ∀ (f : Nat) {v1 : Int32} {v2 : Int32} {v3 : Int32} {v4 : Int32} {v5 : Int32} {v6 : Int32} {lv : List (Nat × Value)} {m : xS} {x : Int32 × xS}, zld lv 0 = some (.ref 9) → zld lv 1 = some (.int v1) → zld lv 2 = some (.int v2) → zld lv 3 = some (.int v3) → zld lv 4 = some (.int v4) → zld lv 5 = some (.int v5) → zld lv 6 = some (.int v6) → D114_9_6 F f v1 v2 v3 v4 v5 v6 m = some x → zR none e 8 (some .int) zc114 (6, lv, []) (xW B m) (some (.int x.1), xW B x.2) := by
  intro f
  induction f with
  | zero => intro v1 v2 v3 v4 v5 v6 lv m x l0 l1 l2 l3 l4 l5 l6 h; cases h
  | succ f ih =>
    intro v1 v2 v3 v4 v5 v6 lv m x l0 l1 l2 l3 l4 l5 l6 h
    unfold D114_9_6 at h
    refine q_li (k := 2) (i := 6) (q := (.iload 6, 2, 0, 0, .null)) rfl (fun _ => rfl) l6 ?_
    refine q_lr (k := 1) (i := 0) (q := (.aload_n 0, 1, 0, 0, .null)) rfl (fun _ => rfl) l0 ?_
    obtain ⟨q9, h9, h⟩ := xbind h
    refine r_call (ix := 9) (as := []) (rest := [.int v6]) (rv := some (.int q9.1)) (hp' := xW B q9.2) (pc := 9) rfl xr80 rfl rfl rfl (xkd H (by decide)) (Nat.le_of_ble_eq_true rfl) (Z80_9 H h9 (by omega)) (Nat.le_refl _) ?_
    refine r_ifc (len := 3) (a := 90) (b := 0) (v0 := .null) (cn := .ge) (off := 78) rfl (fun c => ?_) (fun c => ?_)
    · rw [if_pos c] at h
      refine q_li (k := 2) (i := 5) (q := (.iload 5, 2, 0, 0, .null)) rfl (fun _ => rfl) l5 ?_
      obtain rfl := Option.some.inj h
      exact q_ri (q := (.ireturn, 1, 0, 0, .null)) rfl (fun _ => rfl) rfl rfl
    · rw [if_neg (by rw [c]; decide)] at h
      refine q_lr (k := 1) (i := 0) (q := (.aload_n 0, 1, 0, 0, .null)) rfl (fun _ => rfl) l0 ?_
      refine q_li (k := 2) (i := 6) (q := (.iload 6, 2, 0, 0, .null)) rfl (fun _ => rfl) l6 ?_
      refine r_s (fr' := (19, lv, [.int 0, .int v6, .ref 9])) (hp' := xW B q9.2) (q := (.iconst 0, 1, 0, 0, .null)) rfl (fun _ => rfl) (Nat.le_refl _) ?_
      obtain ⟨q19, h19, h⟩ := xbind h
      refine r_call (ix := 9) (as := [.int v6, .int 0]) (rest := []) (rv := some (.int q19.1)) (hp' := xW B q19.2) (pc := 19) rfl xr89 rfl rfl rfl (xkd H (by decide)) (Nat.le_of_ble_eq_true rfl) (Z89_9 H h19 (by omega)) (Nat.le_refl _) ?_
      refine q_li (k := 1) (i := 2) (q := (.iload_n 2, 1, 0, 0, .null)) rfl (fun _ => rfl) l2 ?_
      refine r_ifc (len := 3) (a := 84) (b := 0) (v0 := .null) (cn := .ne) (off := 61) rfl (fun c => ?_) (fun c => ?_)
      · rw [if_pos c] at h
        exact T114_9_84 H he F _ ih l0 l1 l2 l3 l4 l5 l6 h
      · rw [if_neg (by rw [c]; decide)] at h
        refine q_lr (k := 1) (i := 0) (q := (.aload_n 0, 1, 0, 0, .null)) rfl (fun _ => rfl) l0 ?_
        refine q_li (k := 2) (i := 6) (q := (.iload 6, 2, 0, 0, .null)) rfl (fun _ => rfl) l6 ?_
        refine r_s (fr' := (30, lv, [.int 4, .int v6, .ref 9])) (hp' := xW B q19.2) (q := (.iconst 4, 1, 0, 0, .null)) rfl (fun _ => rfl) (Nat.le_refl _) ?_
        obtain ⟨q30, h30, h⟩ := xbind h
        refine r_call (ix := 9) (as := [.int v6, .int 4]) (rest := []) (rv := some (.int q30.1)) (hp' := xW B q30.2) (pc := 30) rfl xr89 rfl rfl rfl (xkd H (by decide)) (Nat.le_of_ble_eq_true rfl) (Z89_9 H h30 (by omega)) (Nat.le_refl _) ?_
        refine r_s (fr' := (34, lv, [.int (-1), .int q30.1])) (hp' := xW B q30.2) (q := (.iconst (-1), 1, 0, 0, .null)) rfl (fun _ => rfl) (Nat.le_refl _) ?_
        refine r_ifc (len := 3) (a := 84) (b := 0) (v0 := .null) (cn := .ne) (off := 50) rfl (fun c => ?_) (fun c => ?_)
        · rw [if_pos c] at h
          exact T114_9_84 H he F _ ih l0 l1 l2 l3 l4 l5 l6 h
        · rw [if_neg (by rw [c]; decide)] at h
          refine q_lr (k := 1) (i := 0) (q := (.aload_n 0, 1, 0, 0, .null)) rfl (fun _ => rfl) l0 ?_
          refine q_li (k := 2) (i := 6) (q := (.iload 6, 2, 0, 0, .null)) rfl (fun _ => rfl) l6 ?_
          refine r_s (fr' := (41, lv, [.int 1, .int v6, .ref 9])) (hp' := xW B q30.2) (q := (.iconst 1, 1, 0, 0, .null)) rfl (fun _ => rfl) (Nat.le_refl _) ?_
          obtain ⟨q41, h41, h⟩ := xbind h
          refine r_call (ix := 9) (as := [.int v6, .int 1]) (rest := []) (rv := some (.int q41.1)) (hp' := xW B q41.2) (pc := 41) rfl xr89 rfl rfl rfl (xkd H (by decide)) (Nat.le_of_ble_eq_true rfl) (Z89_9 H h41 (by omega)) (Nat.le_refl _) ?_
          refine q_lr (k := 1) (i := 0) (q := (.aload_n 0, 1, 0, 0, .null)) rfl (fun _ => rfl) l0 ?_
          refine q_li (k := 1) (i := 1) (q := (.iload_n 1, 1, 0, 0, .null)) rfl (fun _ => rfl) l1 ?_
          refine r_s (fr' := (47, lv, [.int 1, .int v1, .ref 9, .int q41.1])) (hp' := xW B q41.2) (q := (.iconst 1, 1, 0, 0, .null)) rfl (fun _ => rfl) (Nat.le_refl _) ?_
          obtain ⟨q47, h47, h⟩ := xbind h
          refine r_call (ix := 9) (as := [.int v1, .int 1]) (rest := [.int q41.1]) (rv := some (.int q47.1)) (hp' := xW B q47.2) (pc := 47) rfl xr87 rfl rfl rfl (xkd H (by decide)) (Nat.le_of_ble_eq_true rfl) (Z87_9 H h47 (by omega)) (Nat.le_refl _) ?_
          refine r_ifc (len := 3) (a := 84) (b := 0) (v0 := .null) (cn := .ne) (off := 34) rfl (fun c => ?_) (fun c => ?_)
          · rw [if_pos c] at h
            exact T114_9_84 H he F _ ih l0 l1 l2 l3 l4 l5 l6 h
          · rw [if_neg (by rw [c]; decide)] at h
            refine q_lr (k := 1) (i := 0) (q := (.aload_n 0, 1, 0, 0, .null)) rfl (fun _ => rfl) l0 ?_
            refine q_li (k := 2) (i := 6) (q := (.iload 6, 2, 0, 0, .null)) rfl (fun _ => rfl) l6 ?_
            refine q_li (k := 1) (i := 3) (q := (.iload_n 3, 1, 0, 0, .null)) rfl (fun _ => rfl) l3 ?_
            obtain ⟨q57, h57, h⟩ := xbind h
            refine r_call (ix := 9) (as := [.int v6, .int v3]) (rest := []) (rv := some (.int q57.1)) (hp' := xW B q57.2) (pc := 57) rfl xr89 rfl rfl rfl (xkd H (by decide)) (Nat.le_of_ble_eq_true rfl) (Z89_9 H h57 (by omega)) (Nat.le_refl _) ?_
            refine q_si (k := 2) (i := 7) (q := (.istore 7, 2, 0, 0, .null)) rfl (fun _ => rfl) (by decide) ?_
            have l0_1 : zld (zs1 lv 7 (.int q57.1)) 0 = some (.ref 9) := x_o1 l0 rfl rfl
            have l1_1 : zld (zs1 lv 7 (.int q57.1)) 1 = some (.int v1) := x_o1 l1 rfl rfl
            have l2_1 : zld (zs1 lv 7 (.int q57.1)) 2 = some (.int v2) := x_o1 l2 rfl rfl
            have l3_1 : zld (zs1 lv 7 (.int q57.1)) 3 = some (.int v3) := x_o1 l3 rfl rfl
            have l4_1 : zld (zs1 lv 7 (.int q57.1)) 4 = some (.int v4) := x_o1 l4 rfl rfl
            have l5_1 : zld (zs1 lv 7 (.int q57.1)) 5 = some (.int v5) := x_o1 l5 rfl rfl
            have l6_1 : zld (zs1 lv 7 (.int q57.1)) 6 = some (.int v6) := x_o1 l6 rfl rfl
            have l7_1 : zld (zs1 lv 7 (.int q57.1)) 7 = some (.int q57.1) := zs1_ld _ _ _
            generalize (zs1 lv 7 (.int q57.1)) = lv1 at *
            refine q_li (k := 2) (i := 4) (q := (.iload 4, 2, 0, 0, .null)) rfl (fun _ => rfl) l4_1 ?_
            refine r_if (len := 3) (a := 77) (b := 0) (v0 := .null) (cn := .eq) (off := 13) rfl (fun c => ?_) (fun c => ?_)
            · rw [if_pos c] at h
              refine q_li (k := 2) (i := 5) (q := (.iload 5, 2, 0, 0, .null)) rfl (fun _ => rfl) l5_1 ?_
              refine q_li (k := 2) (i := 7) (q := (.iload 7, 2, 0, 0, .null)) rfl (fun _ => rfl) l7_1 ?_
              refine r_s (fr' := (82, lv1, [.int (v5 + q57.1)])) (hp' := xW B q57.2) (q := (.iadd, 1, 0, 0, .null)) rfl (fun _ => rfl) (Nat.le_refl _) ?_
              exact T114_9_82 H he F _ ih l0_1 l1_1 l2_1 l3_1 l4_1 l5_1 l6_1 l7_1 h
            · rw [if_neg (by rw [c]; decide)] at h
              refine q_li (k := 2) (i := 5) (q := (.iload 5, 2, 0, 0, .null)) rfl (fun _ => rfl) l5_1 ?_
              refine q_li (k := 2) (i := 7) (q := (.iload 7, 2, 0, 0, .null)) rfl (fun _ => rfl) l7_1 ?_
              refine r_s (fr' := (74, lv1, [.int (if v5 < q57.1 then q57.1 else v5)])) (hp' := xW B q57.2) (q := (.invokestatic 66, 3, 0, 2, .null)) rfl (fun _ => rfl) (Nat.le_refl _) ?_
              refine r_s (fr' := (82, lv1, [.int (if v5 < q57.1 then q57.1 else v5)])) (hp' := xW B q57.2) (q := (.goto 8, 3, 82, 0, .null)) rfl (fun _ => rfl) (Nat.le_refl _) ?_
              exact T114_9_82 H he F _ ih l0_1 l1_1 l2_1 l3_1 l4_1 l5_1 l6_1 l7_1 h
def D114_9 (F : Nat) (v1 : Int32) (v2 : Int32) (v3 : Int32) (v4 : Int32) (m : xS) : Option (Int32 × xS) :=
  D114_9_6 F F v1 v2 v3 v4 0 0 m
set_option maxRecDepth 20000 in
theorem T114_9 {B : zHp} (H : yH0 B) {e : Nat} (he : 2 ≤ e + 1) (F : Nat) {v1 : Int32} {v2 : Int32} {v3 : Int32} {v4 : Int32} {lv : List (Nat × Value)} {m : xS} {x : Int32 × xS} (l0 : zld lv 0 = some (.ref 9)) (l1 : zld lv 1 = some (.int v1)) (l2 : zld lv 2 = some (.int v2)) (l3 : zld lv 3 = some (.int v3)) (l4 : zld lv 4 = some (.int v4)) (h : D114_9 F v1 v2 v3 v4 m = some x) : zR none e 8 (some .int) zc114 (0, lv, []) (xW B m) (some (.int x.1), xW B x.2) := by
  unfold D114_9 at h
  refine r_s (fr' := (1, lv, [.int 0])) (hp' := xW B m) (q := (.iconst 0, 1, 0, 0, .null)) rfl (fun _ => rfl) (Nat.le_refl _) ?_
  refine q_si (k := 2) (i := 5) (q := (.istore 5, 2, 0, 0, .null)) rfl (fun _ => rfl) (by decide) ?_
  have l0_1 : zld (zs1 lv 5 (.int 0)) 0 = some (.ref 9) := x_o1 l0 rfl rfl
  have l1_1 : zld (zs1 lv 5 (.int 0)) 1 = some (.int v1) := x_o1 l1 rfl rfl
  have l2_1 : zld (zs1 lv 5 (.int 0)) 2 = some (.int v2) := x_o1 l2 rfl rfl
  have l3_1 : zld (zs1 lv 5 (.int 0)) 3 = some (.int v3) := x_o1 l3 rfl rfl
  have l4_1 : zld (zs1 lv 5 (.int 0)) 4 = some (.int v4) := x_o1 l4 rfl rfl
  have l5_1 : zld (zs1 lv 5 (.int 0)) 5 = some (.int 0) := zs1_ld _ _ _
  generalize (zs1 lv 5 (.int 0)) = lv1 at *
  refine r_s (fr' := (4, lv1, [.int 0])) (hp' := xW B m) (q := (.iconst 0, 1, 0, 0, .null)) rfl (fun _ => rfl) (Nat.le_refl _) ?_
  refine q_si (k := 2) (i := 6) (q := (.istore 6, 2, 0, 0, .null)) rfl (fun _ => rfl) (by decide) ?_
  have l0_2 : zld (zs1 lv1 6 (.int 0)) 0 = some (.ref 9) := x_o1 l0_1 rfl rfl
  have l1_2 : zld (zs1 lv1 6 (.int 0)) 1 = some (.int v1) := x_o1 l1_1 rfl rfl
  have l2_2 : zld (zs1 lv1 6 (.int 0)) 2 = some (.int v2) := x_o1 l2_1 rfl rfl
  have l3_2 : zld (zs1 lv1 6 (.int 0)) 3 = some (.int v3) := x_o1 l3_1 rfl rfl
  have l4_2 : zld (zs1 lv1 6 (.int 0)) 4 = some (.int v4) := x_o1 l4_1 rfl rfl
  have l5_2 : zld (zs1 lv1 6 (.int 0)) 5 = some (.int 0) := x_o1 l5_1 rfl rfl
  have l6_2 : zld (zs1 lv1 6 (.int 0)) 6 = some (.int 0) := zs1_ld _ _ _
  generalize (zs1 lv1 6 (.int 0)) = lv2 at *
  exact T114_9_6 H he F F l0_2 l1_2 l2_2 l3_2 l4_2 l5_2 l6_2 h
set_option maxRecDepth 20000 in
theorem Z114_9 {B : zHp} (H : yH0 B) {F : Nat} {a1 : Int32} {a2 : Int32} {a3 : Int32} {a4 : Int32} {m : xS} {x : Int32 × xS} (h : D114_9 F a1 a2 a3 a4 m = some x) {d : Nat} (hd : 2 ≤ d) : zCan d 114 [.ref 9, .int a1, .int a2, .int a3, .int a4] (xW B m) (some (.int x.1), xW B x.2) := by
  obtain ⟨e, rfl⟩ : ∃ e, d = e + 1 := ⟨d - 1, by omega⟩
  refine zCan_body (nL := 8) (rt := (some .int)) (cd := zc114) (xg114) ⟨Nat.le_of_ble_eq_true rfl, by decide⟩ (Nat.le_refl _) ?_
  exact T114_9 H hd F rfl rfl rfl rfl rfl h
/-- LentTools$Rule.wordFor -/
def D31_9 (F : Nat) (v0 : Int32) (v2 : Int32) (v3 : Int32) (m : xS) : Option (Int32 × xS) :=
  (D87_9 F v2 3 m).bind fun q3 =>
    if (v0 == 0) = true then
      some (v2, q3.2)
    else
      if (v0 == 1) = true then
        (D87_9 F v2 1 q3.2).bind fun q77 =>
          some (q77.1, q77.2)
      else
        if (v0 == 2) = true then
          (D87_9 F v2 0 q3.2).bind fun q84 =>
            some (q84.1, q84.2)
        else
          if (v0 == 3) = true then
            some (q3.1, q3.2)
          else
            if (v0 == 4) = true then
              some (v3, q3.2)
            else
              if (v0 == 5) = true then
                (D87_9 F v2 4 q3.2).bind fun q96 =>
                  some (q96.1, q96.2)
              else
                if (v0 == 6) = true then
                  (D100_9 F v2 1 q3.2).bind fun q103 =>
                    some (q103.1, q103.2)
                else
                  if (v0 == 7) = true then
                    (D87_9 F v2 5 q3.2).bind fun q110 =>
                      some (q110.1, q110.2)
                  else
                    if (v0 == 8) = true then
                      (D81_9 F q3.2).bind fun q115 =>
                        some (q115.1, q115.2)
                    else
                      if (v0 == 9) = true then
                        (D114_9 F v2 v3 2 1 q3.2).bind fun q124 =>
                          some (q124.1, q124.2)
                      else
                        if (v0 == 10) = true then
                          (D114_9 F v2 v3 3 0 q3.2).bind fun q133 =>
                            some (q133.1, q133.2)
                        else
                          if (v0 == 11) = true then
                            (D94_9 F v3 q3.1 q3.2).bind fun q141 =>
                              some (q141.1, q141.2)
                          else
                            (D92_9 F v3 q3.1 q3.2).bind fun q149 =>
                              if zcmp .eq q149.1 0 = true then
                                some (0, q149.2)
                              else
                                some (1, q149.2)
set_option maxRecDepth 20000 in
theorem T31_9 {B : zHp} (H : yH0 B) {e : Nat} (he : 4 ≤ e + 1) (F : Nat) {v0 : Int32} {v2 : Int32} {v3 : Int32} {lv : List (Nat × Value)} {m : xS} {x : Int32 × xS} (l0 : zld lv 0 = some (.int v0)) (l1 : zld lv 1 = some (.ref 9)) (l2 : zld lv 2 = some (.int v2)) (l3 : zld lv 3 = some (.int v3)) (h : D31_9 F v0 v2 v3 m = some x) : zR none e 5 (some .int) zc31 (0, lv, []) (xW B m) (some (.int x.1), xW B x.2) := by
  unfold D31_9 at h
  refine q_lr (k := 1) (i := 1) (q := (.aload_n 1, 1, 0, 0, .null)) rfl (fun _ => rfl) l1 ?_
  refine q_li (k := 1) (i := 2) (q := (.iload_n 2, 1, 0, 0, .null)) rfl (fun _ => rfl) l2 ?_
  refine r_s (fr' := (3, lv, [.int 3, .int v2, .ref 9])) (hp' := xW B m) (q := (.iconst 3, 1, 0, 0, .null)) rfl (fun _ => rfl) (Nat.le_refl _) ?_
  obtain ⟨q3, h3, h⟩ := xbind h
  refine r_call (ix := 9) (as := [.int v2, .int 3]) (rest := []) (rv := some (.int q3.1)) (hp' := xW B q3.2) (pc := 3) rfl xr87 rfl rfl rfl (xkd H (by decide)) (Nat.le_of_ble_eq_true rfl) (Z87_9 H h3 (by omega)) (Nat.le_refl _) ?_
  refine q_si (k := 2) (i := 4) (q := (.istore 4, 2, 0, 0, .null)) rfl (fun _ => rfl) (by decide) ?_
  have l0_1 : zld (zs1 lv 4 (.int q3.1)) 0 = some (.int v0) := x_o1 l0 rfl rfl
  have l1_1 : zld (zs1 lv 4 (.int q3.1)) 1 = some (.ref 9) := x_o1 l1 rfl rfl
  have l2_1 : zld (zs1 lv 4 (.int q3.1)) 2 = some (.int v2) := x_o1 l2 rfl rfl
  have l3_1 : zld (zs1 lv 4 (.int q3.1)) 3 = some (.int v3) := x_o1 l3 rfl rfl
  have l4_1 : zld (zs1 lv 4 (.int q3.1)) 4 = some (.int q3.1) := zs1_ld _ _ _
  generalize (zs1 lv 4 (.int q3.1)) = lv1 at *
  refine q_li (k := 1) (i := 0) (q := (.iload_n 0, 1, 0, 0, .null)) rfl (fun _ => rfl) l0_1 ?_
  by_cases d2 : ((v0 == 0)) = true
  · rw [if_pos d2] at h
    refine q_sw (pc2 := 72) (q := (.tableswitch 136 0 11 #[63, 65, 72, 79, 82, 84, 91, 98, 105, 110, 119, 128], 63, 0, 0, .null)) d2 rfl (fun _ => rfl) ?_
    refine q_li (k := 1) (i := 2) (q := (.iload_n 2, 1, 0, 0, .null)) rfl (fun _ => rfl) l2_1 ?_
    obtain rfl := Option.some.inj h
    exact q_ri (q := (.ireturn, 1, 0, 0, .null)) rfl (fun _ => rfl) rfl rfl
  · rw [if_neg d2] at h
    by_cases d3 : ((v0 == 1)) = true
    · rw [if_pos d3] at h
      refine q_sw (pc2 := 74) (q := (.tableswitch 136 0 11 #[63, 65, 72, 79, 82, 84, 91, 98, 105, 110, 119, 128], 63, 0, 0, .null)) d3 rfl (fun _ => rfl) ?_
      refine q_lr (k := 1) (i := 1) (q := (.aload_n 1, 1, 0, 0, .null)) rfl (fun _ => rfl) l1_1 ?_
      refine q_li (k := 1) (i := 2) (q := (.iload_n 2, 1, 0, 0, .null)) rfl (fun _ => rfl) l2_1 ?_
      refine r_s (fr' := (77, lv1, [.int 1, .int v2, .ref 9])) (hp' := xW B q3.2) (q := (.iconst 1, 1, 0, 0, .null)) rfl (fun _ => rfl) (Nat.le_refl _) ?_
      obtain ⟨q77, h77, h⟩ := xbind h
      refine r_call (ix := 9) (as := [.int v2, .int 1]) (rest := []) (rv := some (.int q77.1)) (hp' := xW B q77.2) (pc := 77) rfl xr87 rfl rfl rfl (xkd H (by decide)) (Nat.le_of_ble_eq_true rfl) (Z87_9 H h77 (by omega)) (Nat.le_refl _) ?_
      obtain rfl := Option.some.inj h
      exact q_ri (q := (.ireturn, 1, 0, 0, .null)) rfl (fun _ => rfl) rfl rfl
    · rw [if_neg d3] at h
      by_cases d4 : ((v0 == 2)) = true
      · rw [if_pos d4] at h
        refine q_sw (pc2 := 81) (q := (.tableswitch 136 0 11 #[63, 65, 72, 79, 82, 84, 91, 98, 105, 110, 119, 128], 63, 0, 0, .null)) d4 rfl (fun _ => rfl) ?_
        refine q_lr (k := 1) (i := 1) (q := (.aload_n 1, 1, 0, 0, .null)) rfl (fun _ => rfl) l1_1 ?_
        refine q_li (k := 1) (i := 2) (q := (.iload_n 2, 1, 0, 0, .null)) rfl (fun _ => rfl) l2_1 ?_
        refine r_s (fr' := (84, lv1, [.int 0, .int v2, .ref 9])) (hp' := xW B q3.2) (q := (.iconst 0, 1, 0, 0, .null)) rfl (fun _ => rfl) (Nat.le_refl _) ?_
        obtain ⟨q84, h84, h⟩ := xbind h
        refine r_call (ix := 9) (as := [.int v2, .int 0]) (rest := []) (rv := some (.int q84.1)) (hp' := xW B q84.2) (pc := 84) rfl xr87 rfl rfl rfl (xkd H (by decide)) (Nat.le_of_ble_eq_true rfl) (Z87_9 H h84 (by omega)) (Nat.le_refl _) ?_
        obtain rfl := Option.some.inj h
        exact q_ri (q := (.ireturn, 1, 0, 0, .null)) rfl (fun _ => rfl) rfl rfl
      · rw [if_neg d4] at h
        by_cases d5 : ((v0 == 3)) = true
        · rw [if_pos d5] at h
          refine q_sw (pc2 := 88) (q := (.tableswitch 136 0 11 #[63, 65, 72, 79, 82, 84, 91, 98, 105, 110, 119, 128], 63, 0, 0, .null)) d5 rfl (fun _ => rfl) ?_
          refine q_li (k := 2) (i := 4) (q := (.iload 4, 2, 0, 0, .null)) rfl (fun _ => rfl) l4_1 ?_
          obtain rfl := Option.some.inj h
          exact q_ri (q := (.ireturn, 1, 0, 0, .null)) rfl (fun _ => rfl) rfl rfl
        · rw [if_neg d5] at h
          by_cases d6 : ((v0 == 4)) = true
          · rw [if_pos d6] at h
            refine q_sw (pc2 := 91) (q := (.tableswitch 136 0 11 #[63, 65, 72, 79, 82, 84, 91, 98, 105, 110, 119, 128], 63, 0, 0, .null)) d6 rfl (fun _ => rfl) ?_
            refine q_li (k := 1) (i := 3) (q := (.iload_n 3, 1, 0, 0, .null)) rfl (fun _ => rfl) l3_1 ?_
            obtain rfl := Option.some.inj h
            exact q_ri (q := (.ireturn, 1, 0, 0, .null)) rfl (fun _ => rfl) rfl rfl
          · rw [if_neg d6] at h
            by_cases d7 : ((v0 == 5)) = true
            · rw [if_pos d7] at h
              refine q_sw (pc2 := 93) (q := (.tableswitch 136 0 11 #[63, 65, 72, 79, 82, 84, 91, 98, 105, 110, 119, 128], 63, 0, 0, .null)) d7 rfl (fun _ => rfl) ?_
              refine q_lr (k := 1) (i := 1) (q := (.aload_n 1, 1, 0, 0, .null)) rfl (fun _ => rfl) l1_1 ?_
              refine q_li (k := 1) (i := 2) (q := (.iload_n 2, 1, 0, 0, .null)) rfl (fun _ => rfl) l2_1 ?_
              refine r_s (fr' := (96, lv1, [.int 4, .int v2, .ref 9])) (hp' := xW B q3.2) (q := (.iconst 4, 1, 0, 0, .null)) rfl (fun _ => rfl) (Nat.le_refl _) ?_
              obtain ⟨q96, h96, h⟩ := xbind h
              refine r_call (ix := 9) (as := [.int v2, .int 4]) (rest := []) (rv := some (.int q96.1)) (hp' := xW B q96.2) (pc := 96) rfl xr87 rfl rfl rfl (xkd H (by decide)) (Nat.le_of_ble_eq_true rfl) (Z87_9 H h96 (by omega)) (Nat.le_refl _) ?_
              obtain rfl := Option.some.inj h
              exact q_ri (q := (.ireturn, 1, 0, 0, .null)) rfl (fun _ => rfl) rfl rfl
            · rw [if_neg d7] at h
              by_cases d8 : ((v0 == 6)) = true
              · rw [if_pos d8] at h
                refine q_sw (pc2 := 100) (q := (.tableswitch 136 0 11 #[63, 65, 72, 79, 82, 84, 91, 98, 105, 110, 119, 128], 63, 0, 0, .null)) d8 rfl (fun _ => rfl) ?_
                refine q_lr (k := 1) (i := 1) (q := (.aload_n 1, 1, 0, 0, .null)) rfl (fun _ => rfl) l1_1 ?_
                refine q_li (k := 1) (i := 2) (q := (.iload_n 2, 1, 0, 0, .null)) rfl (fun _ => rfl) l2_1 ?_
                refine r_s (fr' := (103, lv1, [.int 1, .int v2, .ref 9])) (hp' := xW B q3.2) (q := (.iconst 1, 1, 0, 0, .null)) rfl (fun _ => rfl) (Nat.le_refl _) ?_
                obtain ⟨q103, h103, h⟩ := xbind h
                refine r_call (ix := 9) (as := [.int v2, .int 1]) (rest := []) (rv := some (.int q103.1)) (hp' := xW B q103.2) (pc := 103) rfl xr100 rfl rfl rfl (xkd H (by decide)) (Nat.le_of_ble_eq_true rfl) (Z100_9 H h103 (by omega)) (Nat.le_refl _) ?_
                obtain rfl := Option.some.inj h
                exact q_ri (q := (.ireturn, 1, 0, 0, .null)) rfl (fun _ => rfl) rfl rfl
              · rw [if_neg d8] at h
                by_cases d9 : ((v0 == 7)) = true
                · rw [if_pos d9] at h
                  refine q_sw (pc2 := 107) (q := (.tableswitch 136 0 11 #[63, 65, 72, 79, 82, 84, 91, 98, 105, 110, 119, 128], 63, 0, 0, .null)) d9 rfl (fun _ => rfl) ?_
                  refine q_lr (k := 1) (i := 1) (q := (.aload_n 1, 1, 0, 0, .null)) rfl (fun _ => rfl) l1_1 ?_
                  refine q_li (k := 1) (i := 2) (q := (.iload_n 2, 1, 0, 0, .null)) rfl (fun _ => rfl) l2_1 ?_
                  refine r_s (fr' := (110, lv1, [.int 5, .int v2, .ref 9])) (hp' := xW B q3.2) (q := (.iconst 5, 1, 0, 0, .null)) rfl (fun _ => rfl) (Nat.le_refl _) ?_
                  obtain ⟨q110, h110, h⟩ := xbind h
                  refine r_call (ix := 9) (as := [.int v2, .int 5]) (rest := []) (rv := some (.int q110.1)) (hp' := xW B q110.2) (pc := 110) rfl xr87 rfl rfl rfl (xkd H (by decide)) (Nat.le_of_ble_eq_true rfl) (Z87_9 H h110 (by omega)) (Nat.le_refl _) ?_
                  obtain rfl := Option.some.inj h
                  exact q_ri (q := (.ireturn, 1, 0, 0, .null)) rfl (fun _ => rfl) rfl rfl
                · rw [if_neg d9] at h
                  by_cases d10 : ((v0 == 8)) = true
                  · rw [if_pos d10] at h
                    refine q_sw (pc2 := 114) (q := (.tableswitch 136 0 11 #[63, 65, 72, 79, 82, 84, 91, 98, 105, 110, 119, 128], 63, 0, 0, .null)) d10 rfl (fun _ => rfl) ?_
                    refine q_lr (k := 1) (i := 1) (q := (.aload_n 1, 1, 0, 0, .null)) rfl (fun _ => rfl) l1_1 ?_
                    obtain ⟨q115, h115, h⟩ := xbind h
                    refine r_call (ix := 9) (as := []) (rest := []) (rv := some (.int q115.1)) (hp' := xW B q115.2) (pc := 115) rfl xr81 rfl rfl rfl (xkd H (by decide)) (Nat.le_of_ble_eq_true rfl) (Z81_9 H h115 (by omega)) (Nat.le_refl _) ?_
                    obtain rfl := Option.some.inj h
                    exact q_ri (q := (.ireturn, 1, 0, 0, .null)) rfl (fun _ => rfl) rfl rfl
                  · rw [if_neg d10] at h
                    by_cases d11 : ((v0 == 9)) = true
                    · rw [if_pos d11] at h
                      refine q_sw (pc2 := 119) (q := (.tableswitch 136 0 11 #[63, 65, 72, 79, 82, 84, 91, 98, 105, 110, 119, 128], 63, 0, 0, .null)) d11 rfl (fun _ => rfl) ?_
                      refine q_lr (k := 1) (i := 1) (q := (.aload_n 1, 1, 0, 0, .null)) rfl (fun _ => rfl) l1_1 ?_
                      refine q_li (k := 1) (i := 2) (q := (.iload_n 2, 1, 0, 0, .null)) rfl (fun _ => rfl) l2_1 ?_
                      refine q_li (k := 1) (i := 3) (q := (.iload_n 3, 1, 0, 0, .null)) rfl (fun _ => rfl) l3_1 ?_
                      refine r_s (fr' := (123, lv1, [.int 2, .int v3, .int v2, .ref 9])) (hp' := xW B q3.2) (q := (.iconst 2, 1, 0, 0, .null)) rfl (fun _ => rfl) (Nat.le_refl _) ?_
                      refine r_s (fr' := (124, lv1, [.int 1, .int 2, .int v3, .int v2, .ref 9])) (hp' := xW B q3.2) (q := (.iconst 1, 1, 0, 0, .null)) rfl (fun _ => rfl) (Nat.le_refl _) ?_
                      obtain ⟨q124, h124, h⟩ := xbind h
                      refine r_call (ix := 9) (as := [.int v2, .int v3, .int 2, .int 1]) (rest := []) (rv := some (.int q124.1)) (hp' := xW B q124.2) (pc := 124) rfl xr114 rfl rfl rfl (xkd H (by decide)) (Nat.le_of_ble_eq_true rfl) (Z114_9 H h124 (by omega)) (Nat.le_refl _) ?_
                      obtain rfl := Option.some.inj h
                      exact q_ri (q := (.ireturn, 1, 0, 0, .null)) rfl (fun _ => rfl) rfl rfl
                    · rw [if_neg d11] at h
                      by_cases d12 : ((v0 == 10)) = true
                      · rw [if_pos d12] at h
                        refine q_sw (pc2 := 128) (q := (.tableswitch 136 0 11 #[63, 65, 72, 79, 82, 84, 91, 98, 105, 110, 119, 128], 63, 0, 0, .null)) d12 rfl (fun _ => rfl) ?_
                        refine q_lr (k := 1) (i := 1) (q := (.aload_n 1, 1, 0, 0, .null)) rfl (fun _ => rfl) l1_1 ?_
                        refine q_li (k := 1) (i := 2) (q := (.iload_n 2, 1, 0, 0, .null)) rfl (fun _ => rfl) l2_1 ?_
                        refine q_li (k := 1) (i := 3) (q := (.iload_n 3, 1, 0, 0, .null)) rfl (fun _ => rfl) l3_1 ?_
                        refine r_s (fr' := (132, lv1, [.int 3, .int v3, .int v2, .ref 9])) (hp' := xW B q3.2) (q := (.iconst 3, 1, 0, 0, .null)) rfl (fun _ => rfl) (Nat.le_refl _) ?_
                        refine r_s (fr' := (133, lv1, [.int 0, .int 3, .int v3, .int v2, .ref 9])) (hp' := xW B q3.2) (q := (.iconst 0, 1, 0, 0, .null)) rfl (fun _ => rfl) (Nat.le_refl _) ?_
                        obtain ⟨q133, h133, h⟩ := xbind h
                        refine r_call (ix := 9) (as := [.int v2, .int v3, .int 3, .int 0]) (rest := []) (rv := some (.int q133.1)) (hp' := xW B q133.2) (pc := 133) rfl xr114 rfl rfl rfl (xkd H (by decide)) (Nat.le_of_ble_eq_true rfl) (Z114_9 H h133 (by omega)) (Nat.le_refl _) ?_
                        obtain rfl := Option.some.inj h
                        exact q_ri (q := (.ireturn, 1, 0, 0, .null)) rfl (fun _ => rfl) rfl rfl
                      · rw [if_neg d12] at h
                        by_cases d13 : ((v0 == 11)) = true
                        · rw [if_pos d13] at h
                          refine q_sw (pc2 := 137) (q := (.tableswitch 136 0 11 #[63, 65, 72, 79, 82, 84, 91, 98, 105, 110, 119, 128], 63, 0, 0, .null)) d13 rfl (fun _ => rfl) ?_
                          refine q_lr (k := 1) (i := 1) (q := (.aload_n 1, 1, 0, 0, .null)) rfl (fun _ => rfl) l1_1 ?_
                          refine q_li (k := 1) (i := 3) (q := (.iload_n 3, 1, 0, 0, .null)) rfl (fun _ => rfl) l3_1 ?_
                          refine q_li (k := 2) (i := 4) (q := (.iload 4, 2, 0, 0, .null)) rfl (fun _ => rfl) l4_1 ?_
                          obtain ⟨q141, h141, h⟩ := xbind h
                          refine r_call (ix := 9) (as := [.int v3, .int q3.1]) (rest := []) (rv := some (.int q141.1)) (hp' := xW B q141.2) (pc := 141) rfl xr94 rfl rfl rfl (xkd H (by decide)) (Nat.le_of_ble_eq_true rfl) (Z94_9 H h141 (by omega)) (Nat.le_refl _) ?_
                          obtain rfl := Option.some.inj h
                          exact q_ri (q := (.ireturn, 1, 0, 0, .null)) rfl (fun _ => rfl) rfl rfl
                        · rw [if_neg d13] at h
                          refine q_td (pc2 := 145) (q := (.tableswitch 136 0 11 #[63, 65, 72, 79, 82, 84, 91, 98, 105, 110, 119, 128], 63, 0, 0, .null)) (dflt := 136) (lo := 0) (hi := 11) (offs := #[63, 65, 72, 79, 82, 84, 91, 98, 105, 110, 119, 128]) (by have z0 := xne (z := 0) rfl d2; have z1 := xne (z := 1) rfl d3; have z2 := xne (z := 2) rfl d4; have z3 := xne (z := 3) rfl d5; have z4 := xne (z := 4) rfl d6; have z5 := xne (z := 5) rfl d7; have z6 := xne (z := 6) rfl d8; have z7 := xne (z := 7) rfl d9; have z8 := xne (z := 8) rfl d10; have z9 := xne (z := 9) rfl d11; have z10 := xne (z := 10) rfl d12; have z11 := xne (z := 11) rfl d13; omega) rfl (fun _ => rfl) rfl ?_
                          refine q_lr (k := 1) (i := 1) (q := (.aload_n 1, 1, 0, 0, .null)) rfl (fun _ => rfl) l1_1 ?_
                          refine q_li (k := 1) (i := 3) (q := (.iload_n 3, 1, 0, 0, .null)) rfl (fun _ => rfl) l3_1 ?_
                          refine q_li (k := 2) (i := 4) (q := (.iload 4, 2, 0, 0, .null)) rfl (fun _ => rfl) l4_1 ?_
                          obtain ⟨q149, h149, h⟩ := xbind h
                          refine r_call (ix := 9) (as := [.int v3, .int q3.1]) (rest := []) (rv := some (.int q149.1)) (hp' := xW B q149.2) (pc := 149) rfl xr92 rfl rfl rfl (xkd H (by decide)) (Nat.le_of_ble_eq_true rfl) (Z92_9 H h149 (by omega)) (Nat.le_refl _) ?_
                          refine r_if (len := 3) (a := 159) (b := 0) (v0 := .null) (cn := .eq) (off := 7) rfl (fun c => ?_) (fun c => ?_)
                          · rw [if_pos c] at h
                            refine r_s (fr' := (160, lv1, [.int 0])) (hp' := xW B q149.2) (q := (.iconst 0, 1, 0, 0, .null)) rfl (fun _ => rfl) (Nat.le_refl _) ?_
                            obtain rfl := Option.some.inj h
                            exact q_ri (q := (.ireturn, 1, 0, 0, .null)) rfl (fun _ => rfl) rfl rfl
                          · rw [if_neg (by rw [c]; decide)] at h
                            refine r_s (fr' := (156, lv1, [.int 1])) (hp' := xW B q149.2) (q := (.iconst 1, 1, 0, 0, .null)) rfl (fun _ => rfl) (Nat.le_refl _) ?_
                            refine r_s (fr' := (160, lv1, [.int 1])) (hp' := xW B q149.2) (q := (.goto 4, 3, 160, 0, .null)) rfl (fun _ => rfl) (Nat.le_refl _) ?_
                            obtain rfl := Option.some.inj h
                            exact q_ri (q := (.ireturn, 1, 0, 0, .null)) rfl (fun _ => rfl) rfl rfl
set_option maxRecDepth 20000 in
theorem Z31_9 {B : zHp} (H : yH0 B) {F : Nat} {a0 : Int32} {a2 : Int32} {a3 : Int32} {m : xS} {x : Int32 × xS} (h : D31_9 F a0 a2 a3 m = some x) {d : Nat} (hd : 4 ≤ d) : zCan d 31 [.int a0, .ref 9, .int a2, .int a3] (xW B m) (some (.int x.1), xW B x.2) := by
  obtain ⟨e, rfl⟩ : ∃ e, d = e + 1 := ⟨d - 1, by omega⟩
  refine zCan_body (nL := 5) (rt := (some .int)) (cd := zc31) (xg31) ⟨Nat.le_of_ble_eq_true rfl, by decide⟩ (Nat.le_refl _) ?_
  exact T31_9 H hd F rfl rfl rfl rfl h
/-- LentTools$Rule.holds -/
def D30 (F : Nat) (v0 : Int32) (v1 : Int64) (v3 : Int64) (m : xS) : Option (Int32 × xS) :=
  if (v0 == 4) = true then
    if zcmp .ge (lg_cmp v1 v3) 0 = true then
      some (0, m)
    else
      some (1, m)
  else
    if (v0 == 5) = true then
      if zcmp .gt (lg_cmp v1 v3) 0 = true then
        some (0, m)
      else
        some (1, m)
    else
      if (v0 == 6) = true then
        if zcmp .ne (lg_cmp v1 v3) 0 = true then
          some (0, m)
        else
          some (1, m)
      else
        if (v0 == 7) = true then
          if zcmp .lt (lg_cmp v1 v3) 0 = true then
            some (0, m)
          else
            some (1, m)
        else
          if zcmp .le (lg_cmp v1 v3) 0 = true then
            some (0, m)
          else
            some (1, m)
set_option maxRecDepth 20000 in
theorem T30 {B : zHp} (H : yH0 B) {e : Nat} (he : 1 ≤ e + 1) (F : Nat) {v0 : Int32} {v1 : Int64} {v3 : Int64} {lv : List (Nat × Value)} {m : xS} {x : Int32 × xS} (l0 : zld lv 0 = some (.int v0)) (l1 : zld lv 1 = some (.long v1)) (l3 : zld lv 3 = some (.long v3)) (h : D30 F v0 v1 v3 m = some x) : zR none e 5 (some .boolean) zc30 (0, lv, []) (xW B m) (some (.int x.1), xW B x.2) := by
  unfold D30 at h
  refine q_li (k := 1) (i := 0) (q := (.iload_n 0, 1, 0, 0, .null)) rfl (fun _ => rfl) l0 ?_
  by_cases d1 : ((v0 == 4)) = true
  · rw [if_pos d1] at h
    refine q_sw (pc2 := 32) (q := (.tableswitch 79 4 7 #[31, 43, 55, 67], 31, 0, 0, .null)) d1 rfl (fun _ => rfl) ?_
    refine q_ll (k := 1) (i := 1) (q := (.lload_n 1, 1, 0, 0, .null)) rfl (fun _ => rfl) l1 ?_
    refine q_ll (k := 1) (i := 3) (q := (.lload_n 3, 1, 0, 0, .null)) rfl (fun _ => rfl) l3 ?_
    refine r_s (fr' := (35, lv, [.int (lg_cmp v1 v3)])) (hp' := xW B m) (q := (.lcmp, 1, 0, 0, .null)) rfl (fun _ => rfl) (Nat.le_refl _) ?_
    refine r_if (len := 3) (a := 42) (b := 0) (v0 := .null) (cn := .ge) (off := 7) rfl (fun c => ?_) (fun c => ?_)
    · rw [if_pos c] at h
      refine r_s (fr' := (43, lv, [.int 0])) (hp' := xW B m) (q := (.iconst 0, 1, 0, 0, .null)) rfl (fun _ => rfl) (Nat.le_refl _) ?_
      obtain rfl := Option.some.inj h
      exact q_ri (q := (.ireturn, 1, 0, 0, .null)) rfl (fun _ => rfl) rfl rfl
    · rw [if_neg (by rw [c]; decide)] at h
      refine r_s (fr' := (39, lv, [.int 1])) (hp' := xW B m) (q := (.iconst 1, 1, 0, 0, .null)) rfl (fun _ => rfl) (Nat.le_refl _) ?_
      refine r_s (fr' := (43, lv, [.int 1])) (hp' := xW B m) (q := (.goto 4, 3, 43, 0, .null)) rfl (fun _ => rfl) (Nat.le_refl _) ?_
      obtain rfl := Option.some.inj h
      exact q_ri (q := (.ireturn, 1, 0, 0, .null)) rfl (fun _ => rfl) rfl rfl
  · rw [if_neg d1] at h
    by_cases d2 : ((v0 == 5)) = true
    · rw [if_pos d2] at h
      refine q_sw (pc2 := 44) (q := (.tableswitch 79 4 7 #[31, 43, 55, 67], 31, 0, 0, .null)) d2 rfl (fun _ => rfl) ?_
      refine q_ll (k := 1) (i := 1) (q := (.lload_n 1, 1, 0, 0, .null)) rfl (fun _ => rfl) l1 ?_
      refine q_ll (k := 1) (i := 3) (q := (.lload_n 3, 1, 0, 0, .null)) rfl (fun _ => rfl) l3 ?_
      refine r_s (fr' := (47, lv, [.int (lg_cmp v1 v3)])) (hp' := xW B m) (q := (.lcmp, 1, 0, 0, .null)) rfl (fun _ => rfl) (Nat.le_refl _) ?_
      refine r_if (len := 3) (a := 54) (b := 0) (v0 := .null) (cn := .gt) (off := 7) rfl (fun c => ?_) (fun c => ?_)
      · rw [if_pos c] at h
        refine r_s (fr' := (55, lv, [.int 0])) (hp' := xW B m) (q := (.iconst 0, 1, 0, 0, .null)) rfl (fun _ => rfl) (Nat.le_refl _) ?_
        obtain rfl := Option.some.inj h
        exact q_ri (q := (.ireturn, 1, 0, 0, .null)) rfl (fun _ => rfl) rfl rfl
      · rw [if_neg (by rw [c]; decide)] at h
        refine r_s (fr' := (51, lv, [.int 1])) (hp' := xW B m) (q := (.iconst 1, 1, 0, 0, .null)) rfl (fun _ => rfl) (Nat.le_refl _) ?_
        refine r_s (fr' := (55, lv, [.int 1])) (hp' := xW B m) (q := (.goto 4, 3, 55, 0, .null)) rfl (fun _ => rfl) (Nat.le_refl _) ?_
        obtain rfl := Option.some.inj h
        exact q_ri (q := (.ireturn, 1, 0, 0, .null)) rfl (fun _ => rfl) rfl rfl
    · rw [if_neg d2] at h
      by_cases d3 : ((v0 == 6)) = true
      · rw [if_pos d3] at h
        refine q_sw (pc2 := 56) (q := (.tableswitch 79 4 7 #[31, 43, 55, 67], 31, 0, 0, .null)) d3 rfl (fun _ => rfl) ?_
        refine q_ll (k := 1) (i := 1) (q := (.lload_n 1, 1, 0, 0, .null)) rfl (fun _ => rfl) l1 ?_
        refine q_ll (k := 1) (i := 3) (q := (.lload_n 3, 1, 0, 0, .null)) rfl (fun _ => rfl) l3 ?_
        refine r_s (fr' := (59, lv, [.int (lg_cmp v1 v3)])) (hp' := xW B m) (q := (.lcmp, 1, 0, 0, .null)) rfl (fun _ => rfl) (Nat.le_refl _) ?_
        refine r_if (len := 3) (a := 66) (b := 0) (v0 := .null) (cn := .ne) (off := 7) rfl (fun c => ?_) (fun c => ?_)
        · rw [if_pos c] at h
          refine r_s (fr' := (67, lv, [.int 0])) (hp' := xW B m) (q := (.iconst 0, 1, 0, 0, .null)) rfl (fun _ => rfl) (Nat.le_refl _) ?_
          obtain rfl := Option.some.inj h
          exact q_ri (q := (.ireturn, 1, 0, 0, .null)) rfl (fun _ => rfl) rfl rfl
        · rw [if_neg (by rw [c]; decide)] at h
          refine r_s (fr' := (63, lv, [.int 1])) (hp' := xW B m) (q := (.iconst 1, 1, 0, 0, .null)) rfl (fun _ => rfl) (Nat.le_refl _) ?_
          refine r_s (fr' := (67, lv, [.int 1])) (hp' := xW B m) (q := (.goto 4, 3, 67, 0, .null)) rfl (fun _ => rfl) (Nat.le_refl _) ?_
          obtain rfl := Option.some.inj h
          exact q_ri (q := (.ireturn, 1, 0, 0, .null)) rfl (fun _ => rfl) rfl rfl
      · rw [if_neg d3] at h
        by_cases d4 : ((v0 == 7)) = true
        · rw [if_pos d4] at h
          refine q_sw (pc2 := 68) (q := (.tableswitch 79 4 7 #[31, 43, 55, 67], 31, 0, 0, .null)) d4 rfl (fun _ => rfl) ?_
          refine q_ll (k := 1) (i := 1) (q := (.lload_n 1, 1, 0, 0, .null)) rfl (fun _ => rfl) l1 ?_
          refine q_ll (k := 1) (i := 3) (q := (.lload_n 3, 1, 0, 0, .null)) rfl (fun _ => rfl) l3 ?_
          refine r_s (fr' := (71, lv, [.int (lg_cmp v1 v3)])) (hp' := xW B m) (q := (.lcmp, 1, 0, 0, .null)) rfl (fun _ => rfl) (Nat.le_refl _) ?_
          refine r_if (len := 3) (a := 78) (b := 0) (v0 := .null) (cn := .lt) (off := 7) rfl (fun c => ?_) (fun c => ?_)
          · rw [if_pos c] at h
            refine r_s (fr' := (79, lv, [.int 0])) (hp' := xW B m) (q := (.iconst 0, 1, 0, 0, .null)) rfl (fun _ => rfl) (Nat.le_refl _) ?_
            obtain rfl := Option.some.inj h
            exact q_ri (q := (.ireturn, 1, 0, 0, .null)) rfl (fun _ => rfl) rfl rfl
          · rw [if_neg (by rw [c]; decide)] at h
            refine r_s (fr' := (75, lv, [.int 1])) (hp' := xW B m) (q := (.iconst 1, 1, 0, 0, .null)) rfl (fun _ => rfl) (Nat.le_refl _) ?_
            refine r_s (fr' := (79, lv, [.int 1])) (hp' := xW B m) (q := (.goto 4, 3, 79, 0, .null)) rfl (fun _ => rfl) (Nat.le_refl _) ?_
            obtain rfl := Option.some.inj h
            exact q_ri (q := (.ireturn, 1, 0, 0, .null)) rfl (fun _ => rfl) rfl rfl
        · rw [if_neg d4] at h
          refine q_td (pc2 := 80) (q := (.tableswitch 79 4 7 #[31, 43, 55, 67], 31, 0, 0, .null)) (dflt := 79) (lo := 4) (hi := 7) (offs := #[31, 43, 55, 67]) (by have z0 := xne (z := 4) rfl d1; have z1 := xne (z := 5) rfl d2; have z2 := xne (z := 6) rfl d3; have z3 := xne (z := 7) rfl d4; omega) rfl (fun _ => rfl) rfl ?_
          refine q_ll (k := 1) (i := 1) (q := (.lload_n 1, 1, 0, 0, .null)) rfl (fun _ => rfl) l1 ?_
          refine q_ll (k := 1) (i := 3) (q := (.lload_n 3, 1, 0, 0, .null)) rfl (fun _ => rfl) l3 ?_
          refine r_s (fr' := (83, lv, [.int (lg_cmp v1 v3)])) (hp' := xW B m) (q := (.lcmp, 1, 0, 0, .null)) rfl (fun _ => rfl) (Nat.le_refl _) ?_
          refine r_if (len := 3) (a := 90) (b := 0) (v0 := .null) (cn := .le) (off := 7) rfl (fun c => ?_) (fun c => ?_)
          · rw [if_pos c] at h
            refine r_s (fr' := (91, lv, [.int 0])) (hp' := xW B m) (q := (.iconst 0, 1, 0, 0, .null)) rfl (fun _ => rfl) (Nat.le_refl _) ?_
            obtain rfl := Option.some.inj h
            exact q_ri (q := (.ireturn, 1, 0, 0, .null)) rfl (fun _ => rfl) rfl rfl
          · rw [if_neg (by rw [c]; decide)] at h
            refine r_s (fr' := (87, lv, [.int 1])) (hp' := xW B m) (q := (.iconst 1, 1, 0, 0, .null)) rfl (fun _ => rfl) (Nat.le_refl _) ?_
            refine r_s (fr' := (91, lv, [.int 1])) (hp' := xW B m) (q := (.goto 4, 3, 91, 0, .null)) rfl (fun _ => rfl) (Nat.le_refl _) ?_
            obtain rfl := Option.some.inj h
            exact q_ri (q := (.ireturn, 1, 0, 0, .null)) rfl (fun _ => rfl) rfl rfl
set_option maxRecDepth 20000 in
theorem Z30 {B : zHp} (H : yH0 B) {F : Nat} {a0 : Int32} {a1 : Int64} {a3 : Int64} {m : xS} {x : Int32 × xS} (h : D30 F a0 a1 a3 m = some x) {d : Nat} (hd : 1 ≤ d) : zCan d 30 [.int a0, .long a1, .long a3] (xW B m) (some (.int x.1), xW B x.2) := by
  obtain ⟨e, rfl⟩ : ∃ e, d = e + 1 := ⟨d - 1, by omega⟩
  refine zCan_body (nL := 5) (rt := (some .boolean)) (cd := zc30) (xg30) ⟨Nat.le_of_ble_eq_true rfl, by decide⟩ (Nat.le_refl _) ?_
  exact T30 H hd F rfl rfl rfl h
/-- LentTools$Rule.join -/
def D29 (F : Nat) (v0 : Int32) (v1 : Int64) (v3 : Int64) (m : xS) : Option (Int64 × xS) :=
  if (v0 == 1) = true then
    some ((v1 ||| v3), m)
  else
    if (v0 == 2) = true then
      some ((v1 &&& v3), m)
    else
      if (v0 == 3) = true then
        (D30 F v0 v1 v3 m).bind fun q119 =>
          if zcmp .eq q119.1 0 = true then
            some (0, q119.2)
          else
            some (1, q119.2)
      else
        if (v0 == 4) = true then
          (D30 F v0 v1 v3 m).bind fun q119 =>
            if zcmp .eq q119.1 0 = true then
              some (0, q119.2)
            else
              some (1, q119.2)
        else
          if (v0 == 5) = true then
            (D30 F v0 v1 v3 m).bind fun q119 =>
              if zcmp .eq q119.1 0 = true then
                some (0, q119.2)
              else
                some (1, q119.2)
          else
            if (v0 == 6) = true then
              (D30 F v0 v1 v3 m).bind fun q119 =>
                if zcmp .eq q119.1 0 = true then
                  some (0, q119.2)
                else
                  some (1, q119.2)
            else
              if (v0 == 7) = true then
                (D30 F v0 v1 v3 m).bind fun q119 =>
                  if zcmp .eq q119.1 0 = true then
                    some (0, q119.2)
                  else
                    some (1, q119.2)
              else
                if (v0 == 8) = true then
                  (D30 F v0 v1 v3 m).bind fun q119 =>
                    if zcmp .eq q119.1 0 = true then
                      some (0, q119.2)
                    else
                      some (1, q119.2)
                else
                  if (v0 == 9) = true then
                    some ((v1 + v3), m)
                  else
                    if (v0 == 10) = true then
                      some ((v1 - v3), m)
                    else
                      if (v0 == 11) = true then
                        some ((v1 * v3), m)
                      else
                        if (v0 == 12) = true then
                          if zcmp .ne (lg_cmp v3 0) 0 = true then
                            if (!(v3 == 0)) = true then
                              some ((v1 / v3), m)
                            else none
                          else
                            some (0, m)
                        else
                          if (v0 == 13) = true then
                            if zcmp .ne (lg_cmp v3 0) 0 = true then
                              if (!(v3 == 0)) = true then
                                some ((v1 - v1 / v3 * v3), m)
                              else none
                            else
                              some (0, m)
                          else
                            (D30 F v0 v1 v3 m).bind fun q119 =>
                              if zcmp .eq q119.1 0 = true then
                                some (0, q119.2)
                              else
                                some (1, q119.2)
set_option maxRecDepth 20000 in
theorem T29 {B : zHp} (H : yH0 B) {e : Nat} (he : 2 ≤ e + 1) (F : Nat) {v0 : Int32} {v1 : Int64} {v3 : Int64} {lv : List (Nat × Value)} {m : xS} {x : Int64 × xS} (l0 : zld lv 0 = some (.int v0)) (l1 : zld lv 1 = some (.long v1)) (l3 : zld lv 3 = some (.long v3)) (h : D29 F v0 v1 v3 m = some x) : zR none e 5 (some .long) zc29 (0, lv, []) (xW B m) (some (.long x.1), xW B x.2) := by
  unfold D29 at h
  refine q_li (k := 1) (i := 0) (q := (.iload_n 0, 1, 0, 0, .null)) rfl (fun _ => rfl) l0 ?_
  by_cases d1 : ((v0 == 1)) = true
  · rw [if_pos d1] at h
    refine q_sw (pc2 := 112) (q := (.tableswitch 115 1 13 #[111, 107, 115, 115, 115, 115, 115, 115, 67, 71, 75, 79, 93], 67, 0, 0, .null)) d1 rfl (fun _ => rfl) ?_
    refine q_ll (k := 1) (i := 1) (q := (.lload_n 1, 1, 0, 0, .null)) rfl (fun _ => rfl) l1 ?_
    refine q_ll (k := 1) (i := 3) (q := (.lload_n 3, 1, 0, 0, .null)) rfl (fun _ => rfl) l3 ?_
    refine r_s (fr' := (115, lv, [.long (v1 ||| v3)])) (hp' := xW B m) (q := (.lor, 1, 0, 0, .null)) rfl (fun _ => rfl) (Nat.le_refl _) ?_
    obtain rfl := Option.some.inj h
    exact q_rl (q := (.lreturn, 1, 0, 0, .null)) rfl (fun _ => rfl) rfl
  · rw [if_neg d1] at h
    by_cases d2 : ((v0 == 2)) = true
    · rw [if_pos d2] at h
      refine q_sw (pc2 := 108) (q := (.tableswitch 115 1 13 #[111, 107, 115, 115, 115, 115, 115, 115, 67, 71, 75, 79, 93], 67, 0, 0, .null)) d2 rfl (fun _ => rfl) ?_
      refine q_ll (k := 1) (i := 1) (q := (.lload_n 1, 1, 0, 0, .null)) rfl (fun _ => rfl) l1 ?_
      refine q_ll (k := 1) (i := 3) (q := (.lload_n 3, 1, 0, 0, .null)) rfl (fun _ => rfl) l3 ?_
      refine r_s (fr' := (111, lv, [.long (v1 &&& v3)])) (hp' := xW B m) (q := (.land, 1, 0, 0, .null)) rfl (fun _ => rfl) (Nat.le_refl _) ?_
      obtain rfl := Option.some.inj h
      exact q_rl (q := (.lreturn, 1, 0, 0, .null)) rfl (fun _ => rfl) rfl
    · rw [if_neg d2] at h
      by_cases d3 : ((v0 == 3)) = true
      · rw [if_pos d3] at h
        refine q_sw (pc2 := 116) (q := (.tableswitch 115 1 13 #[111, 107, 115, 115, 115, 115, 115, 115, 67, 71, 75, 79, 93], 67, 0, 0, .null)) d3 rfl (fun _ => rfl) ?_
        refine q_li (k := 1) (i := 0) (q := (.iload_n 0, 1, 0, 0, .null)) rfl (fun _ => rfl) l0 ?_
        refine q_ll (k := 1) (i := 1) (q := (.lload_n 1, 1, 0, 0, .null)) rfl (fun _ => rfl) l1 ?_
        refine q_ll (k := 1) (i := 3) (q := (.lload_n 3, 1, 0, 0, .null)) rfl (fun _ => rfl) l3 ?_
        obtain ⟨q119, h119, h⟩ := xbind h
        refine r_callS (as := [.int v0, .long v1, .long v3]) (rest := []) (rv := some (.int q119.1)) (hp' := xW B q119.2) (pc := 119) rfl xr30 rfl rfl rfl (Nat.le_of_ble_eq_true rfl) (Z30 H h119 (by omega)) (Nat.le_refl _) ?_
        refine r_if (len := 3) (a := 129) (b := 0) (v0 := .null) (cn := .eq) (off := 7) rfl (fun c => ?_) (fun c => ?_)
        · rw [if_pos c] at h
          refine r_s (fr' := (130, lv, [.long 0])) (hp' := xW B q119.2) (q := (.lconst 0, 1, 0, 0, .null)) rfl (fun _ => rfl) (Nat.le_refl _) ?_
          obtain rfl := Option.some.inj h
          exact q_rl (q := (.lreturn, 1, 0, 0, .null)) rfl (fun _ => rfl) rfl
        · rw [if_neg (by rw [c]; decide)] at h
          refine r_s (fr' := (126, lv, [.long 1])) (hp' := xW B q119.2) (q := (.lconst 1, 1, 0, 0, .null)) rfl (fun _ => rfl) (Nat.le_refl _) ?_
          refine r_s (fr' := (130, lv, [.long 1])) (hp' := xW B q119.2) (q := (.goto 4, 3, 130, 0, .null)) rfl (fun _ => rfl) (Nat.le_refl _) ?_
          obtain rfl := Option.some.inj h
          exact q_rl (q := (.lreturn, 1, 0, 0, .null)) rfl (fun _ => rfl) rfl
      · rw [if_neg d3] at h
        by_cases d4 : ((v0 == 4)) = true
        · rw [if_pos d4] at h
          refine q_sw (pc2 := 116) (q := (.tableswitch 115 1 13 #[111, 107, 115, 115, 115, 115, 115, 115, 67, 71, 75, 79, 93], 67, 0, 0, .null)) d4 rfl (fun _ => rfl) ?_
          refine q_li (k := 1) (i := 0) (q := (.iload_n 0, 1, 0, 0, .null)) rfl (fun _ => rfl) l0 ?_
          refine q_ll (k := 1) (i := 1) (q := (.lload_n 1, 1, 0, 0, .null)) rfl (fun _ => rfl) l1 ?_
          refine q_ll (k := 1) (i := 3) (q := (.lload_n 3, 1, 0, 0, .null)) rfl (fun _ => rfl) l3 ?_
          obtain ⟨q119, h119, h⟩ := xbind h
          refine r_callS (as := [.int v0, .long v1, .long v3]) (rest := []) (rv := some (.int q119.1)) (hp' := xW B q119.2) (pc := 119) rfl xr30 rfl rfl rfl (Nat.le_of_ble_eq_true rfl) (Z30 H h119 (by omega)) (Nat.le_refl _) ?_
          refine r_if (len := 3) (a := 129) (b := 0) (v0 := .null) (cn := .eq) (off := 7) rfl (fun c => ?_) (fun c => ?_)
          · rw [if_pos c] at h
            refine r_s (fr' := (130, lv, [.long 0])) (hp' := xW B q119.2) (q := (.lconst 0, 1, 0, 0, .null)) rfl (fun _ => rfl) (Nat.le_refl _) ?_
            obtain rfl := Option.some.inj h
            exact q_rl (q := (.lreturn, 1, 0, 0, .null)) rfl (fun _ => rfl) rfl
          · rw [if_neg (by rw [c]; decide)] at h
            refine r_s (fr' := (126, lv, [.long 1])) (hp' := xW B q119.2) (q := (.lconst 1, 1, 0, 0, .null)) rfl (fun _ => rfl) (Nat.le_refl _) ?_
            refine r_s (fr' := (130, lv, [.long 1])) (hp' := xW B q119.2) (q := (.goto 4, 3, 130, 0, .null)) rfl (fun _ => rfl) (Nat.le_refl _) ?_
            obtain rfl := Option.some.inj h
            exact q_rl (q := (.lreturn, 1, 0, 0, .null)) rfl (fun _ => rfl) rfl
        · rw [if_neg d4] at h
          by_cases d5 : ((v0 == 5)) = true
          · rw [if_pos d5] at h
            refine q_sw (pc2 := 116) (q := (.tableswitch 115 1 13 #[111, 107, 115, 115, 115, 115, 115, 115, 67, 71, 75, 79, 93], 67, 0, 0, .null)) d5 rfl (fun _ => rfl) ?_
            refine q_li (k := 1) (i := 0) (q := (.iload_n 0, 1, 0, 0, .null)) rfl (fun _ => rfl) l0 ?_
            refine q_ll (k := 1) (i := 1) (q := (.lload_n 1, 1, 0, 0, .null)) rfl (fun _ => rfl) l1 ?_
            refine q_ll (k := 1) (i := 3) (q := (.lload_n 3, 1, 0, 0, .null)) rfl (fun _ => rfl) l3 ?_
            obtain ⟨q119, h119, h⟩ := xbind h
            refine r_callS (as := [.int v0, .long v1, .long v3]) (rest := []) (rv := some (.int q119.1)) (hp' := xW B q119.2) (pc := 119) rfl xr30 rfl rfl rfl (Nat.le_of_ble_eq_true rfl) (Z30 H h119 (by omega)) (Nat.le_refl _) ?_
            refine r_if (len := 3) (a := 129) (b := 0) (v0 := .null) (cn := .eq) (off := 7) rfl (fun c => ?_) (fun c => ?_)
            · rw [if_pos c] at h
              refine r_s (fr' := (130, lv, [.long 0])) (hp' := xW B q119.2) (q := (.lconst 0, 1, 0, 0, .null)) rfl (fun _ => rfl) (Nat.le_refl _) ?_
              obtain rfl := Option.some.inj h
              exact q_rl (q := (.lreturn, 1, 0, 0, .null)) rfl (fun _ => rfl) rfl
            · rw [if_neg (by rw [c]; decide)] at h
              refine r_s (fr' := (126, lv, [.long 1])) (hp' := xW B q119.2) (q := (.lconst 1, 1, 0, 0, .null)) rfl (fun _ => rfl) (Nat.le_refl _) ?_
              refine r_s (fr' := (130, lv, [.long 1])) (hp' := xW B q119.2) (q := (.goto 4, 3, 130, 0, .null)) rfl (fun _ => rfl) (Nat.le_refl _) ?_
              obtain rfl := Option.some.inj h
              exact q_rl (q := (.lreturn, 1, 0, 0, .null)) rfl (fun _ => rfl) rfl
          · rw [if_neg d5] at h
            by_cases d6 : ((v0 == 6)) = true
            · rw [if_pos d6] at h
              refine q_sw (pc2 := 116) (q := (.tableswitch 115 1 13 #[111, 107, 115, 115, 115, 115, 115, 115, 67, 71, 75, 79, 93], 67, 0, 0, .null)) d6 rfl (fun _ => rfl) ?_
              refine q_li (k := 1) (i := 0) (q := (.iload_n 0, 1, 0, 0, .null)) rfl (fun _ => rfl) l0 ?_
              refine q_ll (k := 1) (i := 1) (q := (.lload_n 1, 1, 0, 0, .null)) rfl (fun _ => rfl) l1 ?_
              refine q_ll (k := 1) (i := 3) (q := (.lload_n 3, 1, 0, 0, .null)) rfl (fun _ => rfl) l3 ?_
              obtain ⟨q119, h119, h⟩ := xbind h
              refine r_callS (as := [.int v0, .long v1, .long v3]) (rest := []) (rv := some (.int q119.1)) (hp' := xW B q119.2) (pc := 119) rfl xr30 rfl rfl rfl (Nat.le_of_ble_eq_true rfl) (Z30 H h119 (by omega)) (Nat.le_refl _) ?_
              refine r_if (len := 3) (a := 129) (b := 0) (v0 := .null) (cn := .eq) (off := 7) rfl (fun c => ?_) (fun c => ?_)
              · rw [if_pos c] at h
                refine r_s (fr' := (130, lv, [.long 0])) (hp' := xW B q119.2) (q := (.lconst 0, 1, 0, 0, .null)) rfl (fun _ => rfl) (Nat.le_refl _) ?_
                obtain rfl := Option.some.inj h
                exact q_rl (q := (.lreturn, 1, 0, 0, .null)) rfl (fun _ => rfl) rfl
              · rw [if_neg (by rw [c]; decide)] at h
                refine r_s (fr' := (126, lv, [.long 1])) (hp' := xW B q119.2) (q := (.lconst 1, 1, 0, 0, .null)) rfl (fun _ => rfl) (Nat.le_refl _) ?_
                refine r_s (fr' := (130, lv, [.long 1])) (hp' := xW B q119.2) (q := (.goto 4, 3, 130, 0, .null)) rfl (fun _ => rfl) (Nat.le_refl _) ?_
                obtain rfl := Option.some.inj h
                exact q_rl (q := (.lreturn, 1, 0, 0, .null)) rfl (fun _ => rfl) rfl
            · rw [if_neg d6] at h
              by_cases d7 : ((v0 == 7)) = true
              · rw [if_pos d7] at h
                refine q_sw (pc2 := 116) (q := (.tableswitch 115 1 13 #[111, 107, 115, 115, 115, 115, 115, 115, 67, 71, 75, 79, 93], 67, 0, 0, .null)) d7 rfl (fun _ => rfl) ?_
                refine q_li (k := 1) (i := 0) (q := (.iload_n 0, 1, 0, 0, .null)) rfl (fun _ => rfl) l0 ?_
                refine q_ll (k := 1) (i := 1) (q := (.lload_n 1, 1, 0, 0, .null)) rfl (fun _ => rfl) l1 ?_
                refine q_ll (k := 1) (i := 3) (q := (.lload_n 3, 1, 0, 0, .null)) rfl (fun _ => rfl) l3 ?_
                obtain ⟨q119, h119, h⟩ := xbind h
                refine r_callS (as := [.int v0, .long v1, .long v3]) (rest := []) (rv := some (.int q119.1)) (hp' := xW B q119.2) (pc := 119) rfl xr30 rfl rfl rfl (Nat.le_of_ble_eq_true rfl) (Z30 H h119 (by omega)) (Nat.le_refl _) ?_
                refine r_if (len := 3) (a := 129) (b := 0) (v0 := .null) (cn := .eq) (off := 7) rfl (fun c => ?_) (fun c => ?_)
                · rw [if_pos c] at h
                  refine r_s (fr' := (130, lv, [.long 0])) (hp' := xW B q119.2) (q := (.lconst 0, 1, 0, 0, .null)) rfl (fun _ => rfl) (Nat.le_refl _) ?_
                  obtain rfl := Option.some.inj h
                  exact q_rl (q := (.lreturn, 1, 0, 0, .null)) rfl (fun _ => rfl) rfl
                · rw [if_neg (by rw [c]; decide)] at h
                  refine r_s (fr' := (126, lv, [.long 1])) (hp' := xW B q119.2) (q := (.lconst 1, 1, 0, 0, .null)) rfl (fun _ => rfl) (Nat.le_refl _) ?_
                  refine r_s (fr' := (130, lv, [.long 1])) (hp' := xW B q119.2) (q := (.goto 4, 3, 130, 0, .null)) rfl (fun _ => rfl) (Nat.le_refl _) ?_
                  obtain rfl := Option.some.inj h
                  exact q_rl (q := (.lreturn, 1, 0, 0, .null)) rfl (fun _ => rfl) rfl
              · rw [if_neg d7] at h
                by_cases d8 : ((v0 == 8)) = true
                · rw [if_pos d8] at h
                  refine q_sw (pc2 := 116) (q := (.tableswitch 115 1 13 #[111, 107, 115, 115, 115, 115, 115, 115, 67, 71, 75, 79, 93], 67, 0, 0, .null)) d8 rfl (fun _ => rfl) ?_
                  refine q_li (k := 1) (i := 0) (q := (.iload_n 0, 1, 0, 0, .null)) rfl (fun _ => rfl) l0 ?_
                  refine q_ll (k := 1) (i := 1) (q := (.lload_n 1, 1, 0, 0, .null)) rfl (fun _ => rfl) l1 ?_
                  refine q_ll (k := 1) (i := 3) (q := (.lload_n 3, 1, 0, 0, .null)) rfl (fun _ => rfl) l3 ?_
                  obtain ⟨q119, h119, h⟩ := xbind h
                  refine r_callS (as := [.int v0, .long v1, .long v3]) (rest := []) (rv := some (.int q119.1)) (hp' := xW B q119.2) (pc := 119) rfl xr30 rfl rfl rfl (Nat.le_of_ble_eq_true rfl) (Z30 H h119 (by omega)) (Nat.le_refl _) ?_
                  refine r_if (len := 3) (a := 129) (b := 0) (v0 := .null) (cn := .eq) (off := 7) rfl (fun c => ?_) (fun c => ?_)
                  · rw [if_pos c] at h
                    refine r_s (fr' := (130, lv, [.long 0])) (hp' := xW B q119.2) (q := (.lconst 0, 1, 0, 0, .null)) rfl (fun _ => rfl) (Nat.le_refl _) ?_
                    obtain rfl := Option.some.inj h
                    exact q_rl (q := (.lreturn, 1, 0, 0, .null)) rfl (fun _ => rfl) rfl
                  · rw [if_neg (by rw [c]; decide)] at h
                    refine r_s (fr' := (126, lv, [.long 1])) (hp' := xW B q119.2) (q := (.lconst 1, 1, 0, 0, .null)) rfl (fun _ => rfl) (Nat.le_refl _) ?_
                    refine r_s (fr' := (130, lv, [.long 1])) (hp' := xW B q119.2) (q := (.goto 4, 3, 130, 0, .null)) rfl (fun _ => rfl) (Nat.le_refl _) ?_
                    obtain rfl := Option.some.inj h
                    exact q_rl (q := (.lreturn, 1, 0, 0, .null)) rfl (fun _ => rfl) rfl
                · rw [if_neg d8] at h
                  by_cases d9 : ((v0 == 9)) = true
                  · rw [if_pos d9] at h
                    refine q_sw (pc2 := 68) (q := (.tableswitch 115 1 13 #[111, 107, 115, 115, 115, 115, 115, 115, 67, 71, 75, 79, 93], 67, 0, 0, .null)) d9 rfl (fun _ => rfl) ?_
                    refine q_ll (k := 1) (i := 1) (q := (.lload_n 1, 1, 0, 0, .null)) rfl (fun _ => rfl) l1 ?_
                    refine q_ll (k := 1) (i := 3) (q := (.lload_n 3, 1, 0, 0, .null)) rfl (fun _ => rfl) l3 ?_
                    refine r_s (fr' := (71, lv, [.long (v1 + v3)])) (hp' := xW B m) (q := (.ladd, 1, 0, 0, .null)) rfl (fun _ => rfl) (Nat.le_refl _) ?_
                    obtain rfl := Option.some.inj h
                    exact q_rl (q := (.lreturn, 1, 0, 0, .null)) rfl (fun _ => rfl) rfl
                  · rw [if_neg d9] at h
                    by_cases d10 : ((v0 == 10)) = true
                    · rw [if_pos d10] at h
                      refine q_sw (pc2 := 72) (q := (.tableswitch 115 1 13 #[111, 107, 115, 115, 115, 115, 115, 115, 67, 71, 75, 79, 93], 67, 0, 0, .null)) d10 rfl (fun _ => rfl) ?_
                      refine q_ll (k := 1) (i := 1) (q := (.lload_n 1, 1, 0, 0, .null)) rfl (fun _ => rfl) l1 ?_
                      refine q_ll (k := 1) (i := 3) (q := (.lload_n 3, 1, 0, 0, .null)) rfl (fun _ => rfl) l3 ?_
                      refine r_s (fr' := (75, lv, [.long (v1 - v3)])) (hp' := xW B m) (q := (.lsub, 1, 0, 0, .null)) rfl (fun _ => rfl) (Nat.le_refl _) ?_
                      obtain rfl := Option.some.inj h
                      exact q_rl (q := (.lreturn, 1, 0, 0, .null)) rfl (fun _ => rfl) rfl
                    · rw [if_neg d10] at h
                      by_cases d11 : ((v0 == 11)) = true
                      · rw [if_pos d11] at h
                        refine q_sw (pc2 := 76) (q := (.tableswitch 115 1 13 #[111, 107, 115, 115, 115, 115, 115, 115, 67, 71, 75, 79, 93], 67, 0, 0, .null)) d11 rfl (fun _ => rfl) ?_
                        refine q_ll (k := 1) (i := 1) (q := (.lload_n 1, 1, 0, 0, .null)) rfl (fun _ => rfl) l1 ?_
                        refine q_ll (k := 1) (i := 3) (q := (.lload_n 3, 1, 0, 0, .null)) rfl (fun _ => rfl) l3 ?_
                        refine r_s (fr' := (79, lv, [.long (v1 * v3)])) (hp' := xW B m) (q := (.lmul, 1, 0, 0, .null)) rfl (fun _ => rfl) (Nat.le_refl _) ?_
                        obtain rfl := Option.some.inj h
                        exact q_rl (q := (.lreturn, 1, 0, 0, .null)) rfl (fun _ => rfl) rfl
                      · rw [if_neg d11] at h
                        by_cases d12 : ((v0 == 12)) = true
                        · rw [if_pos d12] at h
                          refine q_sw (pc2 := 80) (q := (.tableswitch 115 1 13 #[111, 107, 115, 115, 115, 115, 115, 115, 67, 71, 75, 79, 93], 67, 0, 0, .null)) d12 rfl (fun _ => rfl) ?_
                          refine q_ll (k := 1) (i := 3) (q := (.lload_n 3, 1, 0, 0, .null)) rfl (fun _ => rfl) l3 ?_
                          refine r_s (fr' := (82, lv, [.long 0, .long v3])) (hp' := xW B m) (q := (.lconst 0, 1, 0, 0, .null)) rfl (fun _ => rfl) (Nat.le_refl _) ?_
                          refine r_s (fr' := (83, lv, [.int (lg_cmp v3 0)])) (hp' := xW B m) (q := (.lcmp, 1, 0, 0, .null)) rfl (fun _ => rfl) (Nat.le_refl _) ?_
                          refine r_if (len := 3) (a := 90) (b := 0) (v0 := .null) (cn := .ne) (off := 7) rfl (fun c => ?_) (fun c => ?_)
                          · rw [if_pos c] at h
                            refine q_ll (k := 1) (i := 1) (q := (.lload_n 1, 1, 0, 0, .null)) rfl (fun _ => rfl) l1 ?_
                            refine q_ll (k := 1) (i := 3) (q := (.lload_n 3, 1, 0, 0, .null)) rfl (fun _ => rfl) l3 ?_
                            obtain ⟨c13, h⟩ := xif h
                            refine q_ldiv (f := fun x y => x / y) (q := (.ldiv, 1, 0, 0, .null)) rfl (fun _ => rfl) c13 ?_
                            obtain rfl := Option.some.inj h
                            exact q_rl (q := (.lreturn, 1, 0, 0, .null)) rfl (fun _ => rfl) rfl
                          · rw [if_neg (by rw [c]; decide)] at h
                            refine r_s (fr' := (87, lv, [.long 0])) (hp' := xW B m) (q := (.lconst 0, 1, 0, 0, .null)) rfl (fun _ => rfl) (Nat.le_refl _) ?_
                            refine r_s (fr' := (93, lv, [.long 0])) (hp' := xW B m) (q := (.goto 6, 3, 93, 0, .null)) rfl (fun _ => rfl) (Nat.le_refl _) ?_
                            obtain rfl := Option.some.inj h
                            exact q_rl (q := (.lreturn, 1, 0, 0, .null)) rfl (fun _ => rfl) rfl
                        · rw [if_neg d12] at h
                          by_cases d14 : ((v0 == 13)) = true
                          · rw [if_pos d14] at h
                            refine q_sw (pc2 := 94) (q := (.tableswitch 115 1 13 #[111, 107, 115, 115, 115, 115, 115, 115, 67, 71, 75, 79, 93], 67, 0, 0, .null)) d14 rfl (fun _ => rfl) ?_
                            refine q_ll (k := 1) (i := 3) (q := (.lload_n 3, 1, 0, 0, .null)) rfl (fun _ => rfl) l3 ?_
                            refine r_s (fr' := (96, lv, [.long 0, .long v3])) (hp' := xW B m) (q := (.lconst 0, 1, 0, 0, .null)) rfl (fun _ => rfl) (Nat.le_refl _) ?_
                            refine r_s (fr' := (97, lv, [.int (lg_cmp v3 0)])) (hp' := xW B m) (q := (.lcmp, 1, 0, 0, .null)) rfl (fun _ => rfl) (Nat.le_refl _) ?_
                            refine r_if (len := 3) (a := 104) (b := 0) (v0 := .null) (cn := .ne) (off := 7) rfl (fun c => ?_) (fun c => ?_)
                            · rw [if_pos c] at h
                              refine q_ll (k := 1) (i := 1) (q := (.lload_n 1, 1, 0, 0, .null)) rfl (fun _ => rfl) l1 ?_
                              refine q_ll (k := 1) (i := 3) (q := (.lload_n 3, 1, 0, 0, .null)) rfl (fun _ => rfl) l3 ?_
                              obtain ⟨c15, h⟩ := xif h
                              refine q_ldiv (f := fun x y => x - x / y * y) (q := (.lrem, 1, 0, 0, .null)) rfl (fun _ => rfl) c15 ?_
                              obtain rfl := Option.some.inj h
                              exact q_rl (q := (.lreturn, 1, 0, 0, .null)) rfl (fun _ => rfl) rfl
                            · rw [if_neg (by rw [c]; decide)] at h
                              refine r_s (fr' := (101, lv, [.long 0])) (hp' := xW B m) (q := (.lconst 0, 1, 0, 0, .null)) rfl (fun _ => rfl) (Nat.le_refl _) ?_
                              refine r_s (fr' := (107, lv, [.long 0])) (hp' := xW B m) (q := (.goto 6, 3, 107, 0, .null)) rfl (fun _ => rfl) (Nat.le_refl _) ?_
                              obtain rfl := Option.some.inj h
                              exact q_rl (q := (.lreturn, 1, 0, 0, .null)) rfl (fun _ => rfl) rfl
                          · rw [if_neg d14] at h
                            refine q_td (pc2 := 116) (q := (.tableswitch 115 1 13 #[111, 107, 115, 115, 115, 115, 115, 115, 67, 71, 75, 79, 93], 67, 0, 0, .null)) (dflt := 115) (lo := 1) (hi := 13) (offs := #[111, 107, 115, 115, 115, 115, 115, 115, 67, 71, 75, 79, 93]) (by have z0 := xne (z := 1) rfl d1; have z1 := xne (z := 2) rfl d2; have z2 := xne (z := 3) rfl d3; have z3 := xne (z := 4) rfl d4; have z4 := xne (z := 5) rfl d5; have z5 := xne (z := 6) rfl d6; have z6 := xne (z := 7) rfl d7; have z7 := xne (z := 8) rfl d8; have z8 := xne (z := 9) rfl d9; have z9 := xne (z := 10) rfl d10; have z10 := xne (z := 11) rfl d11; have z11 := xne (z := 12) rfl d12; have z12 := xne (z := 13) rfl d14; omega) rfl (fun _ => rfl) rfl ?_
                            refine q_li (k := 1) (i := 0) (q := (.iload_n 0, 1, 0, 0, .null)) rfl (fun _ => rfl) l0 ?_
                            refine q_ll (k := 1) (i := 1) (q := (.lload_n 1, 1, 0, 0, .null)) rfl (fun _ => rfl) l1 ?_
                            refine q_ll (k := 1) (i := 3) (q := (.lload_n 3, 1, 0, 0, .null)) rfl (fun _ => rfl) l3 ?_
                            obtain ⟨q119, h119, h⟩ := xbind h
                            refine r_callS (as := [.int v0, .long v1, .long v3]) (rest := []) (rv := some (.int q119.1)) (hp' := xW B q119.2) (pc := 119) rfl xr30 rfl rfl rfl (Nat.le_of_ble_eq_true rfl) (Z30 H h119 (by omega)) (Nat.le_refl _) ?_
                            refine r_if (len := 3) (a := 129) (b := 0) (v0 := .null) (cn := .eq) (off := 7) rfl (fun c => ?_) (fun c => ?_)
                            · rw [if_pos c] at h
                              refine r_s (fr' := (130, lv, [.long 0])) (hp' := xW B q119.2) (q := (.lconst 0, 1, 0, 0, .null)) rfl (fun _ => rfl) (Nat.le_refl _) ?_
                              obtain rfl := Option.some.inj h
                              exact q_rl (q := (.lreturn, 1, 0, 0, .null)) rfl (fun _ => rfl) rfl
                            · rw [if_neg (by rw [c]; decide)] at h
                              refine r_s (fr' := (126, lv, [.long 1])) (hp' := xW B q119.2) (q := (.lconst 1, 1, 0, 0, .null)) rfl (fun _ => rfl) (Nat.le_refl _) ?_
                              refine r_s (fr' := (130, lv, [.long 1])) (hp' := xW B q119.2) (q := (.goto 4, 3, 130, 0, .null)) rfl (fun _ => rfl) (Nat.le_refl _) ?_
                              obtain rfl := Option.some.inj h
                              exact q_rl (q := (.lreturn, 1, 0, 0, .null)) rfl (fun _ => rfl) rfl
set_option maxRecDepth 20000 in
theorem Z29 {B : zHp} (H : yH0 B) {F : Nat} {a0 : Int32} {a1 : Int64} {a3 : Int64} {m : xS} {x : Int64 × xS} (h : D29 F a0 a1 a3 m = some x) {d : Nat} (hd : 2 ≤ d) : zCan d 29 [.int a0, .long a1, .long a3] (xW B m) (some (.long x.1), xW B x.2) := by
  obtain ⟨e, rfl⟩ : ∃ e, d = e + 1 := ⟨d - 1, by omega⟩
  refine zCan_body (nL := 5) (rt := (some .long)) (cd := zc29) (xg29) ⟨Nat.le_of_ble_eq_true rfl, by decide⟩ (Nat.le_refl _) ?_
  exact T29 H hd F rfl rfl rfl h
/-- LentTools$Rule.sumFor -/
def D28_R_9_198 (F : Nat) (r0 nn : Nat) (g6 : Int32 → Int32 → Int32 → Int32 → xS → Option (Int64 × xS)) (v2 : Int32) (v3 : Int32) (v4 : Int32) (v5 : Int32) (v6 : Int32) (m : xS) : Option (Int64 × xS) :=
  g6 v2 v3 v4 (v5 + Int32.ofInt 1) m
set_option maxRecDepth 20000 in
theorem T28_R_9_198 {B : zHp} (H : yH0 B) {e : Nat} (he : 5 ≤ e + 1) (F : Nat) (r0 nn : Nat) (hr0 : rlB B r0 nn) (g6 : Int32 → Int32 → Int32 → Int32 → xS → Option (Int64 × xS)) (k6 : ∀ {v2 : Int32} {v3 : Int32} {v4 : Int32} {v5 : Int32} {lv : List (Nat × Value)} {m : xS} {x : Int64 × xS}, zld lv 0 = some (.ref r0) → zld lv 1 = some (.ref 9) → zld lv 2 = some (.int v2) → zld lv 3 = some (.int v3) → zld lv 4 = some (.int v4) → zld lv 5 = some (.int v5) → g6 v2 v3 v4 v5 m = some x → zR none e 7 (some .long) zc28 (6, lv, []) (xW B m) (some (.long x.1), xW B x.2)) {v2 : Int32} {v3 : Int32} {v4 : Int32} {v5 : Int32} {v6 : Int32} {lv : List (Nat × Value)} {m : xS} {x : Int64 × xS} (l0 : zld lv 0 = some (.ref r0)) (l1 : zld lv 1 = some (.ref 9)) (l2 : zld lv 2 = some (.int v2)) (l3 : zld lv 3 = some (.int v3)) (l4 : zld lv 4 = some (.int v4)) (l5 : zld lv 5 = some (.int v5)) (l6 : zld lv 6 = some (.int v6)) (h : D28_R_9_198 F r0 nn g6 v2 v3 v4 v5 v6 m = some x) : zR none e 7 (some .long) zc28 (198, lv, []) (xW B m) (some (.long x.1), xW B x.2) := by
  unfold D28_R_9_198 at h
  refine q_inc (i := 5) (n := 1) (q := (.iinc 5 1, 3, 0, 0, .null)) rfl (fun _ => rfl) l5 (by decide) ?_
  have l0_1 : zld (zs1 lv 5 (.int (v5 + Int32.ofInt 1))) 0 = some (.ref r0) := x_o1 l0 rfl rfl
  have l1_1 : zld (zs1 lv 5 (.int (v5 + Int32.ofInt 1))) 1 = some (.ref 9) := x_o1 l1 rfl rfl
  have l2_1 : zld (zs1 lv 5 (.int (v5 + Int32.ofInt 1))) 2 = some (.int v2) := x_o1 l2 rfl rfl
  have l3_1 : zld (zs1 lv 5 (.int (v5 + Int32.ofInt 1))) 3 = some (.int v3) := x_o1 l3 rfl rfl
  have l4_1 : zld (zs1 lv 5 (.int (v5 + Int32.ofInt 1))) 4 = some (.int v4) := x_o1 l4 rfl rfl
  have l5_1 : zld (zs1 lv 5 (.int (v5 + Int32.ofInt 1))) 5 = some (.int (v5 + Int32.ofInt 1)) := zs1_ld _ _ _
  have l6_1 : zld (zs1 lv 5 (.int (v5 + Int32.ofInt 1))) 6 = some (.int v6) := x_o1 l6 rfl rfl
  generalize (zs1 lv 5 (.int (v5 + Int32.ofInt 1))) = lv1 at *
  refine r_s (fr' := (6, lv1, [])) (hp' := xW B m) (q := (.goto (-195), 3, 6, 0, .null)) rfl (fun _ => rfl) (Nat.le_refl _) ?_
  exact k6 l0_1 l1_1 l2_1 l3_1 l4_1 l5_1 h
def D28_R_9_73 (F : Nat) (r0 nn : Nat) (g6 : Int32 → Int32 → Int32 → Int32 → xS → Option (Int64 × xS)) (v2 : Int32) (v3 : Int32) (v4 : Int32) (v5 : Int32) (v6 : Int32) (w0 : Int64) (w1 : Int32) (m : xS) : Option (Int64 × xS) :=
  if xib w1 64 = true then
    D28_R_9_198 F r0 nn g6 v2 v3 (v4 + Int32.ofInt 1) v5 v6 (xul m (r0 + 2) (w1 : Int32).toNatClampNeg w0)
  else none
set_option maxRecDepth 20000 in
theorem T28_R_9_73 {B : zHp} (H : yH0 B) {e : Nat} (he : 5 ≤ e + 1) (F : Nat) (r0 nn : Nat) (hr0 : rlB B r0 nn) (g6 : Int32 → Int32 → Int32 → Int32 → xS → Option (Int64 × xS)) (k6 : ∀ {v2 : Int32} {v3 : Int32} {v4 : Int32} {v5 : Int32} {lv : List (Nat × Value)} {m : xS} {x : Int64 × xS}, zld lv 0 = some (.ref r0) → zld lv 1 = some (.ref 9) → zld lv 2 = some (.int v2) → zld lv 3 = some (.int v3) → zld lv 4 = some (.int v4) → zld lv 5 = some (.int v5) → g6 v2 v3 v4 v5 m = some x → zR none e 7 (some .long) zc28 (6, lv, []) (xW B m) (some (.long x.1), xW B x.2)) {v2 : Int32} {v3 : Int32} {v4 : Int32} {v5 : Int32} {v6 : Int32} {w0 : Int64} {w1 : Int32} {lv : List (Nat × Value)} {m : xS} {x : Int64 × xS} (l0 : zld lv 0 = some (.ref r0)) (l1 : zld lv 1 = some (.ref 9)) (l2 : zld lv 2 = some (.int v2)) (l3 : zld lv 3 = some (.int v3)) (l4 : zld lv 4 = some (.int v4)) (l5 : zld lv 5 = some (.int v5)) (l6 : zld lv 6 = some (.int v6)) (h : D28_R_9_73 F r0 nn g6 v2 v3 v4 v5 v6 w0 w1 m = some x) : zR none e 7 (some .long) zc28 (73, lv, [.long w0, .int w1, .ref (r0 + 2)]) (xW B m) (some (.long x.1), xW B x.2) := by
  unfold D28_R_9_73 at h
  obtain ⟨c1, h⟩ := xif h
  refine q_rlas (s2 := (xul m (r0 + 2) (w1 : Int32).toNatClampNeg w0)) hr0 (pc := 73) rfl c1 rfl ?_
  refine q_inc (i := 4) (n := 1) (q := (.iinc 4 1, 3, 0, 0, .null)) rfl (fun _ => rfl) l4 (by decide) ?_
  have l0_2 : zld (zs1 lv 4 (.int (v4 + Int32.ofInt 1))) 0 = some (.ref r0) := x_o1 l0 rfl rfl
  have l1_2 : zld (zs1 lv 4 (.int (v4 + Int32.ofInt 1))) 1 = some (.ref 9) := x_o1 l1 rfl rfl
  have l2_2 : zld (zs1 lv 4 (.int (v4 + Int32.ofInt 1))) 2 = some (.int v2) := x_o1 l2 rfl rfl
  have l3_2 : zld (zs1 lv 4 (.int (v4 + Int32.ofInt 1))) 3 = some (.int v3) := x_o1 l3 rfl rfl
  have l4_2 : zld (zs1 lv 4 (.int (v4 + Int32.ofInt 1))) 4 = some (.int (v4 + Int32.ofInt 1)) := zs1_ld _ _ _
  have l5_2 : zld (zs1 lv 4 (.int (v4 + Int32.ofInt 1))) 5 = some (.int v5) := x_o1 l5 rfl rfl
  have l6_2 : zld (zs1 lv 4 (.int (v4 + Int32.ofInt 1))) 6 = some (.int v6) := x_o1 l6 rfl rfl
  generalize (zs1 lv 4 (.int (v4 + Int32.ofInt 1))) = lv2 at *
  refine r_s (fr' := (198, lv2, [])) (hp' := xW B (xul m (r0 + 2) (w1 : Int32).toNatClampNeg w0)) (q := (.goto 121, 3, 198, 0, .null)) rfl (fun _ => rfl) (Nat.le_refl _) ?_
  exact T28_R_9_198 H he F r0 nn hr0 _ k6 l0_2 l1_2 l2_2 l3_2 l4_2 l5_2 l6_2 h
def D28_R_9_159 (F : Nat) (r0 nn : Nat) (g6 : Int32 → Int32 → Int32 → Int32 → xS → Option (Int64 × xS)) (v2 : Int32) (v3 : Int32) (v4 : Int32) (v5 : Int32) (v6 : Int32) (m : xS) : Option (Int64 × xS) :=
  if zcmp .le v4 1 = true then
    D28_R_9_198 F r0 nn g6 v2 v3 v4 v5 v6 m
  else
    if xib ((v4 + Int32.ofInt (-1)) - 1) 64 = true then
      if xib (v4 + Int32.ofInt (-1)) 64 = true then
        (D29 F v6 (m.2 (r0 + 2) (((v4 + Int32.ofInt (-1)) - 1) : Int32).toNatClampNeg) (m.2 (r0 + 2) ((v4 + Int32.ofInt (-1)) : Int32).toNatClampNeg) m).bind fun q194 =>
          if xib ((v4 + Int32.ofInt (-1)) - 1) 64 = true then
            D28_R_9_198 F r0 nn g6 v2 v3 (v4 + Int32.ofInt (-1)) v5 v6 (xul q194.2 (r0 + 2) (((v4 + Int32.ofInt (-1)) - 1) : Int32).toNatClampNeg q194.1)
          else none
      else none
    else none
set_option maxRecDepth 20000 in
theorem T28_R_9_159 {B : zHp} (H : yH0 B) {e : Nat} (he : 5 ≤ e + 1) (F : Nat) (r0 nn : Nat) (hr0 : rlB B r0 nn) (g6 : Int32 → Int32 → Int32 → Int32 → xS → Option (Int64 × xS)) (k6 : ∀ {v2 : Int32} {v3 : Int32} {v4 : Int32} {v5 : Int32} {lv : List (Nat × Value)} {m : xS} {x : Int64 × xS}, zld lv 0 = some (.ref r0) → zld lv 1 = some (.ref 9) → zld lv 2 = some (.int v2) → zld lv 3 = some (.int v3) → zld lv 4 = some (.int v4) → zld lv 5 = some (.int v5) → g6 v2 v3 v4 v5 m = some x → zR none e 7 (some .long) zc28 (6, lv, []) (xW B m) (some (.long x.1), xW B x.2)) {v2 : Int32} {v3 : Int32} {v4 : Int32} {v5 : Int32} {v6 : Int32} {lv : List (Nat × Value)} {m : xS} {x : Int64 × xS} (l0 : zld lv 0 = some (.ref r0)) (l1 : zld lv 1 = some (.ref 9)) (l2 : zld lv 2 = some (.int v2)) (l3 : zld lv 3 = some (.int v3)) (l4 : zld lv 4 = some (.int v4)) (l5 : zld lv 5 = some (.int v5)) (l6 : zld lv 6 = some (.int v6)) (h : D28_R_9_159 F r0 nn g6 v2 v3 v4 v5 v6 m = some x) : zR none e 7 (some .long) zc28 (159, lv, []) (xW B m) (some (.long x.1), xW B x.2) := by
  unfold D28_R_9_159 at h
  refine q_li (k := 2) (i := 4) (q := (.iload 4, 2, 0, 0, .null)) rfl (fun _ => rfl) l4 ?_
  refine r_s (fr' := (162, lv, [.int 1, .int v4])) (hp' := xW B m) (q := (.iconst 1, 1, 0, 0, .null)) rfl (fun _ => rfl) (Nat.le_refl _) ?_
  refine r_ifc (len := 3) (a := 198) (b := 0) (v0 := .null) (cn := .le) (off := 36) rfl (fun c => ?_) (fun c => ?_)
  · rw [if_pos c] at h
    exact T28_R_9_198 H he F r0 nn hr0 _ k6 l0 l1 l2 l3 l4 l5 l6 h
  · rw [if_neg (by rw [c]; decide)] at h
    refine q_inc (i := 4) (n := (-1)) (q := (.iinc 4 (-1), 3, 0, 0, .null)) rfl (fun _ => rfl) l4 (by decide) ?_
    have l0_1 : zld (zs1 lv 4 (.int (v4 + Int32.ofInt (-1)))) 0 = some (.ref r0) := x_o1 l0 rfl rfl
    have l1_1 : zld (zs1 lv 4 (.int (v4 + Int32.ofInt (-1)))) 1 = some (.ref 9) := x_o1 l1 rfl rfl
    have l2_1 : zld (zs1 lv 4 (.int (v4 + Int32.ofInt (-1)))) 2 = some (.int v2) := x_o1 l2 rfl rfl
    have l3_1 : zld (zs1 lv 4 (.int (v4 + Int32.ofInt (-1)))) 3 = some (.int v3) := x_o1 l3 rfl rfl
    have l4_1 : zld (zs1 lv 4 (.int (v4 + Int32.ofInt (-1)))) 4 = some (.int (v4 + Int32.ofInt (-1))) := zs1_ld _ _ _
    have l5_1 : zld (zs1 lv 4 (.int (v4 + Int32.ofInt (-1)))) 5 = some (.int v5) := x_o1 l5 rfl rfl
    have l6_1 : zld (zs1 lv 4 (.int (v4 + Int32.ofInt (-1)))) 6 = some (.int v6) := x_o1 l6 rfl rfl
    generalize (zs1 lv 4 (.int (v4 + Int32.ofInt (-1)))) = lv1 at *
    refine q_lr (k := 1) (i := 0) (q := (.aload_n 0, 1, 0, 0, .null)) rfl (fun _ => rfl) l0_1 ?_
    refine r_rg hr0 (pc := 169) rfl (b := 1) rfl ?_
    refine q_li (k := 2) (i := 4) (q := (.iload 4, 2, 0, 0, .null)) rfl (fun _ => rfl) l4_1 ?_
    refine r_s (fr' := (175, lv1, [.int 1, .int (v4 + Int32.ofInt (-1)), .ref (r0 + 2)])) (hp' := xW B m) (q := (.iconst 1, 1, 0, 0, .null)) rfl (fun _ => rfl) (Nat.le_refl _) ?_
    refine r_s (fr' := (176, lv1, [.int ((v4 + Int32.ofInt (-1)) - 1), .ref (r0 + 2)])) (hp' := xW B m) (q := (.isub, 1, 0, 0, .null)) rfl (fun _ => rfl) (Nat.le_refl _) ?_
    refine q_li (k := 2) (i := 6) (q := (.iload 6, 2, 0, 0, .null)) rfl (fun _ => rfl) l6_1 ?_
    refine q_lr (k := 1) (i := 0) (q := (.aload_n 0, 1, 0, 0, .null)) rfl (fun _ => rfl) l0_1 ?_
    refine r_rg hr0 (pc := 179) rfl (b := 1) rfl ?_
    refine q_li (k := 2) (i := 4) (q := (.iload 4, 2, 0, 0, .null)) rfl (fun _ => rfl) l4_1 ?_
    refine r_s (fr' := (185, lv1, [.int 1, .int (v4 + Int32.ofInt (-1)), .ref (r0 + 2), .int v6, .int ((v4 + Int32.ofInt (-1)) - 1), .ref (r0 + 2)])) (hp' := xW B m) (q := (.iconst 1, 1, 0, 0, .null)) rfl (fun _ => rfl) (Nat.le_refl _) ?_
    refine r_s (fr' := (186, lv1, [.int ((v4 + Int32.ofInt (-1)) - 1), .ref (r0 + 2), .int v6, .int ((v4 + Int32.ofInt (-1)) - 1), .ref (r0 + 2)])) (hp' := xW B m) (q := (.isub, 1, 0, 0, .null)) rfl (fun _ => rfl) (Nat.le_refl _) ?_
    obtain ⟨c2, h⟩ := xif h
    refine q_rlal (v := (m.2 (r0 + 2) (((v4 + Int32.ofInt (-1)) - 1) : Int32).toNatClampNeg)) hr0 (pc := 186) rfl c2 rfl ?_
    refine q_lr (k := 1) (i := 0) (q := (.aload_n 0, 1, 0, 0, .null)) rfl (fun _ => rfl) l0_1 ?_
    refine r_rg hr0 (pc := 188) rfl (b := 1) rfl ?_
    refine q_li (k := 2) (i := 4) (q := (.iload 4, 2, 0, 0, .null)) rfl (fun _ => rfl) l4_1 ?_
    obtain ⟨c3, h⟩ := xif h
    refine q_rlal (v := (m.2 (r0 + 2) ((v4 + Int32.ofInt (-1)) : Int32).toNatClampNeg)) hr0 (pc := 193) rfl c3 rfl ?_
    obtain ⟨q194, h194, h⟩ := xbind h
    refine r_callS (as := [.int v6, .long (m.2 (r0 + 2) (((v4 + Int32.ofInt (-1)) - 1) : Int32).toNatClampNeg), .long (m.2 (r0 + 2) ((v4 + Int32.ofInt (-1)) : Int32).toNatClampNeg)]) (rest := [.int ((v4 + Int32.ofInt (-1)) - 1), .ref (r0 + 2)]) (rv := some (.long q194.1)) (hp' := xW B q194.2) (pc := 194) rfl xr29 rfl rfl rfl (Nat.le_of_ble_eq_true rfl) (Z29 H h194 (by omega)) (Nat.le_refl _) ?_
    obtain ⟨c4, h⟩ := xif h
    refine q_rlas (s2 := (xul q194.2 (r0 + 2) (((v4 + Int32.ofInt (-1)) - 1) : Int32).toNatClampNeg q194.1)) hr0 (pc := 197) rfl c4 rfl ?_
    exact T28_R_9_198 H he F r0 nn hr0 _ k6 l0_1 l1_1 l2_1 l3_1 l4_1 l5_1 l6_1 h
def D28_R_9_6 (F : Nat) (r0 nn : Nat) : Nat → Int32 → Int32 → Int32 → Int32 → xS → Option (Int64 × xS)
  | 0, _, _, _, _, _ => none
  | f + 1, v2, v3, v4, v5, m =>
    if zcmp .ge v5 (Int32.ofNat nn) = true then
      some (0, m)
    else
      if xib v5 nn = true then
        if zcmp .lt (m.1 (r0 + 1) (v5 : Int32).toNatClampNeg) 20 = true then
          if zcmp .ne (m.1 (r0 + 1) (v5 : Int32).toNatClampNeg) 14 = true then
            if zcmp .ne (m.1 (r0 + 1) (v5 : Int32).toNatClampNeg) 15 = true then
              if zcmp .ne (m.1 (r0 + 1) (v5 : Int32).toNatClampNeg) 3 = true then
                D28_R_9_159 F r0 nn (D28_R_9_6 F r0 nn f) v2 v3 v4 v5 (m.1 (r0 + 1) (v5 : Int32).toNatClampNeg) m
              else
                if zcmp .le v4 0 = true then
                  D28_R_9_159 F r0 nn (D28_R_9_6 F r0 nn f) v2 v3 v4 v5 (m.1 (r0 + 1) (v5 : Int32).toNatClampNeg) m
                else
                  if xib (v4 - 1) 64 = true then
                    if xib (v4 - 1) 64 = true then
                      D28_R_9_198 F r0 nn (D28_R_9_6 F r0 nn f) v2 v3 v4 v5 (m.1 (r0 + 1) (v5 : Int32).toNatClampNeg) (xul m (r0 + 2) ((v4 - 1) : Int32).toNatClampNeg (1 - (m.2 (r0 + 2) ((v4 - 1) : Int32).toNatClampNeg)))
                    else none
                  else none
            else
              if zcmp .eq (lg_cmp (m.2 (r0 + 2) 1) 0) 0 = true then
                D28_R_9_198 F r0 nn (D28_R_9_6 F r0 nn f) v2 v3 0 v5 (m.1 (r0 + 1) (v5 : Int32).toNatClampNeg) m
              else
                some ((m.2 (r0 + 2) 0), m)
          else
            some ((m.2 (r0 + 2) 0), m)
        else
          if zcmp .ge v4 64 = true then
            D28_R_9_198 F r0 nn (D28_R_9_6 F r0 nn f) v2 v3 v4 v5 (m.1 (r0 + 1) (v5 : Int32).toNatClampNeg) m
          else
            if zcmp .lt (m.1 (r0 + 1) (v5 : Int32).toNatClampNeg) 40 = true then
              (D31_9 F ((m.1 (r0 + 1) (v5 : Int32).toNatClampNeg) - 20) v2 v3 m).bind fun q69 =>
                D28_R_9_73 F r0 nn (D28_R_9_6 F r0 nn f) v2 v3 v4 v5 (m.1 (r0 + 1) (v5 : Int32).toNatClampNeg) (q69.1 : Int32).toInt64 v4 q69.2
            else
              D28_R_9_73 F r0 nn (D28_R_9_6 F r0 nn f) v2 v3 v4 v5 (m.1 (r0 + 1) (v5 : Int32).toNatClampNeg) (((m.1 (r0 + 1) (v5 : Int32).toNatClampNeg) - 40) : Int32).toInt64 v4 m
      else none
set_option maxRecDepth 20000 in
theorem T28_R_9_6 {B : zHp} (H : yH0 B) {e : Nat} (he : 5 ≤ e + 1) (F : Nat) (r0 nn : Nat) (hr0 : rlB B r0 nn) : ∀ (f : Nat) {v2 : Int32} {v3 : Int32} {v4 : Int32} {v5 : Int32} {lv : List (Nat × Value)} {m : xS} {x : Int64 × xS}, zld lv 0 = some (.ref r0) → zld lv 1 = some (.ref 9) → zld lv 2 = some (.int v2) → zld lv 3 = some (.int v3) → zld lv 4 = some (.int v4) → zld lv 5 = some (.int v5) → D28_R_9_6 F r0 nn f v2 v3 v4 v5 m = some x → zR none e 7 (some .long) zc28 (6, lv, []) (xW B m) (some (.long x.1), xW B x.2) := by
  intro f
  induction f with
  | zero => intro v2 v3 v4 v5 lv m x l0 l1 l2 l3 l4 l5 h; cases h
  | succ f ih =>
    intro v2 v3 v4 v5 lv m x l0 l1 l2 l3 l4 l5 h
    unfold D28_R_9_6 at h
    refine q_li (k := 2) (i := 5) (q := (.iload 5, 2, 0, 0, .null)) rfl (fun _ => rfl) l5 ?_
    refine q_lr (k := 1) (i := 0) (q := (.aload_n 0, 1, 0, 0, .null)) rfl (fun _ => rfl) l0 ?_
    refine r_rg hr0 (pc := 9) rfl (b := 0) rfl ?_
    refine q_rlen hr0 (pc := 12) rfl ?_
    refine r_ifc (len := 3) (a := 204) (b := 0) (v0 := .null) (cn := .ge) (off := 191) rfl (fun c => ?_) (fun c => ?_)
    · rw [if_pos c] at h
      refine r_s (fr' := (205, lv, [.long 0])) (hp' := xW B m) (q := (.lconst 0, 1, 0, 0, .null)) rfl (fun _ => rfl) (Nat.le_refl _) ?_
      obtain rfl := Option.some.inj h
      exact q_rl (q := (.lreturn, 1, 0, 0, .null)) rfl (fun _ => rfl) rfl
    · rw [if_neg (by rw [c]; decide)] at h
      refine q_lr (k := 1) (i := 0) (q := (.aload_n 0, 1, 0, 0, .null)) rfl (fun _ => rfl) l0 ?_
      refine r_rg hr0 (pc := 17) rfl (b := 0) rfl ?_
      refine q_li (k := 2) (i := 5) (q := (.iload 5, 2, 0, 0, .null)) rfl (fun _ => rfl) l5 ?_
      obtain ⟨c1, h⟩ := xif h
      refine q_ral (v := (m.1 (r0 + 1) (v5 : Int32).toNatClampNeg)) hr0 (pc := 22) rfl c1 rfl ?_
      refine q_si (k := 2) (i := 6) (q := (.istore 6, 2, 0, 0, .null)) rfl (fun _ => rfl) (by decide) ?_
      have l0_2 : zld (zs1 lv 6 (.int (m.1 (r0 + 1) (v5 : Int32).toNatClampNeg))) 0 = some (.ref r0) := x_o1 l0 rfl rfl
      have l1_2 : zld (zs1 lv 6 (.int (m.1 (r0 + 1) (v5 : Int32).toNatClampNeg))) 1 = some (.ref 9) := x_o1 l1 rfl rfl
      have l2_2 : zld (zs1 lv 6 (.int (m.1 (r0 + 1) (v5 : Int32).toNatClampNeg))) 2 = some (.int v2) := x_o1 l2 rfl rfl
      have l3_2 : zld (zs1 lv 6 (.int (m.1 (r0 + 1) (v5 : Int32).toNatClampNeg))) 3 = some (.int v3) := x_o1 l3 rfl rfl
      have l4_2 : zld (zs1 lv 6 (.int (m.1 (r0 + 1) (v5 : Int32).toNatClampNeg))) 4 = some (.int v4) := x_o1 l4 rfl rfl
      have l5_2 : zld (zs1 lv 6 (.int (m.1 (r0 + 1) (v5 : Int32).toNatClampNeg))) 5 = some (.int v5) := x_o1 l5 rfl rfl
      have l6_2 : zld (zs1 lv 6 (.int (m.1 (r0 + 1) (v5 : Int32).toNatClampNeg))) 6 = some (.int (m.1 (r0 + 1) (v5 : Int32).toNatClampNeg)) := zs1_ld _ _ _
      generalize (zs1 lv 6 (.int (m.1 (r0 + 1) (v5 : Int32).toNatClampNeg))) = lv2 at *
      refine q_li (k := 2) (i := 6) (q := (.iload 6, 2, 0, 0, .null)) rfl (fun _ => rfl) l6_2 ?_
      refine r_s (fr' := (29, lv2, [.int 20, .int (m.1 (r0 + 1) (v5 : Int32).toNatClampNeg)])) (hp' := xW B m) (q := (.bipush 20, 2, 0, 0, .null)) rfl (fun _ => rfl) (Nat.le_refl _) ?_
      refine r_ifc (len := 3) (a := 80) (b := 0) (v0 := .null) (cn := .lt) (off := 51) rfl (fun c => ?_) (fun c => ?_)
      · rw [if_pos c] at h
        refine q_li (k := 2) (i := 6) (q := (.iload 6, 2, 0, 0, .null)) rfl (fun _ => rfl) l6_2 ?_
        refine r_s (fr' := (84, lv2, [.int 14, .int (m.1 (r0 + 1) (v5 : Int32).toNatClampNeg)])) (hp' := xW B m) (q := (.bipush 14, 2, 0, 0, .null)) rfl (fun _ => rfl) (Nat.le_refl _) ?_
        refine r_ifc (len := 3) (a := 94) (b := 0) (v0 := .null) (cn := .ne) (off := 10) rfl (fun c => ?_) (fun c => ?_)
        · rw [if_pos c] at h
          refine q_li (k := 2) (i := 6) (q := (.iload 6, 2, 0, 0, .null)) rfl (fun _ => rfl) l6_2 ?_
          refine r_s (fr' := (98, lv2, [.int 15, .int (m.1 (r0 + 1) (v5 : Int32).toNatClampNeg)])) (hp' := xW B m) (q := (.bipush 15, 2, 0, 0, .null)) rfl (fun _ => rfl) (Nat.le_refl _) ?_
          refine r_ifc (len := 3) (a := 125) (b := 0) (v0 := .null) (cn := .ne) (off := 27) rfl (fun c => ?_) (fun c => ?_)
          · rw [if_pos c] at h
            refine q_li (k := 2) (i := 6) (q := (.iload 6, 2, 0, 0, .null)) rfl (fun _ => rfl) l6_2 ?_
            refine r_s (fr' := (128, lv2, [.int 3, .int (m.1 (r0 + 1) (v5 : Int32).toNatClampNeg)])) (hp' := xW B m) (q := (.iconst 3, 1, 0, 0, .null)) rfl (fun _ => rfl) (Nat.le_refl _) ?_
            refine r_ifc (len := 3) (a := 159) (b := 0) (v0 := .null) (cn := .ne) (off := 31) rfl (fun c => ?_) (fun c => ?_)
            · rw [if_pos c] at h
              exact T28_R_9_159 H he F r0 nn hr0 _ ih l0_2 l1_2 l2_2 l3_2 l4_2 l5_2 l6_2 h
            · rw [if_neg (by rw [c]; decide)] at h
              refine q_li (k := 2) (i := 4) (q := (.iload 4, 2, 0, 0, .null)) rfl (fun _ => rfl) l4_2 ?_
              refine r_if (len := 3) (a := 159) (b := 0) (v0 := .null) (cn := .le) (off := 26) rfl (fun c => ?_) (fun c => ?_)
              · rw [if_pos c] at h
                exact T28_R_9_159 H he F r0 nn hr0 _ ih l0_2 l1_2 l2_2 l3_2 l4_2 l5_2 l6_2 h
              · rw [if_neg (by rw [c]; decide)] at h
                refine q_lr (k := 1) (i := 0) (q := (.aload_n 0, 1, 0, 0, .null)) rfl (fun _ => rfl) l0_2 ?_
                refine r_rg hr0 (pc := 137) rfl (b := 1) rfl ?_
                refine q_li (k := 2) (i := 4) (q := (.iload 4, 2, 0, 0, .null)) rfl (fun _ => rfl) l4_2 ?_
                refine r_s (fr' := (143, lv2, [.int 1, .int v4, .ref (r0 + 2)])) (hp' := xW B m) (q := (.iconst 1, 1, 0, 0, .null)) rfl (fun _ => rfl) (Nat.le_refl _) ?_
                refine r_s (fr' := (144, lv2, [.int (v4 - 1), .ref (r0 + 2)])) (hp' := xW B m) (q := (.isub, 1, 0, 0, .null)) rfl (fun _ => rfl) (Nat.le_refl _) ?_
                refine r_s (fr' := (145, lv2, [.long 1, .int (v4 - 1), .ref (r0 + 2)])) (hp' := xW B m) (q := (.lconst 1, 1, 0, 0, .null)) rfl (fun _ => rfl) (Nat.le_refl _) ?_
                refine q_lr (k := 1) (i := 0) (q := (.aload_n 0, 1, 0, 0, .null)) rfl (fun _ => rfl) l0_2 ?_
                refine r_rg hr0 (pc := 146) rfl (b := 1) rfl ?_
                refine q_li (k := 2) (i := 4) (q := (.iload 4, 2, 0, 0, .null)) rfl (fun _ => rfl) l4_2 ?_
                refine r_s (fr' := (152, lv2, [.int 1, .int v4, .ref (r0 + 2), .long 1, .int (v4 - 1), .ref (r0 + 2)])) (hp' := xW B m) (q := (.iconst 1, 1, 0, 0, .null)) rfl (fun _ => rfl) (Nat.le_refl _) ?_
                refine r_s (fr' := (153, lv2, [.int (v4 - 1), .ref (r0 + 2), .long 1, .int (v4 - 1), .ref (r0 + 2)])) (hp' := xW B m) (q := (.isub, 1, 0, 0, .null)) rfl (fun _ => rfl) (Nat.le_refl _) ?_
                obtain ⟨c3, h⟩ := xif h
                refine q_rlal (v := (m.2 (r0 + 2) ((v4 - 1) : Int32).toNatClampNeg)) hr0 (pc := 153) rfl c3 rfl ?_
                refine r_s (fr' := (155, lv2, [.long (1 - (m.2 (r0 + 2) ((v4 - 1) : Int32).toNatClampNeg)), .int (v4 - 1), .ref (r0 + 2)])) (hp' := xW B m) (q := (.lsub, 1, 0, 0, .null)) rfl (fun _ => rfl) (Nat.le_refl _) ?_
                obtain ⟨c4, h⟩ := xif h
                refine q_rlas (s2 := (xul m (r0 + 2) ((v4 - 1) : Int32).toNatClampNeg (1 - (m.2 (r0 + 2) ((v4 - 1) : Int32).toNatClampNeg)))) hr0 (pc := 155) rfl c4 rfl ?_
                refine r_s (fr' := (198, lv2, [])) (hp' := xW B (xul m (r0 + 2) ((v4 - 1) : Int32).toNatClampNeg (1 - (m.2 (r0 + 2) ((v4 - 1) : Int32).toNatClampNeg)))) (q := (.goto 42, 3, 198, 0, .null)) rfl (fun _ => rfl) (Nat.le_refl _) ?_
                exact T28_R_9_198 H he F r0 nn hr0 _ ih l0_2 l1_2 l2_2 l3_2 l4_2 l5_2 l6_2 h
          · rw [if_neg (by rw [c]; decide)] at h
            refine q_lr (k := 1) (i := 0) (q := (.aload_n 0, 1, 0, 0, .null)) rfl (fun _ => rfl) l0_2 ?_
            refine r_rg hr0 (pc := 102) rfl (b := 1) rfl ?_
            refine r_s (fr' := (106, lv2, [.int 1, .ref (r0 + 2)])) (hp' := xW B m) (q := (.iconst 1, 1, 0, 0, .null)) rfl (fun _ => rfl) (Nat.le_refl _) ?_
            refine q_rlal (v := (m.2 (r0 + 2) 1)) hr0 (pc := 106) rfl (by decide) rfl ?_
            refine r_s (fr' := (108, lv2, [.long 0, .long (m.2 (r0 + 2) 1)])) (hp' := xW B m) (q := (.lconst 0, 1, 0, 0, .null)) rfl (fun _ => rfl) (Nat.le_refl _) ?_
            refine r_s (fr' := (109, lv2, [.int (lg_cmp (m.2 (r0 + 2) 1) 0)])) (hp' := xW B m) (q := (.lcmp, 1, 0, 0, .null)) rfl (fun _ => rfl) (Nat.le_refl _) ?_
            refine r_if (len := 3) (a := 119) (b := 0) (v0 := .null) (cn := .eq) (off := 10) rfl (fun c => ?_) (fun c => ?_)
            · rw [if_pos c] at h
              refine r_s (fr' := (120, lv2, [.int 0])) (hp' := xW B m) (q := (.iconst 0, 1, 0, 0, .null)) rfl (fun _ => rfl) (Nat.le_refl _) ?_
              refine q_si (k := 2) (i := 4) (q := (.istore 4, 2, 0, 0, .null)) rfl (fun _ => rfl) (by decide) ?_
              have l0_5 : zld (zs1 lv2 4 (.int 0)) 0 = some (.ref r0) := x_o1 l0_2 rfl rfl
              have l1_5 : zld (zs1 lv2 4 (.int 0)) 1 = some (.ref 9) := x_o1 l1_2 rfl rfl
              have l2_5 : zld (zs1 lv2 4 (.int 0)) 2 = some (.int v2) := x_o1 l2_2 rfl rfl
              have l3_5 : zld (zs1 lv2 4 (.int 0)) 3 = some (.int v3) := x_o1 l3_2 rfl rfl
              have l4_5 : zld (zs1 lv2 4 (.int 0)) 4 = some (.int 0) := zs1_ld _ _ _
              have l5_5 : zld (zs1 lv2 4 (.int 0)) 5 = some (.int v5) := x_o1 l5_2 rfl rfl
              have l6_5 : zld (zs1 lv2 4 (.int 0)) 6 = some (.int (m.1 (r0 + 1) (v5 : Int32).toNatClampNeg)) := x_o1 l6_2 rfl rfl
              generalize (zs1 lv2 4 (.int 0)) = lv5 at *
              refine r_s (fr' := (198, lv5, [])) (hp' := xW B m) (q := (.goto 76, 3, 198, 0, .null)) rfl (fun _ => rfl) (Nat.le_refl _) ?_
              exact T28_R_9_198 H he F r0 nn hr0 _ ih l0_5 l1_5 l2_5 l3_5 l4_5 l5_5 l6_5 h
            · rw [if_neg (by rw [c]; decide)] at h
              refine q_lr (k := 1) (i := 0) (q := (.aload_n 0, 1, 0, 0, .null)) rfl (fun _ => rfl) l0_2 ?_
              refine r_rg hr0 (pc := 113) rfl (b := 1) rfl ?_
              refine r_s (fr' := (117, lv2, [.int 0, .ref (r0 + 2)])) (hp' := xW B m) (q := (.iconst 0, 1, 0, 0, .null)) rfl (fun _ => rfl) (Nat.le_refl _) ?_
              refine q_rlal (v := (m.2 (r0 + 2) 0)) hr0 (pc := 117) rfl (by decide) rfl ?_
              obtain rfl := Option.some.inj h
              exact q_rl (q := (.lreturn, 1, 0, 0, .null)) rfl (fun _ => rfl) rfl
        · rw [if_neg (by rw [c]; decide)] at h
          refine q_lr (k := 1) (i := 0) (q := (.aload_n 0, 1, 0, 0, .null)) rfl (fun _ => rfl) l0_2 ?_
          refine r_rg hr0 (pc := 88) rfl (b := 1) rfl ?_
          refine r_s (fr' := (92, lv2, [.int 0, .ref (r0 + 2)])) (hp' := xW B m) (q := (.iconst 0, 1, 0, 0, .null)) rfl (fun _ => rfl) (Nat.le_refl _) ?_
          refine q_rlal (v := (m.2 (r0 + 2) 0)) hr0 (pc := 92) rfl (by decide) rfl ?_
          obtain rfl := Option.some.inj h
          exact q_rl (q := (.lreturn, 1, 0, 0, .null)) rfl (fun _ => rfl) rfl
      · rw [if_neg (by rw [c]; decide)] at h
        refine q_li (k := 2) (i := 4) (q := (.iload 4, 2, 0, 0, .null)) rfl (fun _ => rfl) l4_2 ?_
        refine r_s (fr' := (36, lv2, [.int 64, .int v4])) (hp' := xW B m) (q := (.bipush 64, 2, 0, 0, .null)) rfl (fun _ => rfl) (Nat.le_refl _) ?_
        refine r_ifc (len := 3) (a := 198) (b := 0) (v0 := .null) (cn := .ge) (off := 162) rfl (fun c => ?_) (fun c => ?_)
        · rw [if_pos c] at h
          exact T28_R_9_198 H he F r0 nn hr0 _ ih l0_2 l1_2 l2_2 l3_2 l4_2 l5_2 l6_2 h
        · rw [if_neg (by rw [c]; decide)] at h
          refine q_lr (k := 1) (i := 0) (q := (.aload_n 0, 1, 0, 0, .null)) rfl (fun _ => rfl) l0_2 ?_
          refine r_rg hr0 (pc := 40) rfl (b := 1) rfl ?_
          refine q_li (k := 2) (i := 4) (q := (.iload 4, 2, 0, 0, .null)) rfl (fun _ => rfl) l4_2 ?_
          refine q_li (k := 2) (i := 6) (q := (.iload 6, 2, 0, 0, .null)) rfl (fun _ => rfl) l6_2 ?_
          refine r_s (fr' := (49, lv2, [.int 40, .int (m.1 (r0 + 1) (v5 : Int32).toNatClampNeg), .int v4, .ref (r0 + 2)])) (hp' := xW B m) (q := (.bipush 40, 2, 0, 0, .null)) rfl (fun _ => rfl) (Nat.le_refl _) ?_
          refine r_ifc (len := 3) (a := 61) (b := 0) (v0 := .null) (cn := .lt) (off := 12) rfl (fun c => ?_) (fun c => ?_)
          · rw [if_pos c] at h
            refine q_li (k := 2) (i := 6) (q := (.iload 6, 2, 0, 0, .null)) rfl (fun _ => rfl) l6_2 ?_
            refine r_s (fr' := (65, lv2, [.int 20, .int (m.1 (r0 + 1) (v5 : Int32).toNatClampNeg), .int v4, .ref (r0 + 2)])) (hp' := xW B m) (q := (.bipush 20, 2, 0, 0, .null)) rfl (fun _ => rfl) (Nat.le_refl _) ?_
            refine r_s (fr' := (66, lv2, [.int ((m.1 (r0 + 1) (v5 : Int32).toNatClampNeg) - 20), .int v4, .ref (r0 + 2)])) (hp' := xW B m) (q := (.isub, 1, 0, 0, .null)) rfl (fun _ => rfl) (Nat.le_refl _) ?_
            refine q_lr (k := 1) (i := 1) (q := (.aload_n 1, 1, 0, 0, .null)) rfl (fun _ => rfl) l1_2 ?_
            refine q_li (k := 1) (i := 2) (q := (.iload_n 2, 1, 0, 0, .null)) rfl (fun _ => rfl) l2_2 ?_
            refine q_li (k := 1) (i := 3) (q := (.iload_n 3, 1, 0, 0, .null)) rfl (fun _ => rfl) l3_2 ?_
            obtain ⟨q69, h69, h⟩ := xbind h
            refine r_callS (as := [.int ((m.1 (r0 + 1) (v5 : Int32).toNatClampNeg) - 20), .ref 9, .int v2, .int v3]) (rest := [.int v4, .ref (r0 + 2)]) (rv := some (.int q69.1)) (hp' := xW B q69.2) (pc := 69) rfl xr31 rfl rfl rfl (Nat.le_of_ble_eq_true rfl) (Z31_9 H h69 (by omega)) (Nat.le_refl _) ?_
            refine r_s (fr' := (73, lv2, [.long (q69.1 : Int32).toInt64, .int v4, .ref (r0 + 2)])) (hp' := xW B q69.2) (q := (.i2l, 1, 0, 0, .null)) rfl (fun _ => rfl) (Nat.le_refl _) ?_
            exact T28_R_9_73 H he F r0 nn hr0 _ ih l0_2 l1_2 l2_2 l3_2 l4_2 l5_2 l6_2 h
          · rw [if_neg (by rw [c]; decide)] at h
            refine q_li (k := 2) (i := 6) (q := (.iload 6, 2, 0, 0, .null)) rfl (fun _ => rfl) l6_2 ?_
            refine r_s (fr' := (56, lv2, [.int 40, .int (m.1 (r0 + 1) (v5 : Int32).toNatClampNeg), .int v4, .ref (r0 + 2)])) (hp' := xW B m) (q := (.bipush 40, 2, 0, 0, .null)) rfl (fun _ => rfl) (Nat.le_refl _) ?_
            refine r_s (fr' := (57, lv2, [.int ((m.1 (r0 + 1) (v5 : Int32).toNatClampNeg) - 40), .int v4, .ref (r0 + 2)])) (hp' := xW B m) (q := (.isub, 1, 0, 0, .null)) rfl (fun _ => rfl) (Nat.le_refl _) ?_
            refine r_s (fr' := (58, lv2, [.long (((m.1 (r0 + 1) (v5 : Int32).toNatClampNeg) - 40) : Int32).toInt64, .int v4, .ref (r0 + 2)])) (hp' := xW B m) (q := (.i2l, 1, 0, 0, .null)) rfl (fun _ => rfl) (Nat.le_refl _) ?_
            refine r_s (fr' := (73, lv2, [.long (((m.1 (r0 + 1) (v5 : Int32).toNatClampNeg) - 40) : Int32).toInt64, .int v4, .ref (r0 + 2)])) (hp' := xW B m) (q := (.goto 15, 3, 73, 0, .null)) rfl (fun _ => rfl) (Nat.le_refl _) ?_
            exact T28_R_9_73 H he F r0 nn hr0 _ ih l0_2 l1_2 l2_2 l3_2 l4_2 l5_2 l6_2 h
def D28_R_9 (F : Nat) (r0 nn : Nat) (v2 : Int32) (v3 : Int32) (m : xS) : Option (Int64 × xS) :=
  D28_R_9_6 F r0 nn F v2 v3 0 0 m
set_option maxRecDepth 20000 in
theorem T28_R_9 {B : zHp} (H : yH0 B) {e : Nat} (he : 5 ≤ e + 1) (F : Nat) (r0 nn : Nat) (hr0 : rlB B r0 nn) {v2 : Int32} {v3 : Int32} {lv : List (Nat × Value)} {m : xS} {x : Int64 × xS} (l0 : zld lv 0 = some (.ref r0)) (l1 : zld lv 1 = some (.ref 9)) (l2 : zld lv 2 = some (.int v2)) (l3 : zld lv 3 = some (.int v3)) (h : D28_R_9 F r0 nn v2 v3 m = some x) : zR none e 7 (some .long) zc28 (0, lv, []) (xW B m) (some (.long x.1), xW B x.2) := by
  unfold D28_R_9 at h
  refine r_s (fr' := (1, lv, [.int 0])) (hp' := xW B m) (q := (.iconst 0, 1, 0, 0, .null)) rfl (fun _ => rfl) (Nat.le_refl _) ?_
  refine q_si (k := 2) (i := 4) (q := (.istore 4, 2, 0, 0, .null)) rfl (fun _ => rfl) (by decide) ?_
  have l0_1 : zld (zs1 lv 4 (.int 0)) 0 = some (.ref r0) := x_o1 l0 rfl rfl
  have l1_1 : zld (zs1 lv 4 (.int 0)) 1 = some (.ref 9) := x_o1 l1 rfl rfl
  have l2_1 : zld (zs1 lv 4 (.int 0)) 2 = some (.int v2) := x_o1 l2 rfl rfl
  have l3_1 : zld (zs1 lv 4 (.int 0)) 3 = some (.int v3) := x_o1 l3 rfl rfl
  have l4_1 : zld (zs1 lv 4 (.int 0)) 4 = some (.int 0) := zs1_ld _ _ _
  generalize (zs1 lv 4 (.int 0)) = lv1 at *
  refine r_s (fr' := (4, lv1, [.int 0])) (hp' := xW B m) (q := (.iconst 0, 1, 0, 0, .null)) rfl (fun _ => rfl) (Nat.le_refl _) ?_
  refine q_si (k := 2) (i := 5) (q := (.istore 5, 2, 0, 0, .null)) rfl (fun _ => rfl) (by decide) ?_
  have l0_2 : zld (zs1 lv1 5 (.int 0)) 0 = some (.ref r0) := x_o1 l0_1 rfl rfl
  have l1_2 : zld (zs1 lv1 5 (.int 0)) 1 = some (.ref 9) := x_o1 l1_1 rfl rfl
  have l2_2 : zld (zs1 lv1 5 (.int 0)) 2 = some (.int v2) := x_o1 l2_1 rfl rfl
  have l3_2 : zld (zs1 lv1 5 (.int 0)) 3 = some (.int v3) := x_o1 l3_1 rfl rfl
  have l4_2 : zld (zs1 lv1 5 (.int 0)) 4 = some (.int 0) := x_o1 l4_1 rfl rfl
  have l5_2 : zld (zs1 lv1 5 (.int 0)) 5 = some (.int 0) := zs1_ld _ _ _
  generalize (zs1 lv1 5 (.int 0)) = lv2 at *
  exact T28_R_9_6 H he F r0 nn hr0 F l0_2 l1_2 l2_2 l3_2 l4_2 l5_2 h
set_option maxRecDepth 20000 in
theorem Z28_R_9 {B : zHp} (H : yH0 B) {F : Nat} {r0 nn : Nat} (hr0 : rlB B r0 nn) {a2 : Int32} {a3 : Int32} {m : xS} {x : Int64 × xS} (h : D28_R_9 F r0 nn a2 a3 m = some x) {d : Nat} (hd : 5 ≤ d) : zCan d 28 [.ref r0, .ref 9, .int a2, .int a3] (xW B m) (some (.long x.1), xW B x.2) := by
  obtain ⟨e, rfl⟩ : ∃ e, d = e + 1 := ⟨d - 1, by omega⟩
  refine zCan_body (nL := 7) (rt := (some .long)) (cd := zc28) (xg28) ⟨Nat.le_of_ble_eq_true rfl, by decide⟩ (Nat.le_refl _) ?_
  exact T28_R_9 H hd F r0 nn hr0 rfl rfl rfl rfl h
/-- LentTools$Rule.lendAll -/
def D27_R_9_66 (F : Nat) (r0 nn : Nat) (g2 : Int32 → xS → Option (Unit × xS)) (g18 : Int32 → Int32 → Int64 → Int32 → xS → Option (Unit × xS)) (v2 : Int32) (v3 : Int32) (v4 : Int64) (v6 : Int32) (v7 : Int64) (m : xS) : Option (Unit × xS) :=
  g18 v2 v3 v4 (v6 + Int32.ofInt 1) m
set_option maxRecDepth 20000 in
theorem T27_R_9_66 {B : zHp} (H : yH0 B) {e : Nat} (he : 6 ≤ e + 1) (F : Nat) (r0 nn : Nat) (hr0 : rlB B r0 nn) (g2 : Int32 → xS → Option (Unit × xS)) (g18 : Int32 → Int32 → Int64 → Int32 → xS → Option (Unit × xS)) (k2 : ∀ {v2 : Int32} {lv : List (Nat × Value)} {m : xS} {x : Unit × xS}, zld lv 0 = some (.ref r0) → zld lv 1 = some (.ref 9) → zld lv 2 = some (.int v2) → g2 v2 m = some x → zR none e 9 none zc27 (2, lv, []) (xW B m) (none, xW B x.2)) (k18 : ∀ {v2 : Int32} {v3 : Int32} {v4 : Int64} {v6 : Int32} {lv : List (Nat × Value)} {m : xS} {x : Unit × xS}, zld lv 0 = some (.ref r0) → zld lv 1 = some (.ref 9) → zld lv 2 = some (.int v2) → zld lv 3 = some (.int v3) → zld lv 4 = some (.long v4) → zld lv 6 = some (.int v6) → g18 v2 v3 v4 v6 m = some x → zR none e 9 none zc27 (18, lv, []) (xW B m) (none, xW B x.2)) {v2 : Int32} {v3 : Int32} {v4 : Int64} {v6 : Int32} {v7 : Int64} {lv : List (Nat × Value)} {m : xS} {x : Unit × xS} (l0 : zld lv 0 = some (.ref r0)) (l1 : zld lv 1 = some (.ref 9)) (l2 : zld lv 2 = some (.int v2)) (l3 : zld lv 3 = some (.int v3)) (l4 : zld lv 4 = some (.long v4)) (l6 : zld lv 6 = some (.int v6)) (l7 : zld lv 7 = some (.long v7)) (h : D27_R_9_66 F r0 nn g2 g18 v2 v3 v4 v6 v7 m = some x) : zR none e 9 none zc27 (66, lv, []) (xW B m) (none, xW B x.2) := by
  unfold D27_R_9_66 at h
  refine q_inc (i := 6) (n := 1) (q := (.iinc 6 1, 3, 0, 0, .null)) rfl (fun _ => rfl) l6 (by decide) ?_
  have l0_1 : zld (zs1 lv 6 (.int (v6 + Int32.ofInt 1))) 0 = some (.ref r0) := x_o1 l0 rfl rfl
  have l1_1 : zld (zs1 lv 6 (.int (v6 + Int32.ofInt 1))) 1 = some (.ref 9) := x_o1 l1 rfl rfl
  have l2_1 : zld (zs1 lv 6 (.int (v6 + Int32.ofInt 1))) 2 = some (.int v2) := x_o1 l2 rfl rfl
  have l3_1 : zld (zs1 lv 6 (.int (v6 + Int32.ofInt 1))) 3 = some (.int v3) := x_o1 l3 rfl rfl
  have l4_1 : zld (zs1 lv 6 (.int (v6 + Int32.ofInt 1))) 4 = some (.long v4) := x_o1 l4 rfl rfl
  have l6_1 : zld (zs1 lv 6 (.int (v6 + Int32.ofInt 1))) 6 = some (.int (v6 + Int32.ofInt 1)) := zs1_ld _ _ _
  have l7_1 : zld (zs1 lv 6 (.int (v6 + Int32.ofInt 1))) 7 = some (.long v7) := x_o1 l7 rfl rfl
  generalize (zs1 lv 6 (.int (v6 + Int32.ofInt 1))) = lv1 at *
  refine r_s (fr' := (18, lv1, [])) (hp' := xW B m) (q := (.goto (-51), 3, 18, 0, .null)) rfl (fun _ => rfl) (Nat.le_refl _) ?_
  exact k18 l0_1 l1_1 l2_1 l3_1 l4_1 l6_1 h
def D27_R_9_49 (F : Nat) (r0 nn : Nat) (g2 : Int32 → xS → Option (Unit × xS)) (g18 : Int32 → Int32 → Int64 → Int32 → xS → Option (Unit × xS)) (v2 : Int32) (v3 : Int32) (v4 : Int64) (v6 : Int32) (w0 : Int64) (m : xS) : Option (Unit × xS) :=
  if zcmp .le (lg_cmp w0 v4) 0 = true then
    D27_R_9_66 F r0 nn g2 g18 v2 v3 v4 v6 w0 m
  else
    D27_R_9_66 F r0 nn g2 g18 v2 v6 w0 v6 w0 m
set_option maxRecDepth 20000 in
theorem T27_R_9_49 {B : zHp} (H : yH0 B) {e : Nat} (he : 6 ≤ e + 1) (F : Nat) (r0 nn : Nat) (hr0 : rlB B r0 nn) (g2 : Int32 → xS → Option (Unit × xS)) (g18 : Int32 → Int32 → Int64 → Int32 → xS → Option (Unit × xS)) (k2 : ∀ {v2 : Int32} {lv : List (Nat × Value)} {m : xS} {x : Unit × xS}, zld lv 0 = some (.ref r0) → zld lv 1 = some (.ref 9) → zld lv 2 = some (.int v2) → g2 v2 m = some x → zR none e 9 none zc27 (2, lv, []) (xW B m) (none, xW B x.2)) (k18 : ∀ {v2 : Int32} {v3 : Int32} {v4 : Int64} {v6 : Int32} {lv : List (Nat × Value)} {m : xS} {x : Unit × xS}, zld lv 0 = some (.ref r0) → zld lv 1 = some (.ref 9) → zld lv 2 = some (.int v2) → zld lv 3 = some (.int v3) → zld lv 4 = some (.long v4) → zld lv 6 = some (.int v6) → g18 v2 v3 v4 v6 m = some x → zR none e 9 none zc27 (18, lv, []) (xW B m) (none, xW B x.2)) {v2 : Int32} {v3 : Int32} {v4 : Int64} {v6 : Int32} {w0 : Int64} {lv : List (Nat × Value)} {m : xS} {x : Unit × xS} (l0 : zld lv 0 = some (.ref r0)) (l1 : zld lv 1 = some (.ref 9)) (l2 : zld lv 2 = some (.int v2)) (l3 : zld lv 3 = some (.int v3)) (l4 : zld lv 4 = some (.long v4)) (l6 : zld lv 6 = some (.int v6)) (h : D27_R_9_49 F r0 nn g2 g18 v2 v3 v4 v6 w0 m = some x) : zR none e 9 none zc27 (49, lv, [.long w0]) (xW B m) (none, xW B x.2) := by
  unfold D27_R_9_49 at h
  refine q_sl (k := 2) (i := 7) (q := (.lstore 7, 2, 0, 0, .null)) rfl (fun _ => rfl) (by decide) ?_
  have l0_1 : zld (zs2 lv 7 (.long w0)) 0 = some (.ref r0) := x_o2 l0 rfl rfl rfl
  have l1_1 : zld (zs2 lv 7 (.long w0)) 1 = some (.ref 9) := x_o2 l1 rfl rfl rfl
  have l2_1 : zld (zs2 lv 7 (.long w0)) 2 = some (.int v2) := x_o2 l2 rfl rfl rfl
  have l3_1 : zld (zs2 lv 7 (.long w0)) 3 = some (.int v3) := x_o2 l3 rfl rfl rfl
  have l4_1 : zld (zs2 lv 7 (.long w0)) 4 = some (.long v4) := x_o2 l4 rfl rfl rfl
  have l6_1 : zld (zs2 lv 7 (.long w0)) 6 = some (.int v6) := x_o2 l6 rfl rfl rfl
  have l7_1 : zld (zs2 lv 7 (.long w0)) 7 = some (.long w0) := zs2_ld _ _ _
  generalize (zs2 lv 7 (.long w0)) = lv1 at *
  refine q_ll (k := 2) (i := 7) (q := (.lload 7, 2, 0, 0, .null)) rfl (fun _ => rfl) l7_1 ?_
  refine q_ll (k := 2) (i := 4) (q := (.lload 4, 2, 0, 0, .null)) rfl (fun _ => rfl) l4_1 ?_
  refine r_s (fr' := (56, lv1, [.int (lg_cmp w0 v4)])) (hp' := xW B m) (q := (.lcmp, 1, 0, 0, .null)) rfl (fun _ => rfl) (Nat.le_refl _) ?_
  refine r_if (len := 3) (a := 66) (b := 0) (v0 := .null) (cn := .le) (off := 10) rfl (fun c => ?_) (fun c => ?_)
  · rw [if_pos c] at h
    exact T27_R_9_66 H he F r0 nn hr0 _ _ k2 k18 l0_1 l1_1 l2_1 l3_1 l4_1 l6_1 l7_1 h
  · rw [if_neg (by rw [c]; decide)] at h
    refine q_ll (k := 2) (i := 7) (q := (.lload 7, 2, 0, 0, .null)) rfl (fun _ => rfl) l7_1 ?_
    refine q_sl (k := 2) (i := 4) (q := (.lstore 4, 2, 0, 0, .null)) rfl (fun _ => rfl) (by decide) ?_
    have l0_2 : zld (zs2 lv1 4 (.long w0)) 0 = some (.ref r0) := x_o2 l0_1 rfl rfl rfl
    have l1_2 : zld (zs2 lv1 4 (.long w0)) 1 = some (.ref 9) := x_o2 l1_1 rfl rfl rfl
    have l2_2 : zld (zs2 lv1 4 (.long w0)) 2 = some (.int v2) := x_o2 l2_1 rfl rfl rfl
    have l3_2 : zld (zs2 lv1 4 (.long w0)) 3 = some (.int v3) := x_o2 l3_1 rfl rfl rfl
    have l4_2 : zld (zs2 lv1 4 (.long w0)) 4 = some (.long w0) := zs2_ld _ _ _
    have l6_2 : zld (zs2 lv1 4 (.long w0)) 6 = some (.int v6) := x_o2 l6_1 rfl rfl rfl
    have l7_2 : zld (zs2 lv1 4 (.long w0)) 7 = some (.long w0) := x_o2 l7_1 rfl rfl rfl
    generalize (zs2 lv1 4 (.long w0)) = lv2 at *
    refine q_li (k := 2) (i := 6) (q := (.iload 6, 2, 0, 0, .null)) rfl (fun _ => rfl) l6_2 ?_
    refine q_si (k := 1) (i := 3) (q := (.istore_n 3, 1, 0, 0, .null)) rfl (fun _ => rfl) (by decide) ?_
    have l0_3 : zld (zs1 lv2 3 (.int v6)) 0 = some (.ref r0) := x_o1 l0_2 rfl rfl
    have l1_3 : zld (zs1 lv2 3 (.int v6)) 1 = some (.ref 9) := x_o1 l1_2 rfl rfl
    have l2_3 : zld (zs1 lv2 3 (.int v6)) 2 = some (.int v2) := x_o1 l2_2 rfl rfl
    have l3_3 : zld (zs1 lv2 3 (.int v6)) 3 = some (.int v6) := zs1_ld _ _ _
    have l4_3 : zld (zs1 lv2 3 (.int v6)) 4 = some (.long w0) := x_o1 l4_2 rfl rfl
    have l6_3 : zld (zs1 lv2 3 (.int v6)) 6 = some (.int v6) := x_o1 l6_2 rfl rfl
    have l7_3 : zld (zs1 lv2 3 (.int v6)) 7 = some (.long w0) := x_o1 l7_2 rfl rfl
    generalize (zs1 lv2 3 (.int v6)) = lv3 at *
    exact T27_R_9_66 H he F r0 nn hr0 _ _ k2 k18 l0_3 l1_3 l2_3 l3_3 l4_3 l6_3 l7_3 h
def D27_R_9_83 (F : Nat) (r0 nn : Nat) (g2 : Int32 → xS → Option (Unit × xS)) (v2 : Int32) (v3 : Int32) (v4 : Int64) (v6 : Int32) (m : xS) : Option (Unit × xS) :=
  g2 (v2 + Int32.ofInt 1) m
set_option maxRecDepth 20000 in
theorem T27_R_9_83 {B : zHp} (H : yH0 B) {e : Nat} (he : 6 ≤ e + 1) (F : Nat) (r0 nn : Nat) (hr0 : rlB B r0 nn) (g2 : Int32 → xS → Option (Unit × xS)) (k2 : ∀ {v2 : Int32} {lv : List (Nat × Value)} {m : xS} {x : Unit × xS}, zld lv 0 = some (.ref r0) → zld lv 1 = some (.ref 9) → zld lv 2 = some (.int v2) → g2 v2 m = some x → zR none e 9 none zc27 (2, lv, []) (xW B m) (none, xW B x.2)) {v2 : Int32} {v3 : Int32} {v4 : Int64} {v6 : Int32} {lv : List (Nat × Value)} {m : xS} {x : Unit × xS} (l0 : zld lv 0 = some (.ref r0)) (l1 : zld lv 1 = some (.ref 9)) (l2 : zld lv 2 = some (.int v2)) (l3 : zld lv 3 = some (.int v3)) (l4 : zld lv 4 = some (.long v4)) (l6 : zld lv 6 = some (.int v6)) (h : D27_R_9_83 F r0 nn g2 v2 v3 v4 v6 m = some x) : zR none e 9 none zc27 (83, lv, []) (xW B m) (none, xW B x.2) := by
  unfold D27_R_9_83 at h
  refine q_inc (i := 2) (n := 1) (q := (.iinc 2 1, 3, 0, 0, .null)) rfl (fun _ => rfl) l2 (by decide) ?_
  have l0_1 : zld (zs1 lv 2 (.int (v2 + Int32.ofInt 1))) 0 = some (.ref r0) := x_o1 l0 rfl rfl
  have l1_1 : zld (zs1 lv 2 (.int (v2 + Int32.ofInt 1))) 1 = some (.ref 9) := x_o1 l1 rfl rfl
  have l2_1 : zld (zs1 lv 2 (.int (v2 + Int32.ofInt 1))) 2 = some (.int (v2 + Int32.ofInt 1)) := zs1_ld _ _ _
  have l3_1 : zld (zs1 lv 2 (.int (v2 + Int32.ofInt 1))) 3 = some (.int v3) := x_o1 l3 rfl rfl
  have l4_1 : zld (zs1 lv 2 (.int (v2 + Int32.ofInt 1))) 4 = some (.long v4) := x_o1 l4 rfl rfl
  have l6_1 : zld (zs1 lv 2 (.int (v2 + Int32.ofInt 1))) 6 = some (.int v6) := x_o1 l6 rfl rfl
  generalize (zs1 lv 2 (.int (v2 + Int32.ofInt 1))) = lv1 at *
  refine r_s (fr' := (2, lv1, [])) (hp' := xW B m) (q := (.goto (-84), 3, 2, 0, .null)) rfl (fun _ => rfl) (Nat.le_refl _) ?_
  exact k2 l0_1 l1_1 l2_1 h
def D27_R_9_18 (F : Nat) (r0 nn : Nat) (g2 : Int32 → xS → Option (Unit × xS)) : Nat → Int32 → Int32 → Int64 → Int32 → xS → Option (Unit × xS)
  | 0, _, _, _, _, _ => none
  | f + 1, v2, v3, v4, v6, m =>
    (D77_9 F m).bind fun q21 =>
      if zcmp .ge v6 q21.1 = true then
        if zcmp .eq v3 (-1) = true then
          D27_R_9_83 F r0 nn g2 v2 v3 v4 v6 q21.2
        else
          (D102_9 F v2 v3 q21.2).bind fun q80 =>
            D27_R_9_83 F r0 nn g2 v2 v3 v4 v6 q80.2
      else
        (D101_9 F v2 v6 q21.2).bind fun q31 =>
          if zcmp .eq q31.1 0 = true then
            D27_R_9_49 F r0 nn g2 (D27_R_9_18 F r0 nn g2 f) v2 v3 v4 v6 0 q31.2
          else
            (D28_R_9 F r0 nn v2 v6 q31.2).bind fun q42 =>
              D27_R_9_49 F r0 nn g2 (D27_R_9_18 F r0 nn g2 f) v2 v3 v4 v6 q42.1 q42.2
set_option maxRecDepth 20000 in
theorem T27_R_9_18 {B : zHp} (H : yH0 B) {e : Nat} (he : 6 ≤ e + 1) (F : Nat) (r0 nn : Nat) (hr0 : rlB B r0 nn) (g2 : Int32 → xS → Option (Unit × xS)) (k2 : ∀ {v2 : Int32} {lv : List (Nat × Value)} {m : xS} {x : Unit × xS}, zld lv 0 = some (.ref r0) → zld lv 1 = some (.ref 9) → zld lv 2 = some (.int v2) → g2 v2 m = some x → zR none e 9 none zc27 (2, lv, []) (xW B m) (none, xW B x.2)) : ∀ (f : Nat) {v2 : Int32} {v3 : Int32} {v4 : Int64} {v6 : Int32} {lv : List (Nat × Value)} {m : xS} {x : Unit × xS}, zld lv 0 = some (.ref r0) → zld lv 1 = some (.ref 9) → zld lv 2 = some (.int v2) → zld lv 3 = some (.int v3) → zld lv 4 = some (.long v4) → zld lv 6 = some (.int v6) → D27_R_9_18 F r0 nn g2 f v2 v3 v4 v6 m = some x → zR none e 9 none zc27 (18, lv, []) (xW B m) (none, xW B x.2) := by
  intro f
  induction f with
  | zero => intro v2 v3 v4 v6 lv m x l0 l1 l2 l3 l4 l6 h; cases h
  | succ f ih =>
    intro v2 v3 v4 v6 lv m x l0 l1 l2 l3 l4 l6 h
    unfold D27_R_9_18 at h
    refine q_li (k := 2) (i := 6) (q := (.iload 6, 2, 0, 0, .null)) rfl (fun _ => rfl) l6 ?_
    refine q_lr (k := 1) (i := 1) (q := (.aload_n 1, 1, 0, 0, .null)) rfl (fun _ => rfl) l1 ?_
    obtain ⟨q21, h21, h⟩ := xbind h
    refine r_call (ix := 9) (as := []) (rest := [.int v6]) (rv := some (.int q21.1)) (hp' := xW B q21.2) (pc := 21) rfl xr77 rfl rfl rfl (xkd H (by decide)) (Nat.le_of_ble_eq_true rfl) (Z77_9 H h21 (by omega)) (Nat.le_refl _) ?_
    refine r_ifc (len := 3) (a := 72) (b := 0) (v0 := .null) (cn := .ge) (off := 48) rfl (fun c => ?_) (fun c => ?_)
    · rw [if_pos c] at h
      refine q_li (k := 1) (i := 3) (q := (.iload_n 3, 1, 0, 0, .null)) rfl (fun _ => rfl) l3 ?_
      refine r_s (fr' := (74, lv, [.int (-1), .int v3])) (hp' := xW B q21.2) (q := (.iconst (-1), 1, 0, 0, .null)) rfl (fun _ => rfl) (Nat.le_refl _) ?_
      refine r_ifc (len := 3) (a := 83) (b := 0) (v0 := .null) (cn := .eq) (off := 9) rfl (fun c => ?_) (fun c => ?_)
      · rw [if_pos c] at h
        exact T27_R_9_83 H he F r0 nn hr0 _ k2 l0 l1 l2 l3 l4 l6 h
      · rw [if_neg (by rw [c]; decide)] at h
        refine q_lr (k := 1) (i := 1) (q := (.aload_n 1, 1, 0, 0, .null)) rfl (fun _ => rfl) l1 ?_
        refine q_li (k := 1) (i := 2) (q := (.iload_n 2, 1, 0, 0, .null)) rfl (fun _ => rfl) l2 ?_
        refine q_li (k := 1) (i := 3) (q := (.iload_n 3, 1, 0, 0, .null)) rfl (fun _ => rfl) l3 ?_
        obtain ⟨q80, h80, h⟩ := xbind h
        refine r_call (ix := 9) (as := [.int v2, .int v3]) (rest := []) (rv := none) (hp' := xW B q80.2) (pc := 80) rfl xr102 rfl rfl rfl (xkd H (by decide)) (Nat.le_of_ble_eq_true rfl) (Z102_9 H h80 (by omega)) (Nat.le_refl _) ?_
        exact T27_R_9_83 H he F r0 nn hr0 _ k2 l0 l1 l2 l3 l4 l6 h
    · rw [if_neg (by rw [c]; decide)] at h
      refine q_lr (k := 1) (i := 1) (q := (.aload_n 1, 1, 0, 0, .null)) rfl (fun _ => rfl) l1 ?_
      refine q_li (k := 1) (i := 2) (q := (.iload_n 2, 1, 0, 0, .null)) rfl (fun _ => rfl) l2 ?_
      refine q_li (k := 2) (i := 6) (q := (.iload 6, 2, 0, 0, .null)) rfl (fun _ => rfl) l6 ?_
      obtain ⟨q31, h31, h⟩ := xbind h
      refine r_call (ix := 9) (as := [.int v2, .int v6]) (rest := []) (rv := some (.int q31.1)) (hp' := xW B q31.2) (pc := 31) rfl xr101 rfl rfl rfl (xkd H (by decide)) (Nat.le_of_ble_eq_true rfl) (Z101_9 H h31 (by omega)) (Nat.le_refl _) ?_
      refine r_if (len := 3) (a := 48) (b := 0) (v0 := .null) (cn := .eq) (off := 14) rfl (fun c => ?_) (fun c => ?_)
      · rw [if_pos c] at h
        refine r_s (fr' := (49, lv, [.long 0])) (hp' := xW B q31.2) (q := (.lconst 0, 1, 0, 0, .null)) rfl (fun _ => rfl) (Nat.le_refl _) ?_
        exact T27_R_9_49 H he F r0 nn hr0 _ _ k2 ih l0 l1 l2 l3 l4 l6 h
      · rw [if_neg (by rw [c]; decide)] at h
        refine q_lr (k := 1) (i := 0) (q := (.aload_n 0, 1, 0, 0, .null)) rfl (fun _ => rfl) l0 ?_
        refine q_lr (k := 1) (i := 1) (q := (.aload_n 1, 1, 0, 0, .null)) rfl (fun _ => rfl) l1 ?_
        refine q_li (k := 1) (i := 2) (q := (.iload_n 2, 1, 0, 0, .null)) rfl (fun _ => rfl) l2 ?_
        refine q_li (k := 2) (i := 6) (q := (.iload 6, 2, 0, 0, .null)) rfl (fun _ => rfl) l6 ?_
        obtain ⟨q42, h42, h⟩ := xbind h
        refine r_call (ix := r0) (as := [.ref 9, .int v2, .int v6]) (rest := []) (rv := some (.long q42.1)) (hp' := xW B q42.2) (pc := 42) rfl xr28 rfl rfl rfl (r_rkd hr0) (Nat.le_of_ble_eq_true rfl) (Z28_R_9 H hr0 h42 (by omega)) (Nat.le_refl _) ?_
        refine r_s (fr' := (49, lv, [.long q42.1])) (hp' := xW B q42.2) (q := (.goto 4, 3, 49, 0, .null)) rfl (fun _ => rfl) (Nat.le_refl _) ?_
        exact T27_R_9_49 H he F r0 nn hr0 _ _ k2 ih l0 l1 l2 l3 l4 l6 h
def D27_R_9_2 (F : Nat) (r0 nn : Nat) : Nat → Int32 → xS → Option (Unit × xS)
  | 0, _, _ => none
  | f + 1, v2, m =>
    (D79_9 F m).bind fun q4 =>
      if zcmp .ge v2 q4.1 = true then
        some ((), q4.2)
      else
        D27_R_9_18 F r0 nn (D27_R_9_2 F r0 nn f) F v2 (-1) 0 0 q4.2
set_option maxRecDepth 20000 in
theorem T27_R_9_2 {B : zHp} (H : yH0 B) {e : Nat} (he : 6 ≤ e + 1) (F : Nat) (r0 nn : Nat) (hr0 : rlB B r0 nn) : ∀ (f : Nat) {v2 : Int32} {lv : List (Nat × Value)} {m : xS} {x : Unit × xS}, zld lv 0 = some (.ref r0) → zld lv 1 = some (.ref 9) → zld lv 2 = some (.int v2) → D27_R_9_2 F r0 nn f v2 m = some x → zR none e 9 none zc27 (2, lv, []) (xW B m) (none, xW B x.2) := by
  intro f
  induction f with
  | zero => intro v2 lv m x l0 l1 l2 h; cases h
  | succ f ih =>
    intro v2 lv m x l0 l1 l2 h
    unfold D27_R_9_2 at h
    refine q_li (k := 1) (i := 2) (q := (.iload_n 2, 1, 0, 0, .null)) rfl (fun _ => rfl) l2 ?_
    refine q_lr (k := 1) (i := 1) (q := (.aload_n 1, 1, 0, 0, .null)) rfl (fun _ => rfl) l1 ?_
    obtain ⟨q4, h4, h⟩ := xbind h
    refine r_call (ix := 9) (as := []) (rest := [.int v2]) (rv := some (.int q4.1)) (hp' := xW B q4.2) (pc := 4) rfl xr79 rfl rfl rfl (xkd H (by decide)) (Nat.le_of_ble_eq_true rfl) (Z79_9 H h4 (by omega)) (Nat.le_refl _) ?_
    refine r_ifc (len := 3) (a := 89) (b := 0) (v0 := .null) (cn := .ge) (off := 82) rfl (fun c => ?_) (fun c => ?_)
    · rw [if_pos c] at h
      obtain rfl := Option.some.inj h
      exact r_ret (q := (.return_, 1, 0, 0, .null)) rfl rfl (fun _ => rfl)
    · rw [if_neg (by rw [c]; decide)] at h
      refine r_s (fr' := (11, lv, [.int (-1)])) (hp' := xW B q4.2) (q := (.iconst (-1), 1, 0, 0, .null)) rfl (fun _ => rfl) (Nat.le_refl _) ?_
      refine q_si (k := 1) (i := 3) (q := (.istore_n 3, 1, 0, 0, .null)) rfl (fun _ => rfl) (by decide) ?_
      have l0_1 : zld (zs1 lv 3 (.int (-1))) 0 = some (.ref r0) := x_o1 l0 rfl rfl
      have l1_1 : zld (zs1 lv 3 (.int (-1))) 1 = some (.ref 9) := x_o1 l1 rfl rfl
      have l2_1 : zld (zs1 lv 3 (.int (-1))) 2 = some (.int v2) := x_o1 l2 rfl rfl
      have l3_1 : zld (zs1 lv 3 (.int (-1))) 3 = some (.int (-1)) := zs1_ld _ _ _
      generalize (zs1 lv 3 (.int (-1))) = lv1 at *
      refine r_s (fr' := (13, lv1, [.long 0])) (hp' := xW B q4.2) (q := (.lconst 0, 1, 0, 0, .null)) rfl (fun _ => rfl) (Nat.le_refl _) ?_
      refine q_sl (k := 2) (i := 4) (q := (.lstore 4, 2, 0, 0, .null)) rfl (fun _ => rfl) (by decide) ?_
      have l0_2 : zld (zs2 lv1 4 (.long 0)) 0 = some (.ref r0) := x_o2 l0_1 rfl rfl rfl
      have l1_2 : zld (zs2 lv1 4 (.long 0)) 1 = some (.ref 9) := x_o2 l1_1 rfl rfl rfl
      have l2_2 : zld (zs2 lv1 4 (.long 0)) 2 = some (.int v2) := x_o2 l2_1 rfl rfl rfl
      have l3_2 : zld (zs2 lv1 4 (.long 0)) 3 = some (.int (-1)) := x_o2 l3_1 rfl rfl rfl
      have l4_2 : zld (zs2 lv1 4 (.long 0)) 4 = some (.long 0) := zs2_ld _ _ _
      generalize (zs2 lv1 4 (.long 0)) = lv2 at *
      refine r_s (fr' := (16, lv2, [.int 0])) (hp' := xW B q4.2) (q := (.iconst 0, 1, 0, 0, .null)) rfl (fun _ => rfl) (Nat.le_refl _) ?_
      refine q_si (k := 2) (i := 6) (q := (.istore 6, 2, 0, 0, .null)) rfl (fun _ => rfl) (by decide) ?_
      have l0_3 : zld (zs1 lv2 6 (.int 0)) 0 = some (.ref r0) := x_o1 l0_2 rfl rfl
      have l1_3 : zld (zs1 lv2 6 (.int 0)) 1 = some (.ref 9) := x_o1 l1_2 rfl rfl
      have l2_3 : zld (zs1 lv2 6 (.int 0)) 2 = some (.int v2) := x_o1 l2_2 rfl rfl
      have l3_3 : zld (zs1 lv2 6 (.int 0)) 3 = some (.int (-1)) := x_o1 l3_2 rfl rfl
      have l4_3 : zld (zs1 lv2 6 (.int 0)) 4 = some (.long 0) := x_o1 l4_2 rfl rfl
      have l6_3 : zld (zs1 lv2 6 (.int 0)) 6 = some (.int 0) := zs1_ld _ _ _
      generalize (zs1 lv2 6 (.int 0)) = lv3 at *
      exact T27_R_9_18 H he F r0 nn hr0 _ ih F l0_3 l1_3 l2_3 l3_3 l4_3 l6_3 h
def D27_R_9 (F : Nat) (r0 nn : Nat) (m : xS) : Option (Unit × xS) :=
  D27_R_9_2 F r0 nn F 0 m
set_option maxRecDepth 20000 in
theorem T27_R_9 {B : zHp} (H : yH0 B) {e : Nat} (he : 6 ≤ e + 1) (F : Nat) (r0 nn : Nat) (hr0 : rlB B r0 nn) {lv : List (Nat × Value)} {m : xS} {x : Unit × xS} (l0 : zld lv 0 = some (.ref r0)) (l1 : zld lv 1 = some (.ref 9)) (h : D27_R_9 F r0 nn m = some x) : zR none e 9 none zc27 (0, lv, []) (xW B m) (none, xW B x.2) := by
  unfold D27_R_9 at h
  refine r_s (fr' := (1, lv, [.int 0])) (hp' := xW B m) (q := (.iconst 0, 1, 0, 0, .null)) rfl (fun _ => rfl) (Nat.le_refl _) ?_
  refine q_si (k := 1) (i := 2) (q := (.istore_n 2, 1, 0, 0, .null)) rfl (fun _ => rfl) (by decide) ?_
  have l0_1 : zld (zs1 lv 2 (.int 0)) 0 = some (.ref r0) := x_o1 l0 rfl rfl
  have l1_1 : zld (zs1 lv 2 (.int 0)) 1 = some (.ref 9) := x_o1 l1 rfl rfl
  have l2_1 : zld (zs1 lv 2 (.int 0)) 2 = some (.int 0) := zs1_ld _ _ _
  generalize (zs1 lv 2 (.int 0)) = lv1 at *
  exact T27_R_9_2 H he F r0 nn hr0 F l0_1 l1_1 l2_1 h
set_option maxRecDepth 20000 in
theorem Z27_R_9 {B : zHp} (H : yH0 B) {F : Nat} {r0 nn : Nat} (hr0 : rlB B r0 nn) {m : xS} {x : Unit × xS} (h : D27_R_9 F r0 nn m = some x) {d : Nat} (hd : 6 ≤ d) : zCan d 27 [.ref r0, .ref 9] (xW B m) (none, xW B x.2) := by
  obtain ⟨e, rfl⟩ : ∃ e, d = e + 1 := ⟨d - 1, by omega⟩
  refine zCan_body (nL := 9) (rt := none) (cd := zc27) (xg27) ⟨Nat.le_of_ble_eq_true rfl, by decide⟩ (Nat.le_refl _) ?_
  exact T27_R_9 H hd F r0 nn hr0 rfl rfl h
/-- LentTools.hasRule -/
def D140_0_A_25 (F : Nat) (ru : Int32) (rk : Bool) (r0 nn : Nat) (v1 : Int32) (m : xS) : Option (Int32 × xS) :=
  some (0, m)
set_option maxRecDepth 20000 in
theorem T140_0_A_25 {B : zHp} (H : yH0 B) {e : Nat} (he : 1 ≤ e + 1) (F : Nat) (ru : Int32) (rk : Bool) (r0 nn : Nat) (hra : rk = true → rlA B ru r0 nn) {v1 : Int32} {lv : List (Nat × Value)} {m : xS} {x : Int32 × xS} (l0 : zld lv 0 = some (.ref 0)) (l1 : zld lv 1 = some (.int v1)) (h : D140_0_A_25 F ru rk r0 nn v1 m = some x) : zR none e 2 (some .boolean) zc140 (25, lv, []) (xW B m) (some (.int x.1), xW B x.2) := by
  unfold D140_0_A_25 at h
  refine r_s (fr' := (26, lv, [.int 0])) (hp' := xW B m) (q := (.iconst 0, 1, 0, 0, .null)) rfl (fun _ => rfl) (Nat.le_refl _) ?_
  obtain rfl := Option.some.inj h
  exact q_ri (q := (.ireturn, 1, 0, 0, .null)) rfl (fun _ => rfl) rfl rfl
def D140_0_A (F : Nat) (ru : Int32) (rk : Bool) (r0 nn : Nat) (v1 : Int32) (m : xS) : Option (Int32 × xS) :=
  if zcmp .lt v1 0 = true then
    D140_0_A_25 F ru rk r0 nn v1 m
  else
    if zcmp .ge v1 (m.1 0 8) = true then
      D140_0_A_25 F ru rk r0 nn v1 m
    else
      if (rk && (v1 == ru)) = true then
        some (1, m)
      else none
set_option maxRecDepth 20000 in
theorem T140_0_A {B : zHp} (H : yH0 B) {e : Nat} (he : 1 ≤ e + 1) (F : Nat) (ru : Int32) (rk : Bool) (r0 nn : Nat) (hra : rk = true → rlA B ru r0 nn) {v1 : Int32} {lv : List (Nat × Value)} {m : xS} {x : Int32 × xS} (l0 : zld lv 0 = some (.ref 0)) (l1 : zld lv 1 = some (.int v1)) (h : D140_0_A F ru rk r0 nn v1 m = some x) : zR none e 2 (some .boolean) zc140 (0, lv, []) (xW B m) (some (.int x.1), xW B x.2) := by
  unfold D140_0_A at h
  refine q_li (k := 1) (i := 1) (q := (.iload_n 1, 1, 0, 0, .null)) rfl (fun _ => rfl) l1 ?_
  refine r_if (len := 3) (a := 25) (b := 0) (v0 := .null) (cn := .lt) (off := 24) rfl (fun c => ?_) (fun c => ?_)
  · rw [if_pos c] at h
    exact T140_0_A_25 H he F ru rk r0 nn hra l0 l1 h
  · rw [if_neg (by rw [c]; decide)] at h
    refine q_li (k := 1) (i := 1) (q := (.iload_n 1, 1, 0, 0, .null)) rfl (fun _ => rfl) l1 ?_
    refine q_lr (k := 1) (i := 0) (q := (.aload_n 0, 1, 0, 0, .null)) rfl (fun _ => rfl) l0 ?_
    refine r_gi (v := (m.1 0 8)) H (pc := 6) (i := _) rfl (by decide) (by decide) rfl ?_
    refine r_ifc (len := 3) (a := 25) (b := 0) (v0 := .null) (cn := .ge) (off := 16) rfl (fun c => ?_) (fun c => ?_)
    · rw [if_pos c] at h
      exact T140_0_A_25 H he F ru rk r0 nn hra l0 l1 h
    · rw [if_neg (by rw [c]; decide)] at h
      refine q_lr (k := 1) (i := 0) (q := (.aload_n 0, 1, 0, 0, .null)) rfl (fun _ => rfl) l0 ?_
      refine r_gr (c := 13) H (pc := 13) rfl (by decide) (by decide) ?_
      refine q_li (k := 1) (i := 1) (q := (.iload_n 1, 1, 0, 0, .null)) rfl (fun _ => rfl) l1 ?_
      obtain ⟨c1, h⟩ := xif h
      have hr0 := (hra (Bool.and_eq_true_iff.mp c1).1)
      refine q_raal hr0 (pc := 17) rfl (Bool.and_eq_true_iff.mp c1).2 ?_
      have hr0 := hr0.1
      refine r_s (fr' := (21, lv, [])) (hp' := xW B m) (q := (.ifnull 7, 3, 25, 0, .null)) rfl (fun _ => rfl) (Nat.le_refl _) ?_
      refine r_s (fr' := (22, lv, [.int 1])) (hp' := xW B m) (q := (.iconst 1, 1, 0, 0, .null)) rfl (fun _ => rfl) (Nat.le_refl _) ?_
      refine r_s (fr' := (26, lv, [.int 1])) (hp' := xW B m) (q := (.goto 4, 3, 26, 0, .null)) rfl (fun _ => rfl) (Nat.le_refl _) ?_
      obtain rfl := Option.some.inj h
      exact q_ri (q := (.ireturn, 1, 0, 0, .null)) rfl (fun _ => rfl) rfl rfl
set_option maxRecDepth 20000 in
theorem Z140_0_A {B : zHp} (H : yH0 B) {F : Nat} {ru : Int32} {rk : Bool} {r0 nn : Nat} (hra : rk = true → rlA B ru r0 nn) {a1 : Int32} {m : xS} {x : Int32 × xS} (h : D140_0_A F ru rk r0 nn a1 m = some x) {d : Nat} (hd : 1 ≤ d) : zCan d 140 [.ref 0, .int a1] (xW B m) (some (.int x.1), xW B x.2) := by
  obtain ⟨e, rfl⟩ : ∃ e, d = e + 1 := ⟨d - 1, by omega⟩
  refine zCan_body (nL := 2) (rt := (some .boolean)) (cd := zc140) (xg140) ⟨Nat.le_of_ble_eq_true rfl, by decide⟩ (Nat.le_refl _) ?_
  exact T140_0_A H hd F ru rk r0 nn hra rfl rfl h
/-- LentTools$Village.finishWorks -/
def D109_9_24 (F : Nat) (g2 : Int32 → xS → Option (Unit × xS)) (v1 : Int32) (m : xS) : Option (Unit × xS) :=
  g2 (v1 + Int32.ofInt 1) m
set_option maxRecDepth 20000 in
theorem T109_9_24 {B : zHp} (H : yH0 B) {e : Nat} (he : 6 ≤ e + 1) (F : Nat) (g2 : Int32 → xS → Option (Unit × xS)) (k2 : ∀ {v1 : Int32} {lv : List (Nat × Value)} {m : xS} {x : Unit × xS}, zld lv 0 = some (.ref 9) → zld lv 1 = some (.int v1) → g2 v1 m = some x → zR none e 2 none zc109 (2, lv, []) (xW B m) (none, xW B x.2)) {v1 : Int32} {lv : List (Nat × Value)} {m : xS} {x : Unit × xS} (l0 : zld lv 0 = some (.ref 9)) (l1 : zld lv 1 = some (.int v1)) (h : D109_9_24 F g2 v1 m = some x) : zR none e 2 none zc109 (24, lv, []) (xW B m) (none, xW B x.2) := by
  unfold D109_9_24 at h
  refine q_inc (i := 1) (n := 1) (q := (.iinc 1 1, 3, 0, 0, .null)) rfl (fun _ => rfl) l1 (by decide) ?_
  have l0_1 : zld (zs1 lv 1 (.int (v1 + Int32.ofInt 1))) 0 = some (.ref 9) := x_o1 l0 rfl rfl
  have l1_1 : zld (zs1 lv 1 (.int (v1 + Int32.ofInt 1))) 1 = some (.int (v1 + Int32.ofInt 1)) := zs1_ld _ _ _
  generalize (zs1 lv 1 (.int (v1 + Int32.ofInt 1))) = lv1 at *
  refine r_s (fr' := (2, lv1, [])) (hp' := xW B m) (q := (.goto (-25), 3, 2, 0, .null)) rfl (fun _ => rfl) (Nat.le_refl _) ?_
  exact k2 l0_1 l1_1 h
def D109_9_2 (F : Nat) : Nat → Int32 → xS → Option (Unit × xS)
  | 0, _, _ => none
  | f + 1, v1, m =>
    (D80_9 F m).bind fun q4 =>
      if zcmp .ge v1 q4.1 = true then
        some ((), q4.2)
      else
        (D107_9 F v1 q4.2).bind fun q12 =>
          if zcmp .eq q12.1 0 = true then
            D109_9_24 F (D109_9_2 F f) v1 q12.2
          else
            (D108_9 F v1 q12.2).bind fun q20 =>
              D109_9_24 F (D109_9_2 F f) v1 q20.2
set_option maxRecDepth 20000 in
theorem T109_9_2 {B : zHp} (H : yH0 B) {e : Nat} (he : 6 ≤ e + 1) (F : Nat) : ∀ (f : Nat) {v1 : Int32} {lv : List (Nat × Value)} {m : xS} {x : Unit × xS}, zld lv 0 = some (.ref 9) → zld lv 1 = some (.int v1) → D109_9_2 F f v1 m = some x → zR none e 2 none zc109 (2, lv, []) (xW B m) (none, xW B x.2) := by
  intro f
  induction f with
  | zero => intro v1 lv m x l0 l1 h; cases h
  | succ f ih =>
    intro v1 lv m x l0 l1 h
    unfold D109_9_2 at h
    refine q_li (k := 1) (i := 1) (q := (.iload_n 1, 1, 0, 0, .null)) rfl (fun _ => rfl) l1 ?_
    refine q_lr (k := 1) (i := 0) (q := (.aload_n 0, 1, 0, 0, .null)) rfl (fun _ => rfl) l0 ?_
    obtain ⟨q4, h4, h⟩ := xbind h
    refine r_call (ix := 9) (as := []) (rest := [.int v1]) (rv := some (.int q4.1)) (hp' := xW B q4.2) (pc := 4) rfl xr80 rfl rfl rfl (xkd H (by decide)) (Nat.le_of_ble_eq_true rfl) (Z80_9 H h4 (by omega)) (Nat.le_refl _) ?_
    refine r_ifc (len := 3) (a := 30) (b := 0) (v0 := .null) (cn := .ge) (off := 23) rfl (fun c => ?_) (fun c => ?_)
    · rw [if_pos c] at h
      obtain rfl := Option.some.inj h
      exact r_ret (q := (.return_, 1, 0, 0, .null)) rfl rfl (fun _ => rfl)
    · rw [if_neg (by rw [c]; decide)] at h
      refine q_lr (k := 1) (i := 0) (q := (.aload_n 0, 1, 0, 0, .null)) rfl (fun _ => rfl) l0 ?_
      refine q_li (k := 1) (i := 1) (q := (.iload_n 1, 1, 0, 0, .null)) rfl (fun _ => rfl) l1 ?_
      obtain ⟨q12, h12, h⟩ := xbind h
      refine r_call (ix := 9) (as := [.int v1]) (rest := []) (rv := some (.int q12.1)) (hp' := xW B q12.2) (pc := 12) rfl xr107 rfl rfl rfl (xkd H (by decide)) (Nat.le_of_ble_eq_true rfl) (Z107_9 H h12 (by omega)) (Nat.le_refl _) ?_
      refine r_if (len := 3) (a := 24) (b := 0) (v0 := .null) (cn := .eq) (off := 9) rfl (fun c => ?_) (fun c => ?_)
      · rw [if_pos c] at h
        exact T109_9_24 H he F _ ih l0 l1 h
      · rw [if_neg (by rw [c]; decide)] at h
        refine q_lr (k := 1) (i := 0) (q := (.aload_n 0, 1, 0, 0, .null)) rfl (fun _ => rfl) l0 ?_
        refine q_li (k := 1) (i := 1) (q := (.iload_n 1, 1, 0, 0, .null)) rfl (fun _ => rfl) l1 ?_
        obtain ⟨q20, h20, h⟩ := xbind h
        refine r_call (ix := 9) (as := [.int v1]) (rest := []) (rv := some (.int q20.1)) (hp' := xW B q20.2) (pc := 20) rfl xr108 rfl rfl rfl (xkd H (by decide)) (Nat.le_of_ble_eq_true rfl) (Z108_9 H h20 (by omega)) (Nat.le_refl _) ?_
        refine r_s (fr' := (24, lv, [])) (hp' := xW B q20.2) (q := (.pop, 1, 0, 0, .null)) rfl (fun _ => rfl) (Nat.le_refl _) ?_
        exact T109_9_24 H he F _ ih l0 l1 h
def D109_9 (F : Nat) (m : xS) : Option (Unit × xS) :=
  D109_9_2 F F 0 m
set_option maxRecDepth 20000 in
theorem T109_9 {B : zHp} (H : yH0 B) {e : Nat} (he : 6 ≤ e + 1) (F : Nat) {lv : List (Nat × Value)} {m : xS} {x : Unit × xS} (l0 : zld lv 0 = some (.ref 9)) (h : D109_9 F m = some x) : zR none e 2 none zc109 (0, lv, []) (xW B m) (none, xW B x.2) := by
  unfold D109_9 at h
  refine r_s (fr' := (1, lv, [.int 0])) (hp' := xW B m) (q := (.iconst 0, 1, 0, 0, .null)) rfl (fun _ => rfl) (Nat.le_refl _) ?_
  refine q_si (k := 1) (i := 1) (q := (.istore_n 1, 1, 0, 0, .null)) rfl (fun _ => rfl) (by decide) ?_
  have l0_1 : zld (zs1 lv 1 (.int 0)) 0 = some (.ref 9) := x_o1 l0 rfl rfl
  have l1_1 : zld (zs1 lv 1 (.int 0)) 1 = some (.int 0) := zs1_ld _ _ _
  generalize (zs1 lv 1 (.int 0)) = lv1 at *
  exact T109_9_2 H he F F l0_1 l1_1 h
set_option maxRecDepth 20000 in
theorem Z109_9 {B : zHp} (H : yH0 B) {F : Nat} {m : xS} {x : Unit × xS} (h : D109_9 F m = some x) {d : Nat} (hd : 6 ≤ d) : zCan d 109 [.ref 9] (xW B m) (none, xW B x.2) := by
  obtain ⟨e, rfl⟩ : ∃ e, d = e + 1 := ⟨d - 1, by omega⟩
  refine zCan_body (nL := 2) (rt := none) (cd := zc109) (xg109) ⟨Nat.le_of_ble_eq_true rfl, by decide⟩ (Nat.le_refl _) ?_
  exact T109_9 H hd F rfl h
/-- LentTools.run -/
def D139_0_A_44 (F : Nat) (ru : Int32) (rk : Bool) (r0 nn : Nat) (v1 : Int32) (v2 : Int32) (m : xS) : Option (Int32 × xS) :=
  some ((-1), m)
set_option maxRecDepth 20000 in
theorem T139_0_A_44 {B : zHp} (H : yH0 B) {e : Nat} (he : 7 ≤ e + 1) (F : Nat) (ru : Int32) (rk : Bool) (r0 nn : Nat) (hra : rk = true → rlA B ru r0 nn) {v1 : Int32} {v2 : Int32} {lv : List (Nat × Value)} {m : xS} {x : Int32 × xS} (l0 : zld lv 0 = some (.ref 0)) (l1 : zld lv 1 = some (.int v1)) (l2 : zld lv 2 = some (.int v2)) (h : D139_0_A_44 F ru rk r0 nn v1 v2 m = some x) : zR none e 5 (some .int) zc139 (44, lv, []) (xW B m) (some (.int x.1), xW B x.2) := by
  unfold D139_0_A_44 at h
  refine r_s (fr' := (45, lv, [.int (-1)])) (hp' := xW B m) (q := (.iconst (-1), 1, 0, 0, .null)) rfl (fun _ => rfl) (Nat.le_refl _) ?_
  obtain rfl := Option.some.inj h
  exact q_ri (q := (.ireturn, 1, 0, 0, .null)) rfl (fun _ => rfl) rfl rfl
def D139_0_A_57 (F : Nat) (ru : Int32) (rk : Bool) (r0 nn : Nat) : Nat → Int32 → Int32 → Int32 → Int32 → xS → Option (Int32 × xS)
  | 0, _, _, _, _, _ => none
  | f + 1, v1, v2, v3, v4, m =>
    if zcmp .ge v4 v2 = true then
      (D15_14 F m).bind fun q100 =>
        (D82_9 F q100.2).bind fun q107 =>
          some ((q107.1 - v3), q107.2)
    else
      if (rk && (v1 == ru)) = true then
        (D27_R_9 F r0 nn m).bind fun q73 =>
          (D109_9 F q73.2).bind fun q80 =>
            (D112_9 F q80.2).bind fun q87 =>
              D139_0_A_57 F ru rk r0 nn f v1 v2 v3 (v4 + Int32.ofInt 1) q87.2
      else none
set_option maxRecDepth 20000 in
theorem T139_0_A_57 {B : zHp} (H : yH0 B) {e : Nat} (he : 7 ≤ e + 1) (F : Nat) (ru : Int32) (rk : Bool) (r0 nn : Nat) (hra : rk = true → rlA B ru r0 nn) : ∀ (f : Nat) {v1 : Int32} {v2 : Int32} {v3 : Int32} {v4 : Int32} {lv : List (Nat × Value)} {m : xS} {x : Int32 × xS}, zld lv 0 = some (.ref 0) → zld lv 1 = some (.int v1) → zld lv 2 = some (.int v2) → zld lv 3 = some (.int v3) → zld lv 4 = some (.int v4) → D139_0_A_57 F ru rk r0 nn f v1 v2 v3 v4 m = some x → zR none e 5 (some .int) zc139 (57, lv, []) (xW B m) (some (.int x.1), xW B x.2) := by
  intro f
  induction f with
  | zero => intro v1 v2 v3 v4 lv m x l0 l1 l2 l3 l4 h; cases h
  | succ f ih =>
    intro v1 v2 v3 v4 lv m x l0 l1 l2 l3 l4 h
    unfold D139_0_A_57 at h
    refine q_li (k := 2) (i := 4) (q := (.iload 4, 2, 0, 0, .null)) rfl (fun _ => rfl) l4 ?_
    refine q_li (k := 1) (i := 2) (q := (.iload_n 2, 1, 0, 0, .null)) rfl (fun _ => rfl) l2 ?_
    refine r_ifc (len := 3) (a := 96) (b := 0) (v0 := .null) (cn := .ge) (off := 36) rfl (fun c => ?_) (fun c => ?_)
    · rw [if_pos c] at h
      refine q_lr (k := 1) (i := 0) (q := (.aload_n 0, 1, 0, 0, .null)) rfl (fun _ => rfl) l0 ?_
      refine r_gr (c := 14) H (pc := 97) rfl (by decide) (by decide) ?_
      obtain ⟨q100, h100, h⟩ := xbind h
      refine r_call (ix := 14) (as := []) (rest := []) (rv := none) (hp' := xW B q100.2) (pc := 100) rfl xr15 rfl rfl rfl (xkd H (by decide)) (Nat.le_of_ble_eq_true rfl) (Z15_14 H h100 (by omega)) (Nat.le_refl _) ?_
      refine q_lr (k := 1) (i := 0) (q := (.aload_n 0, 1, 0, 0, .null)) rfl (fun _ => rfl) l0 ?_
      refine r_gr (c := 9) H (pc := 104) rfl (by decide) (by decide) ?_
      obtain ⟨q107, h107, h⟩ := xbind h
      refine r_call (ix := 9) (as := []) (rest := []) (rv := some (.int q107.1)) (hp' := xW B q107.2) (pc := 107) rfl xr82 rfl rfl rfl (xkd H (by decide)) (Nat.le_of_ble_eq_true rfl) (Z82_9 H h107 (by omega)) (Nat.le_refl _) ?_
      refine q_li (k := 1) (i := 3) (q := (.iload_n 3, 1, 0, 0, .null)) rfl (fun _ => rfl) l3 ?_
      refine r_s (fr' := (112, lv, [.int (q107.1 - v3)])) (hp' := xW B q107.2) (q := (.isub, 1, 0, 0, .null)) rfl (fun _ => rfl) (Nat.le_refl _) ?_
      obtain rfl := Option.some.inj h
      exact q_ri (q := (.ireturn, 1, 0, 0, .null)) rfl (fun _ => rfl) rfl rfl
    · rw [if_neg (by rw [c]; decide)] at h
      refine q_lr (k := 1) (i := 0) (q := (.aload_n 0, 1, 0, 0, .null)) rfl (fun _ => rfl) l0 ?_
      refine r_gr (c := 13) H (pc := 64) rfl (by decide) (by decide) ?_
      refine q_li (k := 1) (i := 1) (q := (.iload_n 1, 1, 0, 0, .null)) rfl (fun _ => rfl) l1 ?_
      obtain ⟨c1, h⟩ := xif h
      have hr0 := (hra (Bool.and_eq_true_iff.mp c1).1)
      refine q_raal hr0 (pc := 68) rfl (Bool.and_eq_true_iff.mp c1).2 ?_
      have hr0 := hr0.1
      refine q_lr (k := 1) (i := 0) (q := (.aload_n 0, 1, 0, 0, .null)) rfl (fun _ => rfl) l0 ?_
      refine r_gr (c := 9) H (pc := 70) rfl (by decide) (by decide) ?_
      obtain ⟨q73, h73, h⟩ := xbind h
      refine r_call (ix := r0) (as := [.ref 9]) (rest := []) (rv := none) (hp' := xW B q73.2) (pc := 73) rfl xr27 rfl rfl rfl (r_rkd hr0) (Nat.le_of_ble_eq_true rfl) (Z27_R_9 H hr0 h73 (by omega)) (Nat.le_refl _) ?_
      refine q_lr (k := 1) (i := 0) (q := (.aload_n 0, 1, 0, 0, .null)) rfl (fun _ => rfl) l0 ?_
      refine r_gr (c := 9) H (pc := 77) rfl (by decide) (by decide) ?_
      obtain ⟨q80, h80, h⟩ := xbind h
      refine r_call (ix := 9) (as := []) (rest := []) (rv := none) (hp' := xW B q80.2) (pc := 80) rfl xr109 rfl rfl rfl (xkd H (by decide)) (Nat.le_of_ble_eq_true rfl) (Z109_9 H h80 (by omega)) (Nat.le_refl _) ?_
      refine q_lr (k := 1) (i := 0) (q := (.aload_n 0, 1, 0, 0, .null)) rfl (fun _ => rfl) l0 ?_
      refine r_gr (c := 9) H (pc := 84) rfl (by decide) (by decide) ?_
      obtain ⟨q87, h87, h⟩ := xbind h
      refine r_call (ix := 9) (as := []) (rest := []) (rv := none) (hp' := xW B q87.2) (pc := 87) rfl xr112 rfl rfl rfl (xkd H (by decide)) (Nat.le_of_ble_eq_true rfl) (Z112_9 H h87 (by omega)) (Nat.le_refl _) ?_
      refine q_inc (i := 4) (n := 1) (q := (.iinc 4 1, 3, 0, 0, .null)) rfl (fun _ => rfl) l4 (by decide) ?_
      have l0_2 : zld (zs1 lv 4 (.int (v4 + Int32.ofInt 1))) 0 = some (.ref 0) := x_o1 l0 rfl rfl
      have l1_2 : zld (zs1 lv 4 (.int (v4 + Int32.ofInt 1))) 1 = some (.int v1) := x_o1 l1 rfl rfl
      have l2_2 : zld (zs1 lv 4 (.int (v4 + Int32.ofInt 1))) 2 = some (.int v2) := x_o1 l2 rfl rfl
      have l3_2 : zld (zs1 lv 4 (.int (v4 + Int32.ofInt 1))) 3 = some (.int v3) := x_o1 l3 rfl rfl
      have l4_2 : zld (zs1 lv 4 (.int (v4 + Int32.ofInt 1))) 4 = some (.int (v4 + Int32.ofInt 1)) := zs1_ld _ _ _
      generalize (zs1 lv 4 (.int (v4 + Int32.ofInt 1))) = lv2 at *
      refine r_s (fr' := (57, lv2, [])) (hp' := xW B q87.2) (q := (.goto (-36), 3, 57, 0, .null)) rfl (fun _ => rfl) (Nat.le_refl _) ?_
      exact ih l0_2 l1_2 l2_2 l3_2 l4_2 h
def D139_0_A (F : Nat) (ru : Int32) (rk : Bool) (r0 nn : Nat) (v1 : Int32) (v2 : Int32) (m : xS) : Option (Int32 × xS) :=
  (D76_9 F m).bind fun q4 =>
    if zcmp .eq q4.1 0 = true then
      D139_0_A_44 F ru rk r0 nn v1 v2 q4.2
    else
      (D140_0_A F ru rk r0 nn v1 q4.2).bind fun q12 =>
        if zcmp .eq q12.1 0 = true then
          D139_0_A_44 F ru rk r0 nn v1 v2 q12.2
        else
          if zcmp .lt v2 1 = true then
            D139_0_A_44 F ru rk r0 nn v1 v2 q12.2
          else
            if zcmp .gt v2 60 = true then
              D139_0_A_44 F ru rk r0 nn v1 v2 q12.2
            else
              (D81_9 F q12.2).bind fun q33 =>
                if zcmp .le (q33.1 + v2) 999 = true then
                  (D82_9 F q33.2).bind fun q50 =>
                    D139_0_A_57 F ru rk r0 nn F v1 v2 q50.1 0 q50.2
                else
                  D139_0_A_44 F ru rk r0 nn v1 v2 q33.2
set_option maxRecDepth 20000 in
theorem T139_0_A {B : zHp} (H : yH0 B) {e : Nat} (he : 7 ≤ e + 1) (F : Nat) (ru : Int32) (rk : Bool) (r0 nn : Nat) (hra : rk = true → rlA B ru r0 nn) {v1 : Int32} {v2 : Int32} {lv : List (Nat × Value)} {m : xS} {x : Int32 × xS} (l0 : zld lv 0 = some (.ref 0)) (l1 : zld lv 1 = some (.int v1)) (l2 : zld lv 2 = some (.int v2)) (h : D139_0_A F ru rk r0 nn v1 v2 m = some x) : zR none e 5 (some .int) zc139 (0, lv, []) (xW B m) (some (.int x.1), xW B x.2) := by
  unfold D139_0_A at h
  refine q_lr (k := 1) (i := 0) (q := (.aload_n 0, 1, 0, 0, .null)) rfl (fun _ => rfl) l0 ?_
  refine r_gr (c := 9) H (pc := 1) rfl (by decide) (by decide) ?_
  obtain ⟨q4, h4, h⟩ := xbind h
  refine r_call (ix := 9) (as := []) (rest := []) (rv := some (.int q4.1)) (hp' := xW B q4.2) (pc := 4) rfl xr76 rfl rfl rfl (xkd H (by decide)) (Nat.le_of_ble_eq_true rfl) (Z76_9 H h4 (by omega)) (Nat.le_refl _) ?_
  refine r_if (len := 3) (a := 44) (b := 0) (v0 := .null) (cn := .eq) (off := 37) rfl (fun c => ?_) (fun c => ?_)
  · rw [if_pos c] at h
    exact T139_0_A_44 H he F ru rk r0 nn hra l0 l1 l2 h
  · rw [if_neg (by rw [c]; decide)] at h
    refine q_lr (k := 1) (i := 0) (q := (.aload_n 0, 1, 0, 0, .null)) rfl (fun _ => rfl) l0 ?_
    refine q_li (k := 1) (i := 1) (q := (.iload_n 1, 1, 0, 0, .null)) rfl (fun _ => rfl) l1 ?_
    obtain ⟨q12, h12, h⟩ := xbind h
    refine r_call (ix := 0) (as := [.int v1]) (rest := []) (rv := some (.int q12.1)) (hp' := xW B q12.2) (pc := 12) rfl xr140 rfl rfl rfl (xkd H (by decide)) (Nat.le_of_ble_eq_true rfl) (Z140_0_A H hra h12 (by omega)) (Nat.le_refl _) ?_
    refine r_if (len := 3) (a := 44) (b := 0) (v0 := .null) (cn := .eq) (off := 29) rfl (fun c => ?_) (fun c => ?_)
    · rw [if_pos c] at h
      exact T139_0_A_44 H he F ru rk r0 nn hra l0 l1 l2 h
    · rw [if_neg (by rw [c]; decide)] at h
      refine q_li (k := 1) (i := 2) (q := (.iload_n 2, 1, 0, 0, .null)) rfl (fun _ => rfl) l2 ?_
      refine r_s (fr' := (20, lv, [.int 1, .int v2])) (hp' := xW B q12.2) (q := (.iconst 1, 1, 0, 0, .null)) rfl (fun _ => rfl) (Nat.le_refl _) ?_
      refine r_ifc (len := 3) (a := 44) (b := 0) (v0 := .null) (cn := .lt) (off := 24) rfl (fun c => ?_) (fun c => ?_)
      · rw [if_pos c] at h
        exact T139_0_A_44 H he F ru rk r0 nn hra l0 l1 l2 h
      · rw [if_neg (by rw [c]; decide)] at h
        refine q_li (k := 1) (i := 2) (q := (.iload_n 2, 1, 0, 0, .null)) rfl (fun _ => rfl) l2 ?_
        refine r_s (fr' := (26, lv, [.int 60, .int v2])) (hp' := xW B q12.2) (q := (.bipush 60, 2, 0, 0, .null)) rfl (fun _ => rfl) (Nat.le_refl _) ?_
        refine r_ifc (len := 3) (a := 44) (b := 0) (v0 := .null) (cn := .gt) (off := 18) rfl (fun c => ?_) (fun c => ?_)
        · rw [if_pos c] at h
          exact T139_0_A_44 H he F ru rk r0 nn hra l0 l1 l2 h
        · rw [if_neg (by rw [c]; decide)] at h
          refine q_lr (k := 1) (i := 0) (q := (.aload_n 0, 1, 0, 0, .null)) rfl (fun _ => rfl) l0 ?_
          refine r_gr (c := 9) H (pc := 30) rfl (by decide) (by decide) ?_
          obtain ⟨q33, h33, h⟩ := xbind h
          refine r_call (ix := 9) (as := []) (rest := []) (rv := some (.int q33.1)) (hp' := xW B q33.2) (pc := 33) rfl xr81 rfl rfl rfl (xkd H (by decide)) (Nat.le_of_ble_eq_true rfl) (Z81_9 H h33 (by omega)) (Nat.le_refl _) ?_
          refine q_li (k := 1) (i := 2) (q := (.iload_n 2, 1, 0, 0, .null)) rfl (fun _ => rfl) l2 ?_
          refine r_s (fr' := (38, lv, [.int (q33.1 + v2)])) (hp' := xW B q33.2) (q := (.iadd, 1, 0, 0, .null)) rfl (fun _ => rfl) (Nat.le_refl _) ?_
          refine r_s (fr' := (41, lv, [.int 999, .int (q33.1 + v2)])) (hp' := xW B q33.2) (q := (.sipush 999, 3, 0, 0, .null)) rfl (fun _ => rfl) (Nat.le_refl _) ?_
          refine r_ifc (len := 3) (a := 46) (b := 0) (v0 := .null) (cn := .le) (off := 5) rfl (fun c => ?_) (fun c => ?_)
          · rw [if_pos c] at h
            refine q_lr (k := 1) (i := 0) (q := (.aload_n 0, 1, 0, 0, .null)) rfl (fun _ => rfl) l0 ?_
            refine r_gr (c := 9) H (pc := 47) rfl (by decide) (by decide) ?_
            obtain ⟨q50, h50, h⟩ := xbind h
            refine r_call (ix := 9) (as := []) (rest := []) (rv := some (.int q50.1)) (hp' := xW B q50.2) (pc := 50) rfl xr82 rfl rfl rfl (xkd H (by decide)) (Nat.le_of_ble_eq_true rfl) (Z82_9 H h50 (by omega)) (Nat.le_refl _) ?_
            refine q_si (k := 1) (i := 3) (q := (.istore_n 3, 1, 0, 0, .null)) rfl (fun _ => rfl) (by decide) ?_
            have l0_1 : zld (zs1 lv 3 (.int q50.1)) 0 = some (.ref 0) := x_o1 l0 rfl rfl
            have l1_1 : zld (zs1 lv 3 (.int q50.1)) 1 = some (.int v1) := x_o1 l1 rfl rfl
            have l2_1 : zld (zs1 lv 3 (.int q50.1)) 2 = some (.int v2) := x_o1 l2 rfl rfl
            have l3_1 : zld (zs1 lv 3 (.int q50.1)) 3 = some (.int q50.1) := zs1_ld _ _ _
            generalize (zs1 lv 3 (.int q50.1)) = lv1 at *
            refine r_s (fr' := (55, lv1, [.int 0])) (hp' := xW B q50.2) (q := (.iconst 0, 1, 0, 0, .null)) rfl (fun _ => rfl) (Nat.le_refl _) ?_
            refine q_si (k := 2) (i := 4) (q := (.istore 4, 2, 0, 0, .null)) rfl (fun _ => rfl) (by decide) ?_
            have l0_2 : zld (zs1 lv1 4 (.int 0)) 0 = some (.ref 0) := x_o1 l0_1 rfl rfl
            have l1_2 : zld (zs1 lv1 4 (.int 0)) 1 = some (.int v1) := x_o1 l1_1 rfl rfl
            have l2_2 : zld (zs1 lv1 4 (.int 0)) 2 = some (.int v2) := x_o1 l2_1 rfl rfl
            have l3_2 : zld (zs1 lv1 4 (.int 0)) 3 = some (.int q50.1) := x_o1 l3_1 rfl rfl
            have l4_2 : zld (zs1 lv1 4 (.int 0)) 4 = some (.int 0) := zs1_ld _ _ _
            generalize (zs1 lv1 4 (.int 0)) = lv2 at *
            exact T139_0_A_57 H he F ru rk r0 nn hra F l0_2 l1_2 l2_2 l3_2 l4_2 h
          · rw [if_neg (by rw [c]; decide)] at h
            exact T139_0_A_44 H he F ru rk r0 nn hra l0 l1 l2 h
set_option maxRecDepth 20000 in
theorem Z139_0_A {B : zHp} (H : yH0 B) {F : Nat} {ru : Int32} {rk : Bool} {r0 nn : Nat} (hra : rk = true → rlA B ru r0 nn) {a1 : Int32} {a2 : Int32} {m : xS} {x : Int32 × xS} (h : D139_0_A F ru rk r0 nn a1 a2 m = some x) {d : Nat} (hd : 7 ≤ d) : zCan d 139 [.ref 0, .int a1, .int a2] (xW B m) (some (.int x.1), xW B x.2) := by
  obtain ⟨e, rfl⟩ : ∃ e, d = e + 1 := ⟨d - 1, by omega⟩
  refine zCan_body (nL := 5) (rt := (some .int)) (cd := zc139) (xg139) ⟨Nat.le_of_ble_eq_true rfl, by decide⟩ (Nat.le_refl _) ?_
  exact T139_0_A H hd F ru rk r0 nn hra rfl rfl rfl h
/-- LentToolsModel.isRule -/
def D199_16 (F : Nat) (v1 : Int32) (m : xS) : Option (Int32 × xS) :=
  some (0, m)
set_option maxRecDepth 20000 in
theorem T199_16 {B : zHp} (H : yH0 B) {e : Nat} (he : 1 ≤ e + 1) (F : Nat) {v1 : Int32} {lv : List (Nat × Value)} {m : xS} {x : Int32 × xS} (l0 : zld lv 0 = some (.ref 70)) (l1 : zld lv 1 = some (.int v1)) (h : D199_16 F v1 m = some x) : zR none e 2 (some .boolean) zc199 (16, lv, []) (xW B m) (some (.int x.1), xW B x.2) := by
  unfold D199_16 at h
  refine r_s (fr' := (17, lv, [.int 0])) (hp' := xW B m) (q := (.iconst 0, 1, 0, 0, .null)) rfl (fun _ => rfl) (Nat.le_refl _) ?_
  obtain rfl := Option.some.inj h
  exact q_ri (q := (.ireturn, 1, 0, 0, .null)) rfl (fun _ => rfl) rfl rfl
def D199 (F : Nat) (v1 : Int32) (m : xS) : Option (Int32 × xS) :=
  if zcmp .lt v1 0 = true then
    D199_16 F v1 m
  else
    if zcmp .ge v1 (m.1 70 2) = true then
      D199_16 F v1 m
    else
      some (1, m)
set_option maxRecDepth 20000 in
theorem T199 {B : zHp} (H : yH0 B) {e : Nat} (he : 1 ≤ e + 1) (F : Nat) {v1 : Int32} {lv : List (Nat × Value)} {m : xS} {x : Int32 × xS} (l0 : zld lv 0 = some (.ref 70)) (l1 : zld lv 1 = some (.int v1)) (h : D199 F v1 m = some x) : zR none e 2 (some .boolean) zc199 (0, lv, []) (xW B m) (some (.int x.1), xW B x.2) := by
  unfold D199 at h
  refine q_li (k := 1) (i := 1) (q := (.iload_n 1, 1, 0, 0, .null)) rfl (fun _ => rfl) l1 ?_
  refine r_if (len := 3) (a := 16) (b := 0) (v0 := .null) (cn := .lt) (off := 15) rfl (fun c => ?_) (fun c => ?_)
  · rw [if_pos c] at h
    exact T199_16 H he F l0 l1 h
  · rw [if_neg (by rw [c]; decide)] at h
    refine q_li (k := 1) (i := 1) (q := (.iload_n 1, 1, 0, 0, .null)) rfl (fun _ => rfl) l1 ?_
    refine q_lr (k := 1) (i := 0) (q := (.aload_n 0, 1, 0, 0, .null)) rfl (fun _ => rfl) l0 ?_
    refine r_gi (v := (m.1 70 2)) H (pc := 6) (i := _) rfl (by decide) (by decide) rfl ?_
    refine r_ifc (len := 3) (a := 16) (b := 0) (v0 := .null) (cn := .ge) (off := 7) rfl (fun c => ?_) (fun c => ?_)
    · rw [if_pos c] at h
      exact T199_16 H he F l0 l1 h
    · rw [if_neg (by rw [c]; decide)] at h
      refine r_s (fr' := (13, lv, [.int 1])) (hp' := xW B m) (q := (.iconst 1, 1, 0, 0, .null)) rfl (fun _ => rfl) (Nat.le_refl _) ?_
      refine r_s (fr' := (17, lv, [.int 1])) (hp' := xW B m) (q := (.goto 4, 3, 17, 0, .null)) rfl (fun _ => rfl) (Nat.le_refl _) ?_
      obtain rfl := Option.some.inj h
      exact q_ri (q := (.ireturn, 1, 0, 0, .null)) rfl (fun _ => rfl) rfl rfl
set_option maxRecDepth 20000 in
theorem Z199 {B : zHp} (H : yH0 B) {F : Nat} {a1 : Int32} {m : xS} {x : Int32 × xS} (h : D199 F a1 m = some x) {d : Nat} (hd : 1 ≤ d) : zCan d 199 [.ref 70, .int a1] (xW B m) (some (.int x.1), xW B x.2) := by
  obtain ⟨e, rfl⟩ : ∃ e, d = e + 1 := ⟨d - 1, by omega⟩
  refine zCan_body (nL := 2) (rt := (some .boolean)) (cd := zc199) (xg199) ⟨Nat.le_of_ble_eq_true rfl, by decide⟩ (Nat.le_refl _) ?_
  exact T199 H hd F rfl rfl h
/-- LentToolsModel.words -/
def D243_104 (F : Nat) (g16 : Int32 → Int32 → Int32 → Int32 → Int32 → Int32 → xS → Option (Unit × xS)) (v1 : Int32) (v2 : Int32) (v3 : Int32) (v4 : Int32) (v5 : Int32) (v6 : Int32) (m : xS) : Option (Unit × xS) :=
  g16 v1 v2 v3 v4 v5 (v6 + Int32.ofInt 1) m
set_option maxRecDepth 20000 in
theorem T243_104 {B : zHp} (H : yH0 B) {e : Nat} (he : 5 ≤ e + 1) (F : Nat) (g16 : Int32 → Int32 → Int32 → Int32 → Int32 → Int32 → xS → Option (Unit × xS)) (k16 : ∀ {v1 : Int32} {v2 : Int32} {v3 : Int32} {v4 : Int32} {v5 : Int32} {v6 : Int32} {lv : List (Nat × Value)} {m : xS} {x : Unit × xS}, zld lv 0 = some (.ref 70) → zld lv 1 = some (.int v1) → zld lv 2 = some (.int v2) → zld lv 3 = some (.int v3) → zld lv 4 = some (.int v4) → zld lv 5 = some (.int v5) → zld lv 6 = some (.int v6) → g16 v1 v2 v3 v4 v5 v6 m = some x → zR none e 7 none zc243 (16, lv, []) (xW B m) (none, xW B x.2)) {v1 : Int32} {v2 : Int32} {v3 : Int32} {v4 : Int32} {v5 : Int32} {v6 : Int32} {lv : List (Nat × Value)} {m : xS} {x : Unit × xS} (l0 : zld lv 0 = some (.ref 70)) (l1 : zld lv 1 = some (.int v1)) (l2 : zld lv 2 = some (.int v2)) (l3 : zld lv 3 = some (.int v3)) (l4 : zld lv 4 = some (.int v4)) (l5 : zld lv 5 = some (.int v5)) (l6 : zld lv 6 = some (.int v6)) (h : D243_104 F g16 v1 v2 v3 v4 v5 v6 m = some x) : zR none e 7 none zc243 (104, lv, []) (xW B m) (none, xW B x.2) := by
  unfold D243_104 at h
  refine q_inc (i := 6) (n := 1) (q := (.iinc 6 1, 3, 0, 0, .null)) rfl (fun _ => rfl) l6 (by decide) ?_
  have l0_1 : zld (zs1 lv 6 (.int (v6 + Int32.ofInt 1))) 0 = some (.ref 70) := x_o1 l0 rfl rfl
  have l1_1 : zld (zs1 lv 6 (.int (v6 + Int32.ofInt 1))) 1 = some (.int v1) := x_o1 l1 rfl rfl
  have l2_1 : zld (zs1 lv 6 (.int (v6 + Int32.ofInt 1))) 2 = some (.int v2) := x_o1 l2 rfl rfl
  have l3_1 : zld (zs1 lv 6 (.int (v6 + Int32.ofInt 1))) 3 = some (.int v3) := x_o1 l3 rfl rfl
  have l4_1 : zld (zs1 lv 6 (.int (v6 + Int32.ofInt 1))) 4 = some (.int v4) := x_o1 l4 rfl rfl
  have l5_1 : zld (zs1 lv 6 (.int (v6 + Int32.ofInt 1))) 5 = some (.int v5) := x_o1 l5 rfl rfl
  have l6_1 : zld (zs1 lv 6 (.int (v6 + Int32.ofInt 1))) 6 = some (.int (v6 + Int32.ofInt 1)) := zs1_ld _ _ _
  generalize (zs1 lv 6 (.int (v6 + Int32.ofInt 1))) = lv1 at *
  refine r_s (fr' := (16, lv1, [])) (hp' := xW B m) (q := (.goto (-91), 3, 16, 0, .null)) rfl (fun _ => rfl) (Nat.le_refl _) ?_
  exact k16 l0_1 l1_1 l2_1 l3_1 l4_1 l5_1 l6_1 h
def D243_90 (F : Nat) (g16 : Int32 → Int32 → Int32 → Int32 → Int32 → Int32 → xS → Option (Unit × xS)) (v1 : Int32) (v2 : Int32) (v3 : Int32) (v4 : Int32) (v5 : Int32) (v6 : Int32) (w0 : Int32) (m : xS) : Option (Unit × xS) :=
  (D209 F v6 3 m).bind fun q98 =>
    D243_104 F g16 v1 v2 v3 w0 (v5 + q98.1) v6 q98.2
set_option maxRecDepth 20000 in
theorem T243_90 {B : zHp} (H : yH0 B) {e : Nat} (he : 5 ≤ e + 1) (F : Nat) (g16 : Int32 → Int32 → Int32 → Int32 → Int32 → Int32 → xS → Option (Unit × xS)) (k16 : ∀ {v1 : Int32} {v2 : Int32} {v3 : Int32} {v4 : Int32} {v5 : Int32} {v6 : Int32} {lv : List (Nat × Value)} {m : xS} {x : Unit × xS}, zld lv 0 = some (.ref 70) → zld lv 1 = some (.int v1) → zld lv 2 = some (.int v2) → zld lv 3 = some (.int v3) → zld lv 4 = some (.int v4) → zld lv 5 = some (.int v5) → zld lv 6 = some (.int v6) → g16 v1 v2 v3 v4 v5 v6 m = some x → zR none e 7 none zc243 (16, lv, []) (xW B m) (none, xW B x.2)) {v1 : Int32} {v2 : Int32} {v3 : Int32} {v4 : Int32} {v5 : Int32} {v6 : Int32} {w0 : Int32} {lv : List (Nat × Value)} {m : xS} {x : Unit × xS} (l0 : zld lv 0 = some (.ref 70)) (l1 : zld lv 1 = some (.int v1)) (l2 : zld lv 2 = some (.int v2)) (l3 : zld lv 3 = some (.int v3)) (l4 : zld lv 4 = some (.int v4)) (l5 : zld lv 5 = some (.int v5)) (l6 : zld lv 6 = some (.int v6)) (h : D243_90 F g16 v1 v2 v3 v4 v5 v6 w0 m = some x) : zR none e 7 none zc243 (90, lv, [.int w0]) (xW B m) (none, xW B x.2) := by
  unfold D243_90 at h
  refine q_si (k := 2) (i := 4) (q := (.istore 4, 2, 0, 0, .null)) rfl (fun _ => rfl) (by decide) ?_
  have l0_1 : zld (zs1 lv 4 (.int w0)) 0 = some (.ref 70) := x_o1 l0 rfl rfl
  have l1_1 : zld (zs1 lv 4 (.int w0)) 1 = some (.int v1) := x_o1 l1 rfl rfl
  have l2_1 : zld (zs1 lv 4 (.int w0)) 2 = some (.int v2) := x_o1 l2 rfl rfl
  have l3_1 : zld (zs1 lv 4 (.int w0)) 3 = some (.int v3) := x_o1 l3 rfl rfl
  have l4_1 : zld (zs1 lv 4 (.int w0)) 4 = some (.int w0) := zs1_ld _ _ _
  have l5_1 : zld (zs1 lv 4 (.int w0)) 5 = some (.int v5) := x_o1 l5 rfl rfl
  have l6_1 : zld (zs1 lv 4 (.int w0)) 6 = some (.int v6) := x_o1 l6 rfl rfl
  generalize (zs1 lv 4 (.int w0)) = lv1 at *
  refine q_li (k := 2) (i := 5) (q := (.iload 5, 2, 0, 0, .null)) rfl (fun _ => rfl) l5_1 ?_
  refine q_lr (k := 1) (i := 0) (q := (.aload_n 0, 1, 0, 0, .null)) rfl (fun _ => rfl) l0_1 ?_
  refine q_li (k := 2) (i := 6) (q := (.iload 6, 2, 0, 0, .null)) rfl (fun _ => rfl) l6_1 ?_
  refine r_s (fr' := (98, lv1, [.int 3, .int v6, .ref 70, .int v5])) (hp' := xW B m) (q := (.iconst 3, 1, 0, 0, .null)) rfl (fun _ => rfl) (Nat.le_refl _) ?_
  obtain ⟨q98, h98, h⟩ := xbind h
  refine r_call (ix := 70) (as := [.int v6, .int 3]) (rest := [.int v5]) (rv := some (.int q98.1)) (hp' := xW B q98.2) (pc := 98) rfl xr209 rfl rfl rfl (xkd H (by decide)) (Nat.le_of_ble_eq_true rfl) (Z209 H h98 (by omega)) (Nat.le_refl _) ?_
  refine r_s (fr' := (102, lv1, [.int (v5 + q98.1)])) (hp' := xW B q98.2) (q := (.iadd, 1, 0, 0, .null)) rfl (fun _ => rfl) (Nat.le_refl _) ?_
  refine q_si (k := 2) (i := 5) (q := (.istore 5, 2, 0, 0, .null)) rfl (fun _ => rfl) (by decide) ?_
  have l0_2 : zld (zs1 lv1 5 (.int (v5 + q98.1))) 0 = some (.ref 70) := x_o1 l0_1 rfl rfl
  have l1_2 : zld (zs1 lv1 5 (.int (v5 + q98.1))) 1 = some (.int v1) := x_o1 l1_1 rfl rfl
  have l2_2 : zld (zs1 lv1 5 (.int (v5 + q98.1))) 2 = some (.int v2) := x_o1 l2_1 rfl rfl
  have l3_2 : zld (zs1 lv1 5 (.int (v5 + q98.1))) 3 = some (.int v3) := x_o1 l3_1 rfl rfl
  have l4_2 : zld (zs1 lv1 5 (.int (v5 + q98.1))) 4 = some (.int w0) := x_o1 l4_1 rfl rfl
  have l5_2 : zld (zs1 lv1 5 (.int (v5 + q98.1))) 5 = some (.int (v5 + q98.1)) := zs1_ld _ _ _
  have l6_2 : zld (zs1 lv1 5 (.int (v5 + q98.1))) 6 = some (.int v6) := x_o1 l6_1 rfl rfl
  generalize (zs1 lv1 5 (.int (v5 + q98.1))) = lv2 at *
  exact T243_104 H he F _ k16 l0_2 l1_2 l2_2 l3_2 l4_2 l5_2 l6_2 h
def D243_269 (F : Nat) (v1 : Int32) (v2 : Int32) (v3 : Int32) (v4 : Int32) (v5 : Int32) (v6 : Int32) (w0 : Int64) (w1 : Int32) (m : xS) : Option (Unit × xS) :=
  if xib w1 13 = true then
    some ((), (xul m 79 (w1 : Int32).toNatClampNeg w0))
  else none
set_option maxRecDepth 20000 in
theorem T243_269 {B : zHp} (H : yH0 B) {e : Nat} (he : 5 ≤ e + 1) (F : Nat) {v1 : Int32} {v2 : Int32} {v3 : Int32} {v4 : Int32} {v5 : Int32} {v6 : Int32} {w0 : Int64} {w1 : Int32} {lv : List (Nat × Value)} {m : xS} {x : Unit × xS} (l0 : zld lv 0 = some (.ref 70)) (l1 : zld lv 1 = some (.int v1)) (l2 : zld lv 2 = some (.int v2)) (l3 : zld lv 3 = some (.int v3)) (l4 : zld lv 4 = some (.int v4)) (l5 : zld lv 5 = some (.int v5)) (l6 : zld lv 6 = some (.int v6)) (h : D243_269 F v1 v2 v3 v4 v5 v6 w0 w1 m = some x) : zR none e 7 none zc243 (269, lv, [.long w0, .int w1, .ref 79]) (xW B m) (none, xW B x.2) := by
  unfold D243_269 at h
  obtain ⟨c1, h⟩ := xif h
  refine q_las (n := 13) (s2 := (xul m 79 (w1 : Int32).toNatClampNeg w0)) H (pc := 269) rfl (by decide) c1 rfl ?_
  obtain rfl := Option.some.inj h
  exact r_ret (q := (.return_, 1, 0, 0, .null)) rfl rfl (fun _ => rfl)
def D243_16 (F : Nat) : Nat → Int32 → Int32 → Int32 → Int32 → Int32 → Int32 → xS → Option (Unit × xS)
  | 0, _, _, _, _, _, _, _ => none
  | f + 1, v1, v2, v3, v4, v5, v6, m =>
    if zcmp .ge v6 (m.1 80 3) = true then
      (D208 F v1 1 (xul m 79 0 (v1 : Int32).toInt64)).bind fun q126 =>
        (D208 F v1 0 (xul q126.2 79 1 (q126.1 : Int32).toInt64)).bind fun q139 =>
          (D208 F v1 4 (xul (xul (xul q139.2 79 2 (q139.1 : Int32).toInt64) 79 3 (v3 : Int32).toInt64) 79 4 (v2 : Int32).toInt64)).bind fun q168 =>
            (D214 F v1 1 (xul q168.2 79 5 (q168.1 : Int32).toInt64)).bind fun q182 =>
              (D208 F v1 5 (xul q182.2 79 6 (q182.1 : Int32).toInt64)).bind fun q196 =>
                (D211 F v2 v3 (xul (xul (xul (xul q196.2 79 7 (q196.1 : Int32).toInt64) 79 8 ((q196.2.1 80 4) : Int32).toInt64) 79 9 (v4 : Int32).toInt64) 79 10 (v5 : Int32).toInt64)).bind fun q244 =>
                  (D210 F v2 v3 (xul q244.2 79 11 (q244.1 : Int32).toInt64)).bind fun q258 =>
                    if zcmp .eq q258.1 0 = true then
                      D243_269 F v1 v2 v3 v4 v5 v6 0 12 q258.2
                    else
                      D243_269 F v1 v2 v3 v4 v5 v6 1 12 q258.2
    else
      (D215 F v6 m).bind fun q30 =>
        if zcmp .ne q30.1 0 = true then
          D243_104 F (D243_16 F f) v1 v2 v3 v4 v5 v6 q30.2
        else
          (D209 F v6 0 q30.2).bind fun q40 =>
            if zcmp .ne q40.1 v2 = true then
              D243_104 F (D243_16 F f) v1 v2 v3 v4 v5 v6 q40.2
            else
              (D209 F v6 1 q40.2).bind fun q51 =>
                (D208 F v1 1 q51.2).bind fun q57 =>
                  if zcmp .eq q51.1 q57.1 = true then
                    (D209 F v6 2 q57.2).bind fun q70 =>
                      if zcmp .le q70.1 v4 = true then
                        D243_90 F (D243_16 F f) v1 v2 v3 v4 v5 v6 v4 q70.2
                      else
                        (D209 F v6 2 q70.2).bind fun q82 =>
                          D243_90 F (D243_16 F f) v1 v2 v3 v4 v5 v6 q82.1 q82.2
                  else
                    D243_104 F (D243_16 F f) v1 v2 v3 v4 v5 v6 q57.2
set_option maxRecDepth 20000 in
theorem T243_16 {B : zHp} (H : yH0 B) {e : Nat} (he : 5 ≤ e + 1) (F : Nat) : ∀ (f : Nat) {v1 : Int32} {v2 : Int32} {v3 : Int32} {v4 : Int32} {v5 : Int32} {v6 : Int32} {lv : List (Nat × Value)} {m : xS} {x : Unit × xS}, zld lv 0 = some (.ref 70) → zld lv 1 = some (.int v1) → zld lv 2 = some (.int v2) → zld lv 3 = some (.int v3) → zld lv 4 = some (.int v4) → zld lv 5 = some (.int v5) → zld lv 6 = some (.int v6) → D243_16 F f v1 v2 v3 v4 v5 v6 m = some x → zR none e 7 none zc243 (16, lv, []) (xW B m) (none, xW B x.2) := by
  intro f
  induction f with
  | zero => intro v1 v2 v3 v4 v5 v6 lv m x l0 l1 l2 l3 l4 l5 l6 h; cases h
  | succ f ih =>
    intro v1 v2 v3 v4 v5 v6 lv m x l0 l1 l2 l3 l4 l5 l6 h
    unfold D243_16 at h
    refine q_li (k := 2) (i := 6) (q := (.iload 6, 2, 0, 0, .null)) rfl (fun _ => rfl) l6 ?_
    refine q_lr (k := 1) (i := 0) (q := (.aload_n 0, 1, 0, 0, .null)) rfl (fun _ => rfl) l0 ?_
    refine r_gr (c := 80) H (pc := 19) rfl (by decide) (by decide) ?_
    refine r_s (fr' := (23, lv, [.int 3, .ref 80, .int v6])) (hp' := xW B m) (q := (.iconst 3, 1, 0, 0, .null)) rfl (fun _ => rfl) (Nat.le_refl _) ?_
    refine q_al (n := 148) (v := (m.1 80 3)) H (pc := 23) rfl (by decide) (by decide) rfl ?_
    refine r_ifc (len := 3) (a := 110) (b := 0) (v0 := .null) (cn := .ge) (off := 86) rfl (fun c => ?_) (fun c => ?_)
    · rw [if_pos c] at h
      refine q_lr (k := 1) (i := 0) (q := (.aload_n 0, 1, 0, 0, .null)) rfl (fun _ => rfl) l0 ?_
      refine r_gr (c := 79) H (pc := 111) rfl (by decide) (by decide) ?_
      refine r_s (fr' := (115, lv, [.int 0, .ref 79])) (hp' := xW B m) (q := (.iconst 0, 1, 0, 0, .null)) rfl (fun _ => rfl) (Nat.le_refl _) ?_
      refine q_li (k := 1) (i := 1) (q := (.iload_n 1, 1, 0, 0, .null)) rfl (fun _ => rfl) l1 ?_
      refine r_s (fr' := (117, lv, [.long (v1 : Int32).toInt64, .int 0, .ref 79])) (hp' := xW B m) (q := (.i2l, 1, 0, 0, .null)) rfl (fun _ => rfl) (Nat.le_refl _) ?_
      refine q_las (n := 13) (s2 := (xul m 79 0 (v1 : Int32).toInt64)) H (pc := 117) rfl (by decide) (by decide) rfl ?_
      refine q_lr (k := 1) (i := 0) (q := (.aload_n 0, 1, 0, 0, .null)) rfl (fun _ => rfl) l0 ?_
      refine r_gr (c := 79) H (pc := 119) rfl (by decide) (by decide) ?_
      refine r_s (fr' := (123, lv, [.int 1, .ref 79])) (hp' := xW B (xul m 79 0 (v1 : Int32).toInt64)) (q := (.iconst 1, 1, 0, 0, .null)) rfl (fun _ => rfl) (Nat.le_refl _) ?_
      refine q_lr (k := 1) (i := 0) (q := (.aload_n 0, 1, 0, 0, .null)) rfl (fun _ => rfl) l0 ?_
      refine q_li (k := 1) (i := 1) (q := (.iload_n 1, 1, 0, 0, .null)) rfl (fun _ => rfl) l1 ?_
      refine r_s (fr' := (126, lv, [.int 1, .int v1, .ref 70, .int 1, .ref 79])) (hp' := xW B (xul m 79 0 (v1 : Int32).toInt64)) (q := (.iconst 1, 1, 0, 0, .null)) rfl (fun _ => rfl) (Nat.le_refl _) ?_
      obtain ⟨q126, h126, h⟩ := xbind h
      refine r_call (ix := 70) (as := [.int v1, .int 1]) (rest := [.int 1, .ref 79]) (rv := some (.int q126.1)) (hp' := xW B q126.2) (pc := 126) rfl xr208 rfl rfl rfl (xkd H (by decide)) (Nat.le_of_ble_eq_true rfl) (Z208 H h126 (by omega)) (Nat.le_refl _) ?_
      refine r_s (fr' := (130, lv, [.long (q126.1 : Int32).toInt64, .int 1, .ref 79])) (hp' := xW B q126.2) (q := (.i2l, 1, 0, 0, .null)) rfl (fun _ => rfl) (Nat.le_refl _) ?_
      refine q_las (n := 13) (s2 := (xul q126.2 79 1 (q126.1 : Int32).toInt64)) H (pc := 130) rfl (by decide) (by decide) rfl ?_
      refine q_lr (k := 1) (i := 0) (q := (.aload_n 0, 1, 0, 0, .null)) rfl (fun _ => rfl) l0 ?_
      refine r_gr (c := 79) H (pc := 132) rfl (by decide) (by decide) ?_
      refine r_s (fr' := (136, lv, [.int 2, .ref 79])) (hp' := xW B (xul q126.2 79 1 (q126.1 : Int32).toInt64)) (q := (.iconst 2, 1, 0, 0, .null)) rfl (fun _ => rfl) (Nat.le_refl _) ?_
      refine q_lr (k := 1) (i := 0) (q := (.aload_n 0, 1, 0, 0, .null)) rfl (fun _ => rfl) l0 ?_
      refine q_li (k := 1) (i := 1) (q := (.iload_n 1, 1, 0, 0, .null)) rfl (fun _ => rfl) l1 ?_
      refine r_s (fr' := (139, lv, [.int 0, .int v1, .ref 70, .int 2, .ref 79])) (hp' := xW B (xul q126.2 79 1 (q126.1 : Int32).toInt64)) (q := (.iconst 0, 1, 0, 0, .null)) rfl (fun _ => rfl) (Nat.le_refl _) ?_
      obtain ⟨q139, h139, h⟩ := xbind h
      refine r_call (ix := 70) (as := [.int v1, .int 0]) (rest := [.int 2, .ref 79]) (rv := some (.int q139.1)) (hp' := xW B q139.2) (pc := 139) rfl xr208 rfl rfl rfl (xkd H (by decide)) (Nat.le_of_ble_eq_true rfl) (Z208 H h139 (by omega)) (Nat.le_refl _) ?_
      refine r_s (fr' := (143, lv, [.long (q139.1 : Int32).toInt64, .int 2, .ref 79])) (hp' := xW B q139.2) (q := (.i2l, 1, 0, 0, .null)) rfl (fun _ => rfl) (Nat.le_refl _) ?_
      refine q_las (n := 13) (s2 := (xul q139.2 79 2 (q139.1 : Int32).toInt64)) H (pc := 143) rfl (by decide) (by decide) rfl ?_
      refine q_lr (k := 1) (i := 0) (q := (.aload_n 0, 1, 0, 0, .null)) rfl (fun _ => rfl) l0 ?_
      refine r_gr (c := 79) H (pc := 145) rfl (by decide) (by decide) ?_
      refine r_s (fr' := (149, lv, [.int 3, .ref 79])) (hp' := xW B (xul q139.2 79 2 (q139.1 : Int32).toInt64)) (q := (.iconst 3, 1, 0, 0, .null)) rfl (fun _ => rfl) (Nat.le_refl _) ?_
      refine q_li (k := 1) (i := 3) (q := (.iload_n 3, 1, 0, 0, .null)) rfl (fun _ => rfl) l3 ?_
      refine r_s (fr' := (151, lv, [.long (v3 : Int32).toInt64, .int 3, .ref 79])) (hp' := xW B (xul q139.2 79 2 (q139.1 : Int32).toInt64)) (q := (.i2l, 1, 0, 0, .null)) rfl (fun _ => rfl) (Nat.le_refl _) ?_
      refine q_las (n := 13) (s2 := (xul (xul q139.2 79 2 (q139.1 : Int32).toInt64) 79 3 (v3 : Int32).toInt64)) H (pc := 151) rfl (by decide) (by decide) rfl ?_
      refine q_lr (k := 1) (i := 0) (q := (.aload_n 0, 1, 0, 0, .null)) rfl (fun _ => rfl) l0 ?_
      refine r_gr (c := 79) H (pc := 153) rfl (by decide) (by decide) ?_
      refine r_s (fr' := (157, lv, [.int 4, .ref 79])) (hp' := xW B (xul (xul q139.2 79 2 (q139.1 : Int32).toInt64) 79 3 (v3 : Int32).toInt64)) (q := (.iconst 4, 1, 0, 0, .null)) rfl (fun _ => rfl) (Nat.le_refl _) ?_
      refine q_li (k := 1) (i := 2) (q := (.iload_n 2, 1, 0, 0, .null)) rfl (fun _ => rfl) l2 ?_
      refine r_s (fr' := (159, lv, [.long (v2 : Int32).toInt64, .int 4, .ref 79])) (hp' := xW B (xul (xul q139.2 79 2 (q139.1 : Int32).toInt64) 79 3 (v3 : Int32).toInt64)) (q := (.i2l, 1, 0, 0, .null)) rfl (fun _ => rfl) (Nat.le_refl _) ?_
      refine q_las (n := 13) (s2 := (xul (xul (xul q139.2 79 2 (q139.1 : Int32).toInt64) 79 3 (v3 : Int32).toInt64) 79 4 (v2 : Int32).toInt64)) H (pc := 159) rfl (by decide) (by decide) rfl ?_
      refine q_lr (k := 1) (i := 0) (q := (.aload_n 0, 1, 0, 0, .null)) rfl (fun _ => rfl) l0 ?_
      refine r_gr (c := 79) H (pc := 161) rfl (by decide) (by decide) ?_
      refine r_s (fr' := (165, lv, [.int 5, .ref 79])) (hp' := xW B (xul (xul (xul q139.2 79 2 (q139.1 : Int32).toInt64) 79 3 (v3 : Int32).toInt64) 79 4 (v2 : Int32).toInt64)) (q := (.iconst 5, 1, 0, 0, .null)) rfl (fun _ => rfl) (Nat.le_refl _) ?_
      refine q_lr (k := 1) (i := 0) (q := (.aload_n 0, 1, 0, 0, .null)) rfl (fun _ => rfl) l0 ?_
      refine q_li (k := 1) (i := 1) (q := (.iload_n 1, 1, 0, 0, .null)) rfl (fun _ => rfl) l1 ?_
      refine r_s (fr' := (168, lv, [.int 4, .int v1, .ref 70, .int 5, .ref 79])) (hp' := xW B (xul (xul (xul q139.2 79 2 (q139.1 : Int32).toInt64) 79 3 (v3 : Int32).toInt64) 79 4 (v2 : Int32).toInt64)) (q := (.iconst 4, 1, 0, 0, .null)) rfl (fun _ => rfl) (Nat.le_refl _) ?_
      obtain ⟨q168, h168, h⟩ := xbind h
      refine r_call (ix := 70) (as := [.int v1, .int 4]) (rest := [.int 5, .ref 79]) (rv := some (.int q168.1)) (hp' := xW B q168.2) (pc := 168) rfl xr208 rfl rfl rfl (xkd H (by decide)) (Nat.le_of_ble_eq_true rfl) (Z208 H h168 (by omega)) (Nat.le_refl _) ?_
      refine r_s (fr' := (172, lv, [.long (q168.1 : Int32).toInt64, .int 5, .ref 79])) (hp' := xW B q168.2) (q := (.i2l, 1, 0, 0, .null)) rfl (fun _ => rfl) (Nat.le_refl _) ?_
      refine q_las (n := 13) (s2 := (xul q168.2 79 5 (q168.1 : Int32).toInt64)) H (pc := 172) rfl (by decide) (by decide) rfl ?_
      refine q_lr (k := 1) (i := 0) (q := (.aload_n 0, 1, 0, 0, .null)) rfl (fun _ => rfl) l0 ?_
      refine r_gr (c := 79) H (pc := 174) rfl (by decide) (by decide) ?_
      refine r_s (fr' := (179, lv, [.int 6, .ref 79])) (hp' := xW B (xul q168.2 79 5 (q168.1 : Int32).toInt64)) (q := (.bipush 6, 2, 0, 0, .null)) rfl (fun _ => rfl) (Nat.le_refl _) ?_
      refine q_lr (k := 1) (i := 0) (q := (.aload_n 0, 1, 0, 0, .null)) rfl (fun _ => rfl) l0 ?_
      refine q_li (k := 1) (i := 1) (q := (.iload_n 1, 1, 0, 0, .null)) rfl (fun _ => rfl) l1 ?_
      refine r_s (fr' := (182, lv, [.int 1, .int v1, .ref 70, .int 6, .ref 79])) (hp' := xW B (xul q168.2 79 5 (q168.1 : Int32).toInt64)) (q := (.iconst 1, 1, 0, 0, .null)) rfl (fun _ => rfl) (Nat.le_refl _) ?_
      obtain ⟨q182, h182, h⟩ := xbind h
      refine r_call (ix := 70) (as := [.int v1, .int 1]) (rest := [.int 6, .ref 79]) (rv := some (.int q182.1)) (hp' := xW B q182.2) (pc := 182) rfl xr214 rfl rfl rfl (xkd H (by decide)) (Nat.le_of_ble_eq_true rfl) (Z214 H h182 (by omega)) (Nat.le_refl _) ?_
      refine r_s (fr' := (186, lv, [.long (q182.1 : Int32).toInt64, .int 6, .ref 79])) (hp' := xW B q182.2) (q := (.i2l, 1, 0, 0, .null)) rfl (fun _ => rfl) (Nat.le_refl _) ?_
      refine q_las (n := 13) (s2 := (xul q182.2 79 6 (q182.1 : Int32).toInt64)) H (pc := 186) rfl (by decide) (by decide) rfl ?_
      refine q_lr (k := 1) (i := 0) (q := (.aload_n 0, 1, 0, 0, .null)) rfl (fun _ => rfl) l0 ?_
      refine r_gr (c := 79) H (pc := 188) rfl (by decide) (by decide) ?_
      refine r_s (fr' := (193, lv, [.int 7, .ref 79])) (hp' := xW B (xul q182.2 79 6 (q182.1 : Int32).toInt64)) (q := (.bipush 7, 2, 0, 0, .null)) rfl (fun _ => rfl) (Nat.le_refl _) ?_
      refine q_lr (k := 1) (i := 0) (q := (.aload_n 0, 1, 0, 0, .null)) rfl (fun _ => rfl) l0 ?_
      refine q_li (k := 1) (i := 1) (q := (.iload_n 1, 1, 0, 0, .null)) rfl (fun _ => rfl) l1 ?_
      refine r_s (fr' := (196, lv, [.int 5, .int v1, .ref 70, .int 7, .ref 79])) (hp' := xW B (xul q182.2 79 6 (q182.1 : Int32).toInt64)) (q := (.iconst 5, 1, 0, 0, .null)) rfl (fun _ => rfl) (Nat.le_refl _) ?_
      obtain ⟨q196, h196, h⟩ := xbind h
      refine r_call (ix := 70) (as := [.int v1, .int 5]) (rest := [.int 7, .ref 79]) (rv := some (.int q196.1)) (hp' := xW B q196.2) (pc := 196) rfl xr208 rfl rfl rfl (xkd H (by decide)) (Nat.le_of_ble_eq_true rfl) (Z208 H h196 (by omega)) (Nat.le_refl _) ?_
      refine r_s (fr' := (200, lv, [.long (q196.1 : Int32).toInt64, .int 7, .ref 79])) (hp' := xW B q196.2) (q := (.i2l, 1, 0, 0, .null)) rfl (fun _ => rfl) (Nat.le_refl _) ?_
      refine q_las (n := 13) (s2 := (xul q196.2 79 7 (q196.1 : Int32).toInt64)) H (pc := 200) rfl (by decide) (by decide) rfl ?_
      refine q_lr (k := 1) (i := 0) (q := (.aload_n 0, 1, 0, 0, .null)) rfl (fun _ => rfl) l0 ?_
      refine r_gr (c := 79) H (pc := 202) rfl (by decide) (by decide) ?_
      refine r_s (fr' := (207, lv, [.int 8, .ref 79])) (hp' := xW B (xul q196.2 79 7 (q196.1 : Int32).toInt64)) (q := (.bipush 8, 2, 0, 0, .null)) rfl (fun _ => rfl) (Nat.le_refl _) ?_
      refine q_lr (k := 1) (i := 0) (q := (.aload_n 0, 1, 0, 0, .null)) rfl (fun _ => rfl) l0 ?_
      refine r_gr (c := 80) H (pc := 208) rfl (by decide) (by decide) ?_
      refine r_s (fr' := (212, lv, [.int 4, .ref 80, .int 8, .ref 79])) (hp' := xW B (xul q196.2 79 7 (q196.1 : Int32).toInt64)) (q := (.iconst 4, 1, 0, 0, .null)) rfl (fun _ => rfl) (Nat.le_refl _) ?_
      refine q_al (n := 148) (v := (q196.2.1 80 4)) H (pc := 212) rfl (by decide) (by decide) rfl ?_
      refine r_s (fr' := (214, lv, [.long ((q196.2.1 80 4) : Int32).toInt64, .int 8, .ref 79])) (hp' := xW B (xul q196.2 79 7 (q196.1 : Int32).toInt64)) (q := (.i2l, 1, 0, 0, .null)) rfl (fun _ => rfl) (Nat.le_refl _) ?_
      refine q_las (n := 13) (s2 := (xul (xul q196.2 79 7 (q196.1 : Int32).toInt64) 79 8 ((q196.2.1 80 4) : Int32).toInt64)) H (pc := 214) rfl (by decide) (by decide) rfl ?_
      refine q_lr (k := 1) (i := 0) (q := (.aload_n 0, 1, 0, 0, .null)) rfl (fun _ => rfl) l0 ?_
      refine r_gr (c := 79) H (pc := 216) rfl (by decide) (by decide) ?_
      refine r_s (fr' := (221, lv, [.int 9, .ref 79])) (hp' := xW B (xul (xul q196.2 79 7 (q196.1 : Int32).toInt64) 79 8 ((q196.2.1 80 4) : Int32).toInt64)) (q := (.bipush 9, 2, 0, 0, .null)) rfl (fun _ => rfl) (Nat.le_refl _) ?_
      refine q_li (k := 2) (i := 4) (q := (.iload 4, 2, 0, 0, .null)) rfl (fun _ => rfl) l4 ?_
      refine r_s (fr' := (224, lv, [.long (v4 : Int32).toInt64, .int 9, .ref 79])) (hp' := xW B (xul (xul q196.2 79 7 (q196.1 : Int32).toInt64) 79 8 ((q196.2.1 80 4) : Int32).toInt64)) (q := (.i2l, 1, 0, 0, .null)) rfl (fun _ => rfl) (Nat.le_refl _) ?_
      refine q_las (n := 13) (s2 := (xul (xul (xul q196.2 79 7 (q196.1 : Int32).toInt64) 79 8 ((q196.2.1 80 4) : Int32).toInt64) 79 9 (v4 : Int32).toInt64)) H (pc := 224) rfl (by decide) (by decide) rfl ?_
      refine q_lr (k := 1) (i := 0) (q := (.aload_n 0, 1, 0, 0, .null)) rfl (fun _ => rfl) l0 ?_
      refine r_gr (c := 79) H (pc := 226) rfl (by decide) (by decide) ?_
      refine r_s (fr' := (231, lv, [.int 10, .ref 79])) (hp' := xW B (xul (xul (xul q196.2 79 7 (q196.1 : Int32).toInt64) 79 8 ((q196.2.1 80 4) : Int32).toInt64) 79 9 (v4 : Int32).toInt64)) (q := (.bipush 10, 2, 0, 0, .null)) rfl (fun _ => rfl) (Nat.le_refl _) ?_
      refine q_li (k := 2) (i := 5) (q := (.iload 5, 2, 0, 0, .null)) rfl (fun _ => rfl) l5 ?_
      refine r_s (fr' := (234, lv, [.long (v5 : Int32).toInt64, .int 10, .ref 79])) (hp' := xW B (xul (xul (xul q196.2 79 7 (q196.1 : Int32).toInt64) 79 8 ((q196.2.1 80 4) : Int32).toInt64) 79 9 (v4 : Int32).toInt64)) (q := (.i2l, 1, 0, 0, .null)) rfl (fun _ => rfl) (Nat.le_refl _) ?_
      refine q_las (n := 13) (s2 := (xul (xul (xul (xul q196.2 79 7 (q196.1 : Int32).toInt64) 79 8 ((q196.2.1 80 4) : Int32).toInt64) 79 9 (v4 : Int32).toInt64) 79 10 (v5 : Int32).toInt64)) H (pc := 234) rfl (by decide) (by decide) rfl ?_
      refine q_lr (k := 1) (i := 0) (q := (.aload_n 0, 1, 0, 0, .null)) rfl (fun _ => rfl) l0 ?_
      refine r_gr (c := 79) H (pc := 236) rfl (by decide) (by decide) ?_
      refine r_s (fr' := (241, lv, [.int 11, .ref 79])) (hp' := xW B (xul (xul (xul (xul q196.2 79 7 (q196.1 : Int32).toInt64) 79 8 ((q196.2.1 80 4) : Int32).toInt64) 79 9 (v4 : Int32).toInt64) 79 10 (v5 : Int32).toInt64)) (q := (.bipush 11, 2, 0, 0, .null)) rfl (fun _ => rfl) (Nat.le_refl _) ?_
      refine q_lr (k := 1) (i := 0) (q := (.aload_n 0, 1, 0, 0, .null)) rfl (fun _ => rfl) l0 ?_
      refine q_li (k := 1) (i := 2) (q := (.iload_n 2, 1, 0, 0, .null)) rfl (fun _ => rfl) l2 ?_
      refine q_li (k := 1) (i := 3) (q := (.iload_n 3, 1, 0, 0, .null)) rfl (fun _ => rfl) l3 ?_
      obtain ⟨q244, h244, h⟩ := xbind h
      refine r_call (ix := 70) (as := [.int v2, .int v3]) (rest := [.int 11, .ref 79]) (rv := some (.int q244.1)) (hp' := xW B q244.2) (pc := 244) rfl xr211 rfl rfl rfl (xkd H (by decide)) (Nat.le_of_ble_eq_true rfl) (Z211 H h244 (by omega)) (Nat.le_refl _) ?_
      refine r_s (fr' := (248, lv, [.long (q244.1 : Int32).toInt64, .int 11, .ref 79])) (hp' := xW B q244.2) (q := (.i2l, 1, 0, 0, .null)) rfl (fun _ => rfl) (Nat.le_refl _) ?_
      refine q_las (n := 13) (s2 := (xul q244.2 79 11 (q244.1 : Int32).toInt64)) H (pc := 248) rfl (by decide) (by decide) rfl ?_
      refine q_lr (k := 1) (i := 0) (q := (.aload_n 0, 1, 0, 0, .null)) rfl (fun _ => rfl) l0 ?_
      refine r_gr (c := 79) H (pc := 250) rfl (by decide) (by decide) ?_
      refine r_s (fr' := (255, lv, [.int 12, .ref 79])) (hp' := xW B (xul q244.2 79 11 (q244.1 : Int32).toInt64)) (q := (.bipush 12, 2, 0, 0, .null)) rfl (fun _ => rfl) (Nat.le_refl _) ?_
      refine q_lr (k := 1) (i := 0) (q := (.aload_n 0, 1, 0, 0, .null)) rfl (fun _ => rfl) l0 ?_
      refine q_li (k := 1) (i := 2) (q := (.iload_n 2, 1, 0, 0, .null)) rfl (fun _ => rfl) l2 ?_
      refine q_li (k := 1) (i := 3) (q := (.iload_n 3, 1, 0, 0, .null)) rfl (fun _ => rfl) l3 ?_
      obtain ⟨q258, h258, h⟩ := xbind h
      refine r_call (ix := 70) (as := [.int v2, .int v3]) (rest := [.int 12, .ref 79]) (rv := some (.int q258.1)) (hp' := xW B q258.2) (pc := 258) rfl xr210 rfl rfl rfl (xkd H (by decide)) (Nat.le_of_ble_eq_true rfl) (Z210 H h258 (by omega)) (Nat.le_refl _) ?_
      refine r_if (len := 3) (a := 268) (b := 0) (v0 := .null) (cn := .eq) (off := 7) rfl (fun c => ?_) (fun c => ?_)
      · rw [if_pos c] at h
        refine r_s (fr' := (269, lv, [.long 0, .int 12, .ref 79])) (hp' := xW B q258.2) (q := (.lconst 0, 1, 0, 0, .null)) rfl (fun _ => rfl) (Nat.le_refl _) ?_
        exact T243_269 H he F l0 l1 l2 l3 l4 l5 l6 h
      · rw [if_neg (by rw [c]; decide)] at h
        refine r_s (fr' := (265, lv, [.long 1, .int 12, .ref 79])) (hp' := xW B q258.2) (q := (.lconst 1, 1, 0, 0, .null)) rfl (fun _ => rfl) (Nat.le_refl _) ?_
        refine r_s (fr' := (269, lv, [.long 1, .int 12, .ref 79])) (hp' := xW B q258.2) (q := (.goto 4, 3, 269, 0, .null)) rfl (fun _ => rfl) (Nat.le_refl _) ?_
        exact T243_269 H he F l0 l1 l2 l3 l4 l5 l6 h
    · rw [if_neg (by rw [c]; decide)] at h
      refine q_lr (k := 1) (i := 0) (q := (.aload_n 0, 1, 0, 0, .null)) rfl (fun _ => rfl) l0 ?_
      refine q_li (k := 2) (i := 6) (q := (.iload 6, 2, 0, 0, .null)) rfl (fun _ => rfl) l6 ?_
      obtain ⟨q30, h30, h⟩ := xbind h
      refine r_call (ix := 70) (as := [.int v6]) (rest := []) (rv := some (.int q30.1)) (hp' := xW B q30.2) (pc := 30) rfl xr215 rfl rfl rfl (xkd H (by decide)) (Nat.le_of_ble_eq_true rfl) (Z215 H h30 (by omega)) (Nat.le_refl _) ?_
      refine r_if (len := 3) (a := 104) (b := 0) (v0 := .null) (cn := .ne) (off := 71) rfl (fun c => ?_) (fun c => ?_)
      · rw [if_pos c] at h
        exact T243_104 H he F _ ih l0 l1 l2 l3 l4 l5 l6 h
      · rw [if_neg (by rw [c]; decide)] at h
        refine q_lr (k := 1) (i := 0) (q := (.aload_n 0, 1, 0, 0, .null)) rfl (fun _ => rfl) l0 ?_
        refine q_li (k := 2) (i := 6) (q := (.iload 6, 2, 0, 0, .null)) rfl (fun _ => rfl) l6 ?_
        refine r_s (fr' := (40, lv, [.int 0, .int v6, .ref 70])) (hp' := xW B q30.2) (q := (.iconst 0, 1, 0, 0, .null)) rfl (fun _ => rfl) (Nat.le_refl _) ?_
        obtain ⟨q40, h40, h⟩ := xbind h
        refine r_call (ix := 70) (as := [.int v6, .int 0]) (rest := []) (rv := some (.int q40.1)) (hp' := xW B q40.2) (pc := 40) rfl xr209 rfl rfl rfl (xkd H (by decide)) (Nat.le_of_ble_eq_true rfl) (Z209 H h40 (by omega)) (Nat.le_refl _) ?_
        refine q_li (k := 1) (i := 2) (q := (.iload_n 2, 1, 0, 0, .null)) rfl (fun _ => rfl) l2 ?_
        refine r_ifc (len := 3) (a := 104) (b := 0) (v0 := .null) (cn := .ne) (off := 60) rfl (fun c => ?_) (fun c => ?_)
        · rw [if_pos c] at h
          exact T243_104 H he F _ ih l0 l1 l2 l3 l4 l5 l6 h
        · rw [if_neg (by rw [c]; decide)] at h
          refine q_lr (k := 1) (i := 0) (q := (.aload_n 0, 1, 0, 0, .null)) rfl (fun _ => rfl) l0 ?_
          refine q_li (k := 2) (i := 6) (q := (.iload 6, 2, 0, 0, .null)) rfl (fun _ => rfl) l6 ?_
          refine r_s (fr' := (51, lv, [.int 1, .int v6, .ref 70])) (hp' := xW B q40.2) (q := (.iconst 1, 1, 0, 0, .null)) rfl (fun _ => rfl) (Nat.le_refl _) ?_
          obtain ⟨q51, h51, h⟩ := xbind h
          refine r_call (ix := 70) (as := [.int v6, .int 1]) (rest := []) (rv := some (.int q51.1)) (hp' := xW B q51.2) (pc := 51) rfl xr209 rfl rfl rfl (xkd H (by decide)) (Nat.le_of_ble_eq_true rfl) (Z209 H h51 (by omega)) (Nat.le_refl _) ?_
          refine q_lr (k := 1) (i := 0) (q := (.aload_n 0, 1, 0, 0, .null)) rfl (fun _ => rfl) l0 ?_
          refine q_li (k := 1) (i := 1) (q := (.iload_n 1, 1, 0, 0, .null)) rfl (fun _ => rfl) l1 ?_
          refine r_s (fr' := (57, lv, [.int 1, .int v1, .ref 70, .int q51.1])) (hp' := xW B q51.2) (q := (.iconst 1, 1, 0, 0, .null)) rfl (fun _ => rfl) (Nat.le_refl _) ?_
          obtain ⟨q57, h57, h⟩ := xbind h
          refine r_call (ix := 70) (as := [.int v1, .int 1]) (rest := [.int q51.1]) (rv := some (.int q57.1)) (hp' := xW B q57.2) (pc := 57) rfl xr208 rfl rfl rfl (xkd H (by decide)) (Nat.le_of_ble_eq_true rfl) (Z208 H h57 (by omega)) (Nat.le_refl _) ?_
          refine r_ifc (len := 3) (a := 66) (b := 0) (v0 := .null) (cn := .eq) (off := 6) rfl (fun c => ?_) (fun c => ?_)
          · rw [if_pos c] at h
            refine q_lr (k := 1) (i := 0) (q := (.aload_n 0, 1, 0, 0, .null)) rfl (fun _ => rfl) l0 ?_
            refine q_li (k := 2) (i := 6) (q := (.iload 6, 2, 0, 0, .null)) rfl (fun _ => rfl) l6 ?_
            refine r_s (fr' := (70, lv, [.int 2, .int v6, .ref 70])) (hp' := xW B q57.2) (q := (.iconst 2, 1, 0, 0, .null)) rfl (fun _ => rfl) (Nat.le_refl _) ?_
            obtain ⟨q70, h70, h⟩ := xbind h
            refine r_call (ix := 70) (as := [.int v6, .int 2]) (rest := []) (rv := some (.int q70.1)) (hp' := xW B q70.2) (pc := 70) rfl xr209 rfl rfl rfl (xkd H (by decide)) (Nat.le_of_ble_eq_true rfl) (Z209 H h70 (by omega)) (Nat.le_refl _) ?_
            refine q_li (k := 2) (i := 4) (q := (.iload 4, 2, 0, 0, .null)) rfl (fun _ => rfl) l4 ?_
            refine r_ifc (len := 3) (a := 88) (b := 0) (v0 := .null) (cn := .le) (off := 13) rfl (fun c => ?_) (fun c => ?_)
            · rw [if_pos c] at h
              refine q_li (k := 2) (i := 4) (q := (.iload 4, 2, 0, 0, .null)) rfl (fun _ => rfl) l4 ?_
              exact T243_90 H he F _ ih l0 l1 l2 l3 l4 l5 l6 h
            · rw [if_neg (by rw [c]; decide)] at h
              refine q_lr (k := 1) (i := 0) (q := (.aload_n 0, 1, 0, 0, .null)) rfl (fun _ => rfl) l0 ?_
              refine q_li (k := 2) (i := 6) (q := (.iload 6, 2, 0, 0, .null)) rfl (fun _ => rfl) l6 ?_
              refine r_s (fr' := (82, lv, [.int 2, .int v6, .ref 70])) (hp' := xW B q70.2) (q := (.iconst 2, 1, 0, 0, .null)) rfl (fun _ => rfl) (Nat.le_refl _) ?_
              obtain ⟨q82, h82, h⟩ := xbind h
              refine r_call (ix := 70) (as := [.int v6, .int 2]) (rest := []) (rv := some (.int q82.1)) (hp' := xW B q82.2) (pc := 82) rfl xr209 rfl rfl rfl (xkd H (by decide)) (Nat.le_of_ble_eq_true rfl) (Z209 H h82 (by omega)) (Nat.le_refl _) ?_
              refine r_s (fr' := (90, lv, [.int q82.1])) (hp' := xW B q82.2) (q := (.goto 5, 3, 90, 0, .null)) rfl (fun _ => rfl) (Nat.le_refl _) ?_
              exact T243_90 H he F _ ih l0 l1 l2 l3 l4 l5 l6 h
          · rw [if_neg (by rw [c]; decide)] at h
            refine r_s (fr' := (104, lv, [])) (hp' := xW B q57.2) (q := (.goto 41, 3, 104, 0, .null)) rfl (fun _ => rfl) (Nat.le_refl _) ?_
            exact T243_104 H he F _ ih l0 l1 l2 l3 l4 l5 l6 h
def D243 (F : Nat) (v1 : Int32) (v2 : Int32) (m : xS) : Option (Unit × xS) :=
  (D208 F v1 3 m).bind fun q3 =>
    D243_16 F F v1 v2 q3.1 0 0 0 q3.2
set_option maxRecDepth 20000 in
theorem T243 {B : zHp} (H : yH0 B) {e : Nat} (he : 5 ≤ e + 1) (F : Nat) {v1 : Int32} {v2 : Int32} {lv : List (Nat × Value)} {m : xS} {x : Unit × xS} (l0 : zld lv 0 = some (.ref 70)) (l1 : zld lv 1 = some (.int v1)) (l2 : zld lv 2 = some (.int v2)) (h : D243 F v1 v2 m = some x) : zR none e 7 none zc243 (0, lv, []) (xW B m) (none, xW B x.2) := by
  unfold D243 at h
  refine q_lr (k := 1) (i := 0) (q := (.aload_n 0, 1, 0, 0, .null)) rfl (fun _ => rfl) l0 ?_
  refine q_li (k := 1) (i := 1) (q := (.iload_n 1, 1, 0, 0, .null)) rfl (fun _ => rfl) l1 ?_
  refine r_s (fr' := (3, lv, [.int 3, .int v1, .ref 70])) (hp' := xW B m) (q := (.iconst 3, 1, 0, 0, .null)) rfl (fun _ => rfl) (Nat.le_refl _) ?_
  obtain ⟨q3, h3, h⟩ := xbind h
  refine r_call (ix := 70) (as := [.int v1, .int 3]) (rest := []) (rv := some (.int q3.1)) (hp' := xW B q3.2) (pc := 3) rfl xr208 rfl rfl rfl (xkd H (by decide)) (Nat.le_of_ble_eq_true rfl) (Z208 H h3 (by omega)) (Nat.le_refl _) ?_
  refine q_si (k := 1) (i := 3) (q := (.istore_n 3, 1, 0, 0, .null)) rfl (fun _ => rfl) (by decide) ?_
  have l0_1 : zld (zs1 lv 3 (.int q3.1)) 0 = some (.ref 70) := x_o1 l0 rfl rfl
  have l1_1 : zld (zs1 lv 3 (.int q3.1)) 1 = some (.int v1) := x_o1 l1 rfl rfl
  have l2_1 : zld (zs1 lv 3 (.int q3.1)) 2 = some (.int v2) := x_o1 l2 rfl rfl
  have l3_1 : zld (zs1 lv 3 (.int q3.1)) 3 = some (.int q3.1) := zs1_ld _ _ _
  generalize (zs1 lv 3 (.int q3.1)) = lv1 at *
  refine r_s (fr' := (8, lv1, [.int 0])) (hp' := xW B q3.2) (q := (.iconst 0, 1, 0, 0, .null)) rfl (fun _ => rfl) (Nat.le_refl _) ?_
  refine q_si (k := 2) (i := 4) (q := (.istore 4, 2, 0, 0, .null)) rfl (fun _ => rfl) (by decide) ?_
  have l0_2 : zld (zs1 lv1 4 (.int 0)) 0 = some (.ref 70) := x_o1 l0_1 rfl rfl
  have l1_2 : zld (zs1 lv1 4 (.int 0)) 1 = some (.int v1) := x_o1 l1_1 rfl rfl
  have l2_2 : zld (zs1 lv1 4 (.int 0)) 2 = some (.int v2) := x_o1 l2_1 rfl rfl
  have l3_2 : zld (zs1 lv1 4 (.int 0)) 3 = some (.int q3.1) := x_o1 l3_1 rfl rfl
  have l4_2 : zld (zs1 lv1 4 (.int 0)) 4 = some (.int 0) := zs1_ld _ _ _
  generalize (zs1 lv1 4 (.int 0)) = lv2 at *
  refine r_s (fr' := (11, lv2, [.int 0])) (hp' := xW B q3.2) (q := (.iconst 0, 1, 0, 0, .null)) rfl (fun _ => rfl) (Nat.le_refl _) ?_
  refine q_si (k := 2) (i := 5) (q := (.istore 5, 2, 0, 0, .null)) rfl (fun _ => rfl) (by decide) ?_
  have l0_3 : zld (zs1 lv2 5 (.int 0)) 0 = some (.ref 70) := x_o1 l0_2 rfl rfl
  have l1_3 : zld (zs1 lv2 5 (.int 0)) 1 = some (.int v1) := x_o1 l1_2 rfl rfl
  have l2_3 : zld (zs1 lv2 5 (.int 0)) 2 = some (.int v2) := x_o1 l2_2 rfl rfl
  have l3_3 : zld (zs1 lv2 5 (.int 0)) 3 = some (.int q3.1) := x_o1 l3_2 rfl rfl
  have l4_3 : zld (zs1 lv2 5 (.int 0)) 4 = some (.int 0) := x_o1 l4_2 rfl rfl
  have l5_3 : zld (zs1 lv2 5 (.int 0)) 5 = some (.int 0) := zs1_ld _ _ _
  generalize (zs1 lv2 5 (.int 0)) = lv3 at *
  refine r_s (fr' := (14, lv3, [.int 0])) (hp' := xW B q3.2) (q := (.iconst 0, 1, 0, 0, .null)) rfl (fun _ => rfl) (Nat.le_refl _) ?_
  refine q_si (k := 2) (i := 6) (q := (.istore 6, 2, 0, 0, .null)) rfl (fun _ => rfl) (by decide) ?_
  have l0_4 : zld (zs1 lv3 6 (.int 0)) 0 = some (.ref 70) := x_o1 l0_3 rfl rfl
  have l1_4 : zld (zs1 lv3 6 (.int 0)) 1 = some (.int v1) := x_o1 l1_3 rfl rfl
  have l2_4 : zld (zs1 lv3 6 (.int 0)) 2 = some (.int v2) := x_o1 l2_3 rfl rfl
  have l3_4 : zld (zs1 lv3 6 (.int 0)) 3 = some (.int q3.1) := x_o1 l3_3 rfl rfl
  have l4_4 : zld (zs1 lv3 6 (.int 0)) 4 = some (.int 0) := x_o1 l4_3 rfl rfl
  have l5_4 : zld (zs1 lv3 6 (.int 0)) 5 = some (.int 0) := x_o1 l5_3 rfl rfl
  have l6_4 : zld (zs1 lv3 6 (.int 0)) 6 = some (.int 0) := zs1_ld _ _ _
  generalize (zs1 lv3 6 (.int 0)) = lv4 at *
  exact T243_16 H he F F l0_4 l1_4 l2_4 l3_4 l4_4 l5_4 l6_4 h
set_option maxRecDepth 20000 in
theorem Z243 {B : zHp} (H : yH0 B) {F : Nat} {a1 : Int32} {a2 : Int32} {m : xS} {x : Unit × xS} (h : D243 F a1 a2 m = some x) {d : Nat} (hd : 5 ≤ d) : zCan d 243 [.ref 70, .int a1, .int a2] (xW B m) (none, xW B x.2) := by
  obtain ⟨e, rfl⟩ : ∃ e, d = e + 1 := ⟨d - 1, by omega⟩
  refine zCan_body (nL := 7) (rt := none) (cd := zc243) (xg243) ⟨Nat.le_of_ble_eq_true rfl, by decide⟩ (Nat.le_refl _) ?_
  exact T243 H hd F rfl rfl rfl h
/-- LentToolsModel.houseBy -/
def D245_64 (F : Nat) (g8 : Int32 → Int32 → Int32 → Int64 → Int32 → xS → Option (Int32 × xS)) (v1 : Int32) (v2 : Int32) (v3 : Int32) (v4 : Int64) (v6 : Int32) (m : xS) : Option (Int32 × xS) :=
  g8 v1 v2 v3 v4 (v6 + Int32.ofInt 1) m
set_option maxRecDepth 20000 in
theorem T245_64 {B : zHp} (H : yH0 B) {e : Nat} (he : 6 ≤ e + 1) (F : Nat) (g8 : Int32 → Int32 → Int32 → Int64 → Int32 → xS → Option (Int32 × xS)) (k8 : ∀ {v1 : Int32} {v2 : Int32} {v3 : Int32} {v4 : Int64} {v6 : Int32} {lv : List (Nat × Value)} {m : xS} {x : Int32 × xS}, zld lv 0 = some (.ref 70) → zld lv 1 = some (.int v1) → zld lv 2 = some (.int v2) → zld lv 3 = some (.int v3) → zld lv 4 = some (.long v4) → zld lv 6 = some (.int v6) → g8 v1 v2 v3 v4 v6 m = some x → zR none e 9 (some .int) zc245 (8, lv, []) (xW B m) (some (.int x.1), xW B x.2)) {v1 : Int32} {v2 : Int32} {v3 : Int32} {v4 : Int64} {v6 : Int32} {lv : List (Nat × Value)} {m : xS} {x : Int32 × xS} (l0 : zld lv 0 = some (.ref 70)) (l1 : zld lv 1 = some (.int v1)) (l2 : zld lv 2 = some (.int v2)) (l3 : zld lv 3 = some (.int v3)) (l4 : zld lv 4 = some (.long v4)) (l6 : zld lv 6 = some (.int v6)) (h : D245_64 F g8 v1 v2 v3 v4 v6 m = some x) : zR none e 9 (some .int) zc245 (64, lv, []) (xW B m) (some (.int x.1), xW B x.2) := by
  unfold D245_64 at h
  refine q_inc (i := 6) (n := 1) (q := (.iinc 6 1, 3, 0, 0, .null)) rfl (fun _ => rfl) l6 (by decide) ?_
  have l0_1 : zld (zs1 lv 6 (.int (v6 + Int32.ofInt 1))) 0 = some (.ref 70) := x_o1 l0 rfl rfl
  have l1_1 : zld (zs1 lv 6 (.int (v6 + Int32.ofInt 1))) 1 = some (.int v1) := x_o1 l1 rfl rfl
  have l2_1 : zld (zs1 lv 6 (.int (v6 + Int32.ofInt 1))) 2 = some (.int v2) := x_o1 l2 rfl rfl
  have l3_1 : zld (zs1 lv 6 (.int (v6 + Int32.ofInt 1))) 3 = some (.int v3) := x_o1 l3 rfl rfl
  have l4_1 : zld (zs1 lv 6 (.int (v6 + Int32.ofInt 1))) 4 = some (.long v4) := x_o1 l4 rfl rfl
  have l6_1 : zld (zs1 lv 6 (.int (v6 + Int32.ofInt 1))) 6 = some (.int (v6 + Int32.ofInt 1)) := zs1_ld _ _ _
  generalize (zs1 lv 6 (.int (v6 + Int32.ofInt 1))) = lv1 at *
  refine r_s (fr' := (8, lv1, [])) (hp' := xW B m) (q := (.goto (-59), 3, 8, 0, .null)) rfl (fun _ => rfl) (Nat.le_refl _) ?_
  exact k8 l0_1 l1_1 l2_1 l3_1 l4_1 l6_1 h
def D245_8 (F : Nat) : Nat → Int32 → Int32 → Int32 → Int64 → Int32 → xS → Option (Int32 × xS)
  | 0, _, _, _, _, _, _ => none
  | f + 1, v1, v2, v3, v4, v6, m =>
    if zcmp .ge v6 (m.1 80 0) = true then
      some (v3, m)
    else
      (D222 F v2 v6 m).bind fun q23 =>
        if zcmp .ne q23.1 0 = true then
          (D243 F v2 v6 q23.2).bind fun q36 =>
            (D244 F v1 q36.2).bind fun q41 =>
              if zcmp .gt (lg_cmp q41.1 v4) 0 = true then
                D245_64 F (D245_8 F f) v1 v2 v6 q41.1 v6 q41.2
              else
                D245_64 F (D245_8 F f) v1 v2 v3 v4 v6 q41.2
        else
          D245_64 F (D245_8 F f) v1 v2 v3 v4 v6 q23.2
set_option maxRecDepth 20000 in
theorem T245_8 {B : zHp} (H : yH0 B) {e : Nat} (he : 6 ≤ e + 1) (F : Nat) : ∀ (f : Nat) {v1 : Int32} {v2 : Int32} {v3 : Int32} {v4 : Int64} {v6 : Int32} {lv : List (Nat × Value)} {m : xS} {x : Int32 × xS}, zld lv 0 = some (.ref 70) → zld lv 1 = some (.int v1) → zld lv 2 = some (.int v2) → zld lv 3 = some (.int v3) → zld lv 4 = some (.long v4) → zld lv 6 = some (.int v6) → D245_8 F f v1 v2 v3 v4 v6 m = some x → zR none e 9 (some .int) zc245 (8, lv, []) (xW B m) (some (.int x.1), xW B x.2) := by
  intro f
  induction f with
  | zero => intro v1 v2 v3 v4 v6 lv m x l0 l1 l2 l3 l4 l6 h; cases h
  | succ f ih =>
    intro v1 v2 v3 v4 v6 lv m x l0 l1 l2 l3 l4 l6 h
    unfold D245_8 at h
    refine q_li (k := 2) (i := 6) (q := (.iload 6, 2, 0, 0, .null)) rfl (fun _ => rfl) l6 ?_
    refine q_lr (k := 1) (i := 0) (q := (.aload_n 0, 1, 0, 0, .null)) rfl (fun _ => rfl) l0 ?_
    refine r_gr (c := 80) H (pc := 11) rfl (by decide) (by decide) ?_
    refine r_s (fr' := (15, lv, [.int 0, .ref 80, .int v6])) (hp' := xW B m) (q := (.iconst 0, 1, 0, 0, .null)) rfl (fun _ => rfl) (Nat.le_refl _) ?_
    refine q_al (n := 148) (v := (m.1 80 0)) H (pc := 15) rfl (by decide) (by decide) rfl ?_
    refine r_ifc (len := 3) (a := 70) (b := 0) (v0 := .null) (cn := .ge) (off := 54) rfl (fun c => ?_) (fun c => ?_)
    · rw [if_pos c] at h
      refine q_li (k := 1) (i := 3) (q := (.iload_n 3, 1, 0, 0, .null)) rfl (fun _ => rfl) l3 ?_
      obtain rfl := Option.some.inj h
      exact q_ri (q := (.ireturn, 1, 0, 0, .null)) rfl (fun _ => rfl) rfl rfl
    · rw [if_neg (by rw [c]; decide)] at h
      refine q_lr (k := 1) (i := 0) (q := (.aload_n 0, 1, 0, 0, .null)) rfl (fun _ => rfl) l0 ?_
      refine q_li (k := 1) (i := 2) (q := (.iload_n 2, 1, 0, 0, .null)) rfl (fun _ => rfl) l2 ?_
      refine q_li (k := 2) (i := 6) (q := (.iload 6, 2, 0, 0, .null)) rfl (fun _ => rfl) l6 ?_
      obtain ⟨q23, h23, h⟩ := xbind h
      refine r_call (ix := 70) (as := [.int v2, .int v6]) (rest := []) (rv := some (.int q23.1)) (hp' := xW B q23.2) (pc := 23) rfl xr222 rfl rfl rfl (xkd H (by decide)) (Nat.le_of_ble_eq_true rfl) (Z222 H h23 (by omega)) (Nat.le_refl _) ?_
      refine r_if (len := 3) (a := 32) (b := 0) (v0 := .null) (cn := .ne) (off := 6) rfl (fun c => ?_) (fun c => ?_)
      · rw [if_pos c] at h
        refine q_lr (k := 1) (i := 0) (q := (.aload_n 0, 1, 0, 0, .null)) rfl (fun _ => rfl) l0 ?_
        refine q_li (k := 1) (i := 2) (q := (.iload_n 2, 1, 0, 0, .null)) rfl (fun _ => rfl) l2 ?_
        refine q_li (k := 2) (i := 6) (q := (.iload 6, 2, 0, 0, .null)) rfl (fun _ => rfl) l6 ?_
        obtain ⟨q36, h36, h⟩ := xbind h
        refine r_call (ix := 70) (as := [.int v2, .int v6]) (rest := []) (rv := none) (hp' := xW B q36.2) (pc := 36) rfl xr243 rfl rfl rfl (xkd H (by decide)) (Nat.le_of_ble_eq_true rfl) (Z243 H h36 (by omega)) (Nat.le_refl _) ?_
        refine q_lr (k := 1) (i := 0) (q := (.aload_n 0, 1, 0, 0, .null)) rfl (fun _ => rfl) l0 ?_
        refine q_li (k := 1) (i := 1) (q := (.iload_n 1, 1, 0, 0, .null)) rfl (fun _ => rfl) l1 ?_
        obtain ⟨q41, h41, h⟩ := xbind h
        refine r_call (ix := 70) (as := [.int v1]) (rest := []) (rv := some (.long q41.1)) (hp' := xW B q41.2) (pc := 41) rfl xr244 rfl rfl rfl (xkd H (by decide)) (Nat.le_of_ble_eq_true rfl) (Z244 H h41 (by omega)) (Nat.le_refl _) ?_
        refine q_sl (k := 2) (i := 7) (q := (.lstore 7, 2, 0, 0, .null)) rfl (fun _ => rfl) (by decide) ?_
        have l0_1 : zld (zs2 lv 7 (.long q41.1)) 0 = some (.ref 70) := x_o2 l0 rfl rfl rfl
        have l1_1 : zld (zs2 lv 7 (.long q41.1)) 1 = some (.int v1) := x_o2 l1 rfl rfl rfl
        have l2_1 : zld (zs2 lv 7 (.long q41.1)) 2 = some (.int v2) := x_o2 l2 rfl rfl rfl
        have l3_1 : zld (zs2 lv 7 (.long q41.1)) 3 = some (.int v3) := x_o2 l3 rfl rfl rfl
        have l4_1 : zld (zs2 lv 7 (.long q41.1)) 4 = some (.long v4) := x_o2 l4 rfl rfl rfl
        have l6_1 : zld (zs2 lv 7 (.long q41.1)) 6 = some (.int v6) := x_o2 l6 rfl rfl rfl
        have l7_1 : zld (zs2 lv 7 (.long q41.1)) 7 = some (.long q41.1) := zs2_ld _ _ _
        generalize (zs2 lv 7 (.long q41.1)) = lv1 at *
        refine q_ll (k := 2) (i := 7) (q := (.lload 7, 2, 0, 0, .null)) rfl (fun _ => rfl) l7_1 ?_
        refine q_ll (k := 2) (i := 4) (q := (.lload 4, 2, 0, 0, .null)) rfl (fun _ => rfl) l4_1 ?_
        refine r_s (fr' := (51, lv1, [.int (lg_cmp q41.1 v4)])) (hp' := xW B q41.2) (q := (.lcmp, 1, 0, 0, .null)) rfl (fun _ => rfl) (Nat.le_refl _) ?_
        refine r_if (len := 3) (a := 57) (b := 0) (v0 := .null) (cn := .gt) (off := 6) rfl (fun c => ?_) (fun c => ?_)
        · rw [if_pos c] at h
          refine q_li (k := 2) (i := 6) (q := (.iload 6, 2, 0, 0, .null)) rfl (fun _ => rfl) l6_1 ?_
          refine q_si (k := 1) (i := 3) (q := (.istore_n 3, 1, 0, 0, .null)) rfl (fun _ => rfl) (by decide) ?_
          have l0_2 : zld (zs1 lv1 3 (.int v6)) 0 = some (.ref 70) := x_o1 l0_1 rfl rfl
          have l1_2 : zld (zs1 lv1 3 (.int v6)) 1 = some (.int v1) := x_o1 l1_1 rfl rfl
          have l2_2 : zld (zs1 lv1 3 (.int v6)) 2 = some (.int v2) := x_o1 l2_1 rfl rfl
          have l3_2 : zld (zs1 lv1 3 (.int v6)) 3 = some (.int v6) := zs1_ld _ _ _
          have l4_2 : zld (zs1 lv1 3 (.int v6)) 4 = some (.long v4) := x_o1 l4_1 rfl rfl
          have l6_2 : zld (zs1 lv1 3 (.int v6)) 6 = some (.int v6) := x_o1 l6_1 rfl rfl
          have l7_2 : zld (zs1 lv1 3 (.int v6)) 7 = some (.long q41.1) := x_o1 l7_1 rfl rfl
          generalize (zs1 lv1 3 (.int v6)) = lv2 at *
          refine q_ll (k := 2) (i := 7) (q := (.lload 7, 2, 0, 0, .null)) rfl (fun _ => rfl) l7_2 ?_
          refine q_sl (k := 2) (i := 4) (q := (.lstore 4, 2, 0, 0, .null)) rfl (fun _ => rfl) (by decide) ?_
          have l0_3 : zld (zs2 lv2 4 (.long q41.1)) 0 = some (.ref 70) := x_o2 l0_2 rfl rfl rfl
          have l1_3 : zld (zs2 lv2 4 (.long q41.1)) 1 = some (.int v1) := x_o2 l1_2 rfl rfl rfl
          have l2_3 : zld (zs2 lv2 4 (.long q41.1)) 2 = some (.int v2) := x_o2 l2_2 rfl rfl rfl
          have l3_3 : zld (zs2 lv2 4 (.long q41.1)) 3 = some (.int v6) := x_o2 l3_2 rfl rfl rfl
          have l4_3 : zld (zs2 lv2 4 (.long q41.1)) 4 = some (.long q41.1) := zs2_ld _ _ _
          have l6_3 : zld (zs2 lv2 4 (.long q41.1)) 6 = some (.int v6) := x_o2 l6_2 rfl rfl rfl
          have l7_3 : zld (zs2 lv2 4 (.long q41.1)) 7 = some (.long q41.1) := x_o2 l7_2 rfl rfl rfl
          generalize (zs2 lv2 4 (.long q41.1)) = lv3 at *
          exact T245_64 H he F _ ih l0_3 l1_3 l2_3 l3_3 l4_3 l6_3 h
        · rw [if_neg (by rw [c]; decide)] at h
          refine r_s (fr' := (64, lv1, [])) (hp' := xW B q41.2) (q := (.goto 10, 3, 64, 0, .null)) rfl (fun _ => rfl) (Nat.le_refl _) ?_
          exact T245_64 H he F _ ih l0_1 l1_1 l2_1 l3_1 l4_1 l6_1 h
      · rw [if_neg (by rw [c]; decide)] at h
        refine r_s (fr' := (64, lv, [])) (hp' := xW B q23.2) (q := (.goto 35, 3, 64, 0, .null)) rfl (fun _ => rfl) (Nat.le_refl _) ?_
        exact T245_64 H he F _ ih l0 l1 l2 l3 l4 l6 h
def D245 (F : Nat) (v1 : Int32) (v2 : Int32) (m : xS) : Option (Int32 × xS) :=
  D245_8 F F v1 v2 (-1) 0 0 m
set_option maxRecDepth 20000 in
theorem T245 {B : zHp} (H : yH0 B) {e : Nat} (he : 6 ≤ e + 1) (F : Nat) {v1 : Int32} {v2 : Int32} {lv : List (Nat × Value)} {m : xS} {x : Int32 × xS} (l0 : zld lv 0 = some (.ref 70)) (l1 : zld lv 1 = some (.int v1)) (l2 : zld lv 2 = some (.int v2)) (h : D245 F v1 v2 m = some x) : zR none e 9 (some .int) zc245 (0, lv, []) (xW B m) (some (.int x.1), xW B x.2) := by
  unfold D245 at h
  refine r_s (fr' := (1, lv, [.int (-1)])) (hp' := xW B m) (q := (.iconst (-1), 1, 0, 0, .null)) rfl (fun _ => rfl) (Nat.le_refl _) ?_
  refine q_si (k := 1) (i := 3) (q := (.istore_n 3, 1, 0, 0, .null)) rfl (fun _ => rfl) (by decide) ?_
  have l0_1 : zld (zs1 lv 3 (.int (-1))) 0 = some (.ref 70) := x_o1 l0 rfl rfl
  have l1_1 : zld (zs1 lv 3 (.int (-1))) 1 = some (.int v1) := x_o1 l1 rfl rfl
  have l2_1 : zld (zs1 lv 3 (.int (-1))) 2 = some (.int v2) := x_o1 l2 rfl rfl
  have l3_1 : zld (zs1 lv 3 (.int (-1))) 3 = some (.int (-1)) := zs1_ld _ _ _
  generalize (zs1 lv 3 (.int (-1))) = lv1 at *
  refine r_s (fr' := (3, lv1, [.long 0])) (hp' := xW B m) (q := (.lconst 0, 1, 0, 0, .null)) rfl (fun _ => rfl) (Nat.le_refl _) ?_
  refine q_sl (k := 2) (i := 4) (q := (.lstore 4, 2, 0, 0, .null)) rfl (fun _ => rfl) (by decide) ?_
  have l0_2 : zld (zs2 lv1 4 (.long 0)) 0 = some (.ref 70) := x_o2 l0_1 rfl rfl rfl
  have l1_2 : zld (zs2 lv1 4 (.long 0)) 1 = some (.int v1) := x_o2 l1_1 rfl rfl rfl
  have l2_2 : zld (zs2 lv1 4 (.long 0)) 2 = some (.int v2) := x_o2 l2_1 rfl rfl rfl
  have l3_2 : zld (zs2 lv1 4 (.long 0)) 3 = some (.int (-1)) := x_o2 l3_1 rfl rfl rfl
  have l4_2 : zld (zs2 lv1 4 (.long 0)) 4 = some (.long 0) := zs2_ld _ _ _
  generalize (zs2 lv1 4 (.long 0)) = lv2 at *
  refine r_s (fr' := (6, lv2, [.int 0])) (hp' := xW B m) (q := (.iconst 0, 1, 0, 0, .null)) rfl (fun _ => rfl) (Nat.le_refl _) ?_
  refine q_si (k := 2) (i := 6) (q := (.istore 6, 2, 0, 0, .null)) rfl (fun _ => rfl) (by decide) ?_
  have l0_3 : zld (zs1 lv2 6 (.int 0)) 0 = some (.ref 70) := x_o1 l0_2 rfl rfl
  have l1_3 : zld (zs1 lv2 6 (.int 0)) 1 = some (.int v1) := x_o1 l1_2 rfl rfl
  have l2_3 : zld (zs1 lv2 6 (.int 0)) 2 = some (.int v2) := x_o1 l2_2 rfl rfl
  have l3_3 : zld (zs1 lv2 6 (.int 0)) 3 = some (.int (-1)) := x_o1 l3_2 rfl rfl
  have l4_3 : zld (zs1 lv2 6 (.int 0)) 4 = some (.long 0) := x_o1 l4_2 rfl rfl
  have l6_3 : zld (zs1 lv2 6 (.int 0)) 6 = some (.int 0) := zs1_ld _ _ _
  generalize (zs1 lv2 6 (.int 0)) = lv3 at *
  exact T245_8 H he F F l0_3 l1_3 l2_3 l3_3 l4_3 l6_3 h
set_option maxRecDepth 20000 in
theorem Z245 {B : zHp} (H : yH0 B) {F : Nat} {a1 : Int32} {a2 : Int32} {m : xS} {x : Int32 × xS} (h : D245 F a1 a2 m = some x) {d : Nat} (hd : 6 ≤ d) : zCan d 245 [.ref 70, .int a1, .int a2] (xW B m) (some (.int x.1), xW B x.2) := by
  obtain ⟨e, rfl⟩ : ∃ e, d = e + 1 := ⟨d - 1, by omega⟩
  refine zCan_body (nL := 9) (rt := (some .int)) (cd := zc245) (xg245) ⟨Nat.le_of_ble_eq_true rfl, by decide⟩ (Nat.le_refl _) ?_
  exact T245 H hd F rfl rfl rfl h
/-- LentToolsModel.goesBy -/
def D247_29 (F : Nat) (g2 : Int32 → Int32 → xS → Option (Int32 × xS)) (v1 : Int32) (v2 : Int32) (v3 : Int32) (m : xS) : Option (Int32 × xS) :=
  g2 v1 (v2 + Int32.ofInt 1) m
set_option maxRecDepth 20000 in
theorem T247_29 {B : zHp} (H : yH0 B) {e : Nat} (he : 7 ≤ e + 1) (F : Nat) (g2 : Int32 → Int32 → xS → Option (Int32 × xS)) (k2 : ∀ {v1 : Int32} {v2 : Int32} {lv : List (Nat × Value)} {m : xS} {x : Int32 × xS}, zld lv 0 = some (.ref 70) → zld lv 1 = some (.int v1) → zld lv 2 = some (.int v2) → g2 v1 v2 m = some x → zR none e 4 (some .int) zc247 (2, lv, []) (xW B m) (some (.int x.1), xW B x.2)) {v1 : Int32} {v2 : Int32} {v3 : Int32} {lv : List (Nat × Value)} {m : xS} {x : Int32 × xS} (l0 : zld lv 0 = some (.ref 70)) (l1 : zld lv 1 = some (.int v1)) (l2 : zld lv 2 = some (.int v2)) (l3 : zld lv 3 = some (.int v3)) (h : D247_29 F g2 v1 v2 v3 m = some x) : zR none e 4 (some .int) zc247 (29, lv, []) (xW B m) (some (.int x.1), xW B x.2) := by
  unfold D247_29 at h
  refine q_inc (i := 2) (n := 1) (q := (.iinc 2 1, 3, 0, 0, .null)) rfl (fun _ => rfl) l2 (by decide) ?_
  have l0_1 : zld (zs1 lv 2 (.int (v2 + Int32.ofInt 1))) 0 = some (.ref 70) := x_o1 l0 rfl rfl
  have l1_1 : zld (zs1 lv 2 (.int (v2 + Int32.ofInt 1))) 1 = some (.int v1) := x_o1 l1 rfl rfl
  have l2_1 : zld (zs1 lv 2 (.int (v2 + Int32.ofInt 1))) 2 = some (.int (v2 + Int32.ofInt 1)) := zs1_ld _ _ _
  have l3_1 : zld (zs1 lv 2 (.int (v2 + Int32.ofInt 1))) 3 = some (.int v3) := x_o1 l3 rfl rfl
  generalize (zs1 lv 2 (.int (v2 + Int32.ofInt 1))) = lv1 at *
  refine r_s (fr' := (2, lv1, [])) (hp' := xW B m) (q := (.goto (-30), 3, 2, 0, .null)) rfl (fun _ => rfl) (Nat.le_refl _) ?_
  exact k2 l0_1 l1_1 l2_1 h
def D247_2 (F : Nat) : Nat → Int32 → Int32 → xS → Option (Int32 × xS)
  | 0, _, _, _ => none
  | f + 1, v1, v2, m =>
    if zcmp .ge v2 (m.1 80 2) = true then
      (D246 F m).bind fun q36 =>
        (D233 F q36.2).bind fun q41 =>
          some (q36.1, q41.2)
    else
      (D245 F v1 v2 m).bind fun q15 =>
        if zcmp .lt q15.1 0 = true then
          D247_29 F (D247_2 F f) v1 v2 q15.1 q15.2
        else
          (D223 F v2 q15.1 q15.2).bind fun q26 =>
            D247_29 F (D247_2 F f) v1 v2 q15.1 q26.2
set_option maxRecDepth 20000 in
theorem T247_2 {B : zHp} (H : yH0 B) {e : Nat} (he : 7 ≤ e + 1) (F : Nat) : ∀ (f : Nat) {v1 : Int32} {v2 : Int32} {lv : List (Nat × Value)} {m : xS} {x : Int32 × xS}, zld lv 0 = some (.ref 70) → zld lv 1 = some (.int v1) → zld lv 2 = some (.int v2) → D247_2 F f v1 v2 m = some x → zR none e 4 (some .int) zc247 (2, lv, []) (xW B m) (some (.int x.1), xW B x.2) := by
  intro f
  induction f with
  | zero => intro v1 v2 lv m x l0 l1 l2 h; cases h
  | succ f ih =>
    intro v1 v2 lv m x l0 l1 l2 h
    unfold D247_2 at h
    refine q_li (k := 1) (i := 2) (q := (.iload_n 2, 1, 0, 0, .null)) rfl (fun _ => rfl) l2 ?_
    refine q_lr (k := 1) (i := 0) (q := (.aload_n 0, 1, 0, 0, .null)) rfl (fun _ => rfl) l0 ?_
    refine r_gr (c := 80) H (pc := 4) rfl (by decide) (by decide) ?_
    refine r_s (fr' := (8, lv, [.int 2, .ref 80, .int v2])) (hp' := xW B m) (q := (.iconst 2, 1, 0, 0, .null)) rfl (fun _ => rfl) (Nat.le_refl _) ?_
    refine q_al (n := 148) (v := (m.1 80 2)) H (pc := 8) rfl (by decide) (by decide) rfl ?_
    refine r_ifc (len := 3) (a := 35) (b := 0) (v0 := .null) (cn := .ge) (off := 26) rfl (fun c => ?_) (fun c => ?_)
    · rw [if_pos c] at h
      refine q_lr (k := 1) (i := 0) (q := (.aload_n 0, 1, 0, 0, .null)) rfl (fun _ => rfl) l0 ?_
      obtain ⟨q36, h36, h⟩ := xbind h
      refine r_call (ix := 70) (as := []) (rest := []) (rv := some (.int q36.1)) (hp' := xW B q36.2) (pc := 36) rfl xr246 rfl rfl rfl (xkd H (by decide)) (Nat.le_of_ble_eq_true rfl) (Z246 H h36 (by omega)) (Nat.le_refl _) ?_
      refine q_si (k := 1) (i := 2) (q := (.istore_n 2, 1, 0, 0, .null)) rfl (fun _ => rfl) (by decide) ?_
      have l0_1 : zld (zs1 lv 2 (.int q36.1)) 0 = some (.ref 70) := x_o1 l0 rfl rfl
      have l1_1 : zld (zs1 lv 2 (.int q36.1)) 1 = some (.int v1) := x_o1 l1 rfl rfl
      have l2_1 : zld (zs1 lv 2 (.int q36.1)) 2 = some (.int q36.1) := zs1_ld _ _ _
      generalize (zs1 lv 2 (.int q36.1)) = lv1 at *
      refine q_lr (k := 1) (i := 0) (q := (.aload_n 0, 1, 0, 0, .null)) rfl (fun _ => rfl) l0_1 ?_
      obtain ⟨q41, h41, h⟩ := xbind h
      refine r_call (ix := 70) (as := []) (rest := []) (rv := some (.int q41.1)) (hp' := xW B q41.2) (pc := 41) rfl xr233 rfl rfl rfl (xkd H (by decide)) (Nat.le_of_ble_eq_true rfl) (Z233 H h41 (by omega)) (Nat.le_refl _) ?_
      refine r_s (fr' := (45, lv1, [])) (hp' := xW B q41.2) (q := (.pop, 1, 0, 0, .null)) rfl (fun _ => rfl) (Nat.le_refl _) ?_
      refine q_li (k := 1) (i := 2) (q := (.iload_n 2, 1, 0, 0, .null)) rfl (fun _ => rfl) l2_1 ?_
      obtain rfl := Option.some.inj h
      exact q_ri (q := (.ireturn, 1, 0, 0, .null)) rfl (fun _ => rfl) rfl rfl
    · rw [if_neg (by rw [c]; decide)] at h
      refine q_lr (k := 1) (i := 0) (q := (.aload_n 0, 1, 0, 0, .null)) rfl (fun _ => rfl) l0 ?_
      refine q_li (k := 1) (i := 1) (q := (.iload_n 1, 1, 0, 0, .null)) rfl (fun _ => rfl) l1 ?_
      refine q_li (k := 1) (i := 2) (q := (.iload_n 2, 1, 0, 0, .null)) rfl (fun _ => rfl) l2 ?_
      obtain ⟨q15, h15, h⟩ := xbind h
      refine r_call (ix := 70) (as := [.int v1, .int v2]) (rest := []) (rv := some (.int q15.1)) (hp' := xW B q15.2) (pc := 15) rfl xr245 rfl rfl rfl (xkd H (by decide)) (Nat.le_of_ble_eq_true rfl) (Z245 H h15 (by omega)) (Nat.le_refl _) ?_
      refine q_si (k := 1) (i := 3) (q := (.istore_n 3, 1, 0, 0, .null)) rfl (fun _ => rfl) (by decide) ?_
      have l0_2 : zld (zs1 lv 3 (.int q15.1)) 0 = some (.ref 70) := x_o1 l0 rfl rfl
      have l1_2 : zld (zs1 lv 3 (.int q15.1)) 1 = some (.int v1) := x_o1 l1 rfl rfl
      have l2_2 : zld (zs1 lv 3 (.int q15.1)) 2 = some (.int v2) := x_o1 l2 rfl rfl
      have l3_2 : zld (zs1 lv 3 (.int q15.1)) 3 = some (.int q15.1) := zs1_ld _ _ _
      generalize (zs1 lv 3 (.int q15.1)) = lv2 at *
      refine q_li (k := 1) (i := 3) (q := (.iload_n 3, 1, 0, 0, .null)) rfl (fun _ => rfl) l3_2 ?_
      refine r_if (len := 3) (a := 29) (b := 0) (v0 := .null) (cn := .lt) (off := 9) rfl (fun c => ?_) (fun c => ?_)
      · rw [if_pos c] at h
        exact T247_29 H he F _ ih l0_2 l1_2 l2_2 l3_2 h
      · rw [if_neg (by rw [c]; decide)] at h
        refine q_lr (k := 1) (i := 0) (q := (.aload_n 0, 1, 0, 0, .null)) rfl (fun _ => rfl) l0_2 ?_
        refine q_li (k := 1) (i := 2) (q := (.iload_n 2, 1, 0, 0, .null)) rfl (fun _ => rfl) l2_2 ?_
        refine q_li (k := 1) (i := 3) (q := (.iload_n 3, 1, 0, 0, .null)) rfl (fun _ => rfl) l3_2 ?_
        obtain ⟨q26, h26, h⟩ := xbind h
        refine r_call (ix := 70) (as := [.int v2, .int q15.1]) (rest := []) (rv := none) (hp' := xW B q26.2) (pc := 26) rfl xr223 rfl rfl rfl (xkd H (by decide)) (Nat.le_of_ble_eq_true rfl) (Z223 H h26 (by omega)) (Nat.le_refl _) ?_
        exact T247_29 H he F _ ih l0_2 l1_2 l2_2 l3_2 h
def D247 (F : Nat) (v1 : Int32) (m : xS) : Option (Int32 × xS) :=
  D247_2 F F v1 0 m
set_option maxRecDepth 20000 in
theorem T247 {B : zHp} (H : yH0 B) {e : Nat} (he : 7 ≤ e + 1) (F : Nat) {v1 : Int32} {lv : List (Nat × Value)} {m : xS} {x : Int32 × xS} (l0 : zld lv 0 = some (.ref 70)) (l1 : zld lv 1 = some (.int v1)) (h : D247 F v1 m = some x) : zR none e 4 (some .int) zc247 (0, lv, []) (xW B m) (some (.int x.1), xW B x.2) := by
  unfold D247 at h
  refine r_s (fr' := (1, lv, [.int 0])) (hp' := xW B m) (q := (.iconst 0, 1, 0, 0, .null)) rfl (fun _ => rfl) (Nat.le_refl _) ?_
  refine q_si (k := 1) (i := 2) (q := (.istore_n 2, 1, 0, 0, .null)) rfl (fun _ => rfl) (by decide) ?_
  have l0_1 : zld (zs1 lv 2 (.int 0)) 0 = some (.ref 70) := x_o1 l0 rfl rfl
  have l1_1 : zld (zs1 lv 2 (.int 0)) 1 = some (.int v1) := x_o1 l1 rfl rfl
  have l2_1 : zld (zs1 lv 2 (.int 0)) 2 = some (.int 0) := zs1_ld _ _ _
  generalize (zs1 lv 2 (.int 0)) = lv1 at *
  exact T247_2 H he F F l0_1 l1_1 l2_1 h
set_option maxRecDepth 20000 in
theorem Z247 {B : zHp} (H : yH0 B) {F : Nat} {a1 : Int32} {m : xS} {x : Int32 × xS} (h : D247 F a1 m = some x) {d : Nat} (hd : 7 ≤ d) : zCan d 247 [.ref 70, .int a1] (xW B m) (some (.int x.1), xW B x.2) := by
  obtain ⟨e, rfl⟩ : ∃ e, d = e + 1 := ⟨d - 1, by omega⟩
  refine zCan_body (nL := 4) (rt := (some .int)) (cd := zc247) (xg247) ⟨Nat.le_of_ble_eq_true rfl, by decide⟩ (Nat.le_refl _) ?_
  exact T247 H hd F rfl rfl h
/-- LentToolsModel.run -/
def D248_41 (F : Nat) (v1 : Int32) (v2 : Int32) (m : xS) : Option (Int32 × xS) :=
  some ((-1), m)
set_option maxRecDepth 20000 in
theorem T248_41 {B : zHp} (H : yH0 B) {e : Nat} (he : 8 ≤ e + 1) (F : Nat) {v1 : Int32} {v2 : Int32} {lv : List (Nat × Value)} {m : xS} {x : Int32 × xS} (l0 : zld lv 0 = some (.ref 70)) (l1 : zld lv 1 = some (.int v1)) (l2 : zld lv 2 = some (.int v2)) (h : D248_41 F v1 v2 m = some x) : zR none e 5 (some .int) zc248 (41, lv, []) (xW B m) (some (.int x.1), xW B x.2) := by
  unfold D248_41 at h
  refine r_s (fr' := (42, lv, [.int (-1)])) (hp' := xW B m) (q := (.iconst (-1), 1, 0, 0, .null)) rfl (fun _ => rfl) (Nat.le_refl _) ?_
  obtain rfl := Option.some.inj h
  exact q_ri (q := (.ireturn, 1, 0, 0, .null)) rfl (fun _ => rfl) rfl rfl
def D248_53 (F : Nat) : Nat → Int32 → Int32 → Int32 → Int32 → xS → Option (Int32 × xS)
  | 0, _, _, _, _, _ => none
  | f + 1, v1, v2, v3, v4, m =>
    if zcmp .ge v4 v2 = true then
      some (v3, m)
    else
      (D247 F v1 m).bind fun q62 =>
        D248_53 F f v1 v2 (v3 + q62.1) (v4 + Int32.ofInt 1) q62.2
set_option maxRecDepth 20000 in
theorem T248_53 {B : zHp} (H : yH0 B) {e : Nat} (he : 8 ≤ e + 1) (F : Nat) : ∀ (f : Nat) {v1 : Int32} {v2 : Int32} {v3 : Int32} {v4 : Int32} {lv : List (Nat × Value)} {m : xS} {x : Int32 × xS}, zld lv 0 = some (.ref 70) → zld lv 1 = some (.int v1) → zld lv 2 = some (.int v2) → zld lv 3 = some (.int v3) → zld lv 4 = some (.int v4) → D248_53 F f v1 v2 v3 v4 m = some x → zR none e 5 (some .int) zc248 (53, lv, []) (xW B m) (some (.int x.1), xW B x.2) := by
  intro f
  induction f with
  | zero => intro v1 v2 v3 v4 lv m x l0 l1 l2 l3 l4 h; cases h
  | succ f ih =>
    intro v1 v2 v3 v4 lv m x l0 l1 l2 l3 l4 h
    unfold D248_53 at h
    refine q_li (k := 2) (i := 4) (q := (.iload 4, 2, 0, 0, .null)) rfl (fun _ => rfl) l4 ?_
    refine q_li (k := 1) (i := 2) (q := (.iload_n 2, 1, 0, 0, .null)) rfl (fun _ => rfl) l2 ?_
    refine r_ifc (len := 3) (a := 73) (b := 0) (v0 := .null) (cn := .ge) (off := 17) rfl (fun c => ?_) (fun c => ?_)
    · rw [if_pos c] at h
      refine q_li (k := 1) (i := 3) (q := (.iload_n 3, 1, 0, 0, .null)) rfl (fun _ => rfl) l3 ?_
      obtain rfl := Option.some.inj h
      exact q_ri (q := (.ireturn, 1, 0, 0, .null)) rfl (fun _ => rfl) rfl rfl
    · rw [if_neg (by rw [c]; decide)] at h
      refine q_li (k := 1) (i := 3) (q := (.iload_n 3, 1, 0, 0, .null)) rfl (fun _ => rfl) l3 ?_
      refine q_lr (k := 1) (i := 0) (q := (.aload_n 0, 1, 0, 0, .null)) rfl (fun _ => rfl) l0 ?_
      refine q_li (k := 1) (i := 1) (q := (.iload_n 1, 1, 0, 0, .null)) rfl (fun _ => rfl) l1 ?_
      obtain ⟨q62, h62, h⟩ := xbind h
      refine r_call (ix := 70) (as := [.int v1]) (rest := [.int v3]) (rv := some (.int q62.1)) (hp' := xW B q62.2) (pc := 62) rfl xr247 rfl rfl rfl (xkd H (by decide)) (Nat.le_of_ble_eq_true rfl) (Z247 H h62 (by omega)) (Nat.le_refl _) ?_
      refine r_s (fr' := (66, lv, [.int (v3 + q62.1)])) (hp' := xW B q62.2) (q := (.iadd, 1, 0, 0, .null)) rfl (fun _ => rfl) (Nat.le_refl _) ?_
      refine q_si (k := 1) (i := 3) (q := (.istore_n 3, 1, 0, 0, .null)) rfl (fun _ => rfl) (by decide) ?_
      have l0_1 : zld (zs1 lv 3 (.int (v3 + q62.1))) 0 = some (.ref 70) := x_o1 l0 rfl rfl
      have l1_1 : zld (zs1 lv 3 (.int (v3 + q62.1))) 1 = some (.int v1) := x_o1 l1 rfl rfl
      have l2_1 : zld (zs1 lv 3 (.int (v3 + q62.1))) 2 = some (.int v2) := x_o1 l2 rfl rfl
      have l3_1 : zld (zs1 lv 3 (.int (v3 + q62.1))) 3 = some (.int (v3 + q62.1)) := zs1_ld _ _ _
      have l4_1 : zld (zs1 lv 3 (.int (v3 + q62.1))) 4 = some (.int v4) := x_o1 l4 rfl rfl
      generalize (zs1 lv 3 (.int (v3 + q62.1))) = lv1 at *
      refine q_inc (i := 4) (n := 1) (q := (.iinc 4 1, 3, 0, 0, .null)) rfl (fun _ => rfl) l4_1 (by decide) ?_
      have l0_2 : zld (zs1 lv1 4 (.int (v4 + Int32.ofInt 1))) 0 = some (.ref 70) := x_o1 l0_1 rfl rfl
      have l1_2 : zld (zs1 lv1 4 (.int (v4 + Int32.ofInt 1))) 1 = some (.int v1) := x_o1 l1_1 rfl rfl
      have l2_2 : zld (zs1 lv1 4 (.int (v4 + Int32.ofInt 1))) 2 = some (.int v2) := x_o1 l2_1 rfl rfl
      have l3_2 : zld (zs1 lv1 4 (.int (v4 + Int32.ofInt 1))) 3 = some (.int (v3 + q62.1)) := x_o1 l3_1 rfl rfl
      have l4_2 : zld (zs1 lv1 4 (.int (v4 + Int32.ofInt 1))) 4 = some (.int (v4 + Int32.ofInt 1)) := zs1_ld _ _ _
      generalize (zs1 lv1 4 (.int (v4 + Int32.ofInt 1))) = lv2 at *
      refine r_s (fr' := (53, lv2, [])) (hp' := xW B q62.2) (q := (.goto (-17), 3, 53, 0, .null)) rfl (fun _ => rfl) (Nat.le_refl _) ?_
      exact ih l0_2 l1_2 l2_2 l3_2 l4_2 h
def D248 (F : Nat) (v1 : Int32) (v2 : Int32) (m : xS) : Option (Int32 × xS) :=
  (D204 F m).bind fun q1 =>
    if zcmp .eq q1.1 0 = true then
      D248_41 F v1 v2 q1.2
    else
      (D199 F v1 q1.2).bind fun q9 =>
        if zcmp .eq q9.1 0 = true then
          D248_41 F v1 v2 q9.2
        else
          (D158 F (v2 : Int32).toInt64 1 60 q9.2).bind fun q21 =>
            if zcmp .eq q21.1 0 = true then
              D248_41 F v1 v2 q21.2
            else
              if zcmp .le ((q21.2.1 80 4) + v2) 999 = true then
                D248_53 F F v1 v2 0 0 (xu q21.2 70 25 0)
              else
                D248_41 F v1 v2 q21.2
set_option maxRecDepth 20000 in
theorem T248 {B : zHp} (H : yH0 B) {e : Nat} (he : 8 ≤ e + 1) (F : Nat) {v1 : Int32} {v2 : Int32} {lv : List (Nat × Value)} {m : xS} {x : Int32 × xS} (l0 : zld lv 0 = some (.ref 70)) (l1 : zld lv 1 = some (.int v1)) (l2 : zld lv 2 = some (.int v2)) (h : D248 F v1 v2 m = some x) : zR none e 5 (some .int) zc248 (0, lv, []) (xW B m) (some (.int x.1), xW B x.2) := by
  unfold D248 at h
  refine q_lr (k := 1) (i := 0) (q := (.aload_n 0, 1, 0, 0, .null)) rfl (fun _ => rfl) l0 ?_
  obtain ⟨q1, h1, h⟩ := xbind h
  refine r_call (ix := 70) (as := []) (rest := []) (rv := some (.int q1.1)) (hp' := xW B q1.2) (pc := 1) rfl xr204 rfl rfl rfl (xkd H (by decide)) (Nat.le_of_ble_eq_true rfl) (Z204 H h1 (by omega)) (Nat.le_refl _) ?_
  refine r_if (len := 3) (a := 41) (b := 0) (v0 := .null) (cn := .eq) (off := 37) rfl (fun c => ?_) (fun c => ?_)
  · rw [if_pos c] at h
    exact T248_41 H he F l0 l1 l2 h
  · rw [if_neg (by rw [c]; decide)] at h
    refine q_lr (k := 1) (i := 0) (q := (.aload_n 0, 1, 0, 0, .null)) rfl (fun _ => rfl) l0 ?_
    refine q_li (k := 1) (i := 1) (q := (.iload_n 1, 1, 0, 0, .null)) rfl (fun _ => rfl) l1 ?_
    obtain ⟨q9, h9, h⟩ := xbind h
    refine r_call (ix := 70) (as := [.int v1]) (rest := []) (rv := some (.int q9.1)) (hp' := xW B q9.2) (pc := 9) rfl xr199 rfl rfl rfl (xkd H (by decide)) (Nat.le_of_ble_eq_true rfl) (Z199 H h9 (by omega)) (Nat.le_refl _) ?_
    refine r_if (len := 3) (a := 41) (b := 0) (v0 := .null) (cn := .eq) (off := 29) rfl (fun c => ?_) (fun c => ?_)
    · rw [if_pos c] at h
      exact T248_41 H he F l0 l1 l2 h
    · rw [if_neg (by rw [c]; decide)] at h
      refine q_li (k := 1) (i := 2) (q := (.iload_n 2, 1, 0, 0, .null)) rfl (fun _ => rfl) l2 ?_
      refine r_s (fr' := (17, lv, [.long (v2 : Int32).toInt64])) (hp' := xW B q9.2) (q := (.i2l, 1, 0, 0, .null)) rfl (fun _ => rfl) (Nat.le_refl _) ?_
      refine r_s (fr' := (18, lv, [.long 1, .long (v2 : Int32).toInt64])) (hp' := xW B q9.2) (q := (.lconst 1, 1, 0, 0, .null)) rfl (fun _ => rfl) (Nat.le_refl _) ?_
      refine r_s (fr' := (21, lv, [.long 60, .long 1, .long (v2 : Int32).toInt64])) (hp' := xW B q9.2) (q := (.ldc2_w 392, 3, 0, 0, .long 60)) rfl (fun _ => rfl) (Nat.le_refl _) ?_
      obtain ⟨q21, h21, h⟩ := xbind h
      refine r_callS (as := [.long (v2 : Int32).toInt64, .long 1, .long 60]) (rest := []) (rv := some (.int q21.1)) (hp' := xW B q21.2) (pc := 21) rfl xr158 rfl rfl rfl (Nat.le_of_ble_eq_true rfl) (Z158 H h21 (by omega)) (Nat.le_refl _) ?_
      refine r_if (len := 3) (a := 41) (b := 0) (v0 := .null) (cn := .eq) (off := 17) rfl (fun c => ?_) (fun c => ?_)
      · rw [if_pos c] at h
        exact T248_41 H he F l0 l1 l2 h
      · rw [if_neg (by rw [c]; decide)] at h
        refine q_lr (k := 1) (i := 0) (q := (.aload_n 0, 1, 0, 0, .null)) rfl (fun _ => rfl) l0 ?_
        refine r_gr (c := 80) H (pc := 28) rfl (by decide) (by decide) ?_
        refine r_s (fr' := (32, lv, [.int 4, .ref 80])) (hp' := xW B q21.2) (q := (.iconst 4, 1, 0, 0, .null)) rfl (fun _ => rfl) (Nat.le_refl _) ?_
        refine q_al (n := 148) (v := (q21.2.1 80 4)) H (pc := 32) rfl (by decide) (by decide) rfl ?_
        refine q_li (k := 1) (i := 2) (q := (.iload_n 2, 1, 0, 0, .null)) rfl (fun _ => rfl) l2 ?_
        refine r_s (fr' := (35, lv, [.int ((q21.2.1 80 4) + v2)])) (hp' := xW B q21.2) (q := (.iadd, 1, 0, 0, .null)) rfl (fun _ => rfl) (Nat.le_refl _) ?_
        refine r_s (fr' := (38, lv, [.int 999, .int ((q21.2.1 80 4) + v2)])) (hp' := xW B q21.2) (q := (.sipush 999, 3, 0, 0, .null)) rfl (fun _ => rfl) (Nat.le_refl _) ?_
        refine r_ifc (len := 3) (a := 43) (b := 0) (v0 := .null) (cn := .le) (off := 5) rfl (fun c => ?_) (fun c => ?_)
        · rw [if_pos c] at h
          refine q_lr (k := 1) (i := 0) (q := (.aload_n 0, 1, 0, 0, .null)) rfl (fun _ => rfl) l0 ?_
          refine r_s (fr' := (45, lv, [.int 0, .ref 70])) (hp' := xW B q21.2) (q := (.iconst 0, 1, 0, 0, .null)) rfl (fun _ => rfl) (Nat.le_refl _) ?_
          refine r_pi (s2 := (xu q21.2 70 25 0)) H (pc := 45) rfl (by decide) rfl rfl ?_
          refine r_s (fr' := (49, lv, [.int 0])) (hp' := xW B (xu q21.2 70 25 0)) (q := (.iconst 0, 1, 0, 0, .null)) rfl (fun _ => rfl) (Nat.le_refl _) ?_
          refine q_si (k := 1) (i := 3) (q := (.istore_n 3, 1, 0, 0, .null)) rfl (fun _ => rfl) (by decide) ?_
          have l0_1 : zld (zs1 lv 3 (.int 0)) 0 = some (.ref 70) := x_o1 l0 rfl rfl
          have l1_1 : zld (zs1 lv 3 (.int 0)) 1 = some (.int v1) := x_o1 l1 rfl rfl
          have l2_1 : zld (zs1 lv 3 (.int 0)) 2 = some (.int v2) := x_o1 l2 rfl rfl
          have l3_1 : zld (zs1 lv 3 (.int 0)) 3 = some (.int 0) := zs1_ld _ _ _
          generalize (zs1 lv 3 (.int 0)) = lv1 at *
          refine r_s (fr' := (51, lv1, [.int 0])) (hp' := xW B (xu q21.2 70 25 0)) (q := (.iconst 0, 1, 0, 0, .null)) rfl (fun _ => rfl) (Nat.le_refl _) ?_
          refine q_si (k := 2) (i := 4) (q := (.istore 4, 2, 0, 0, .null)) rfl (fun _ => rfl) (by decide) ?_
          have l0_2 : zld (zs1 lv1 4 (.int 0)) 0 = some (.ref 70) := x_o1 l0_1 rfl rfl
          have l1_2 : zld (zs1 lv1 4 (.int 0)) 1 = some (.int v1) := x_o1 l1_1 rfl rfl
          have l2_2 : zld (zs1 lv1 4 (.int 0)) 2 = some (.int v2) := x_o1 l2_1 rfl rfl
          have l3_2 : zld (zs1 lv1 4 (.int 0)) 3 = some (.int 0) := x_o1 l3_1 rfl rfl
          have l4_2 : zld (zs1 lv1 4 (.int 0)) 4 = some (.int 0) := zs1_ld _ _ _
          generalize (zs1 lv1 4 (.int 0)) = lv2 at *
          exact T248_53 H he F F l0_2 l1_2 l2_2 l3_2 l4_2 h
        · rw [if_neg (by rw [c]; decide)] at h
          exact T248_41 H he F l0 l1 l2 h
set_option maxRecDepth 20000 in
theorem Z248 {B : zHp} (H : yH0 B) {F : Nat} {a1 : Int32} {a2 : Int32} {m : xS} {x : Int32 × xS} (h : D248 F a1 a2 m = some x) {d : Nat} (hd : 8 ≤ d) : zCan d 248 [.ref 70, .int a1, .int a2] (xW B m) (some (.int x.1), xW B x.2) := by
  obtain ⟨e, rfl⟩ : ∃ e, d = e + 1 := ⟨d - 1, by omega⟩
  refine zCan_body (nL := 5) (rt := (some .int)) (cd := zc248) (xg248) ⟨Nat.le_of_ble_eq_true rfl, by decide⟩ (Nat.le_refl _) ?_
  exact T248 H hd F rfl rfl rfl h
/-- LentToolsModel.areAllDone -/
def D268_2 (F : Nat) : Nat → Int32 → xS → Option (Int32 × xS)
  | 0, _, _ => none
  | f + 1, v1, m =>
    if zcmp .ge v1 (m.1 80 3) = true then
      some (1, m)
    else
      (D215 F v1 m).bind fun q14 =>
        if zcmp .ne q14.1 0 = true then
          D268_2 F f (v1 + Int32.ofInt 1) q14.2
        else
          some (0, q14.2)
set_option maxRecDepth 20000 in
theorem T268_2 {B : zHp} (H : yH0 B) {e : Nat} (he : 2 ≤ e + 1) (F : Nat) : ∀ (f : Nat) {v1 : Int32} {lv : List (Nat × Value)} {m : xS} {x : Int32 × xS}, zld lv 0 = some (.ref 70) → zld lv 1 = some (.int v1) → D268_2 F f v1 m = some x → zR none e 2 (some .boolean) zc268 (2, lv, []) (xW B m) (some (.int x.1), xW B x.2) := by
  intro f
  induction f with
  | zero => intro v1 lv m x l0 l1 h; cases h
  | succ f ih =>
    intro v1 lv m x l0 l1 h
    unfold D268_2 at h
    refine q_li (k := 1) (i := 1) (q := (.iload_n 1, 1, 0, 0, .null)) rfl (fun _ => rfl) l1 ?_
    refine q_lr (k := 1) (i := 0) (q := (.aload_n 0, 1, 0, 0, .null)) rfl (fun _ => rfl) l0 ?_
    refine r_gr (c := 80) H (pc := 4) rfl (by decide) (by decide) ?_
    refine r_s (fr' := (8, lv, [.int 3, .ref 80, .int v1])) (hp' := xW B m) (q := (.iconst 3, 1, 0, 0, .null)) rfl (fun _ => rfl) (Nat.le_refl _) ?_
    refine q_al (n := 148) (v := (m.1 80 3)) H (pc := 8) rfl (by decide) (by decide) rfl ?_
    refine r_ifc (len := 3) (a := 28) (b := 0) (v0 := .null) (cn := .ge) (off := 19) rfl (fun c => ?_) (fun c => ?_)
    · rw [if_pos c] at h
      refine r_s (fr' := (29, lv, [.int 1])) (hp' := xW B m) (q := (.iconst 1, 1, 0, 0, .null)) rfl (fun _ => rfl) (Nat.le_refl _) ?_
      obtain rfl := Option.some.inj h
      exact q_ri (q := (.ireturn, 1, 0, 0, .null)) rfl (fun _ => rfl) rfl rfl
    · rw [if_neg (by rw [c]; decide)] at h
      refine q_lr (k := 1) (i := 0) (q := (.aload_n 0, 1, 0, 0, .null)) rfl (fun _ => rfl) l0 ?_
      refine q_li (k := 1) (i := 1) (q := (.iload_n 1, 1, 0, 0, .null)) rfl (fun _ => rfl) l1 ?_
      obtain ⟨q14, h14, h⟩ := xbind h
      refine r_call (ix := 70) (as := [.int v1]) (rest := []) (rv := some (.int q14.1)) (hp' := xW B q14.2) (pc := 14) rfl xr215 rfl rfl rfl (xkd H (by decide)) (Nat.le_of_ble_eq_true rfl) (Z215 H h14 (by omega)) (Nat.le_refl _) ?_
      refine r_if (len := 3) (a := 22) (b := 0) (v0 := .null) (cn := .ne) (off := 5) rfl (fun c => ?_) (fun c => ?_)
      · rw [if_pos c] at h
        refine q_inc (i := 1) (n := 1) (q := (.iinc 1 1, 3, 0, 0, .null)) rfl (fun _ => rfl) l1 (by decide) ?_
        have l0_1 : zld (zs1 lv 1 (.int (v1 + Int32.ofInt 1))) 0 = some (.ref 70) := x_o1 l0 rfl rfl
        have l1_1 : zld (zs1 lv 1 (.int (v1 + Int32.ofInt 1))) 1 = some (.int (v1 + Int32.ofInt 1)) := zs1_ld _ _ _
        generalize (zs1 lv 1 (.int (v1 + Int32.ofInt 1))) = lv1 at *
        refine r_s (fr' := (2, lv1, [])) (hp' := xW B q14.2) (q := (.goto (-23), 3, 2, 0, .null)) rfl (fun _ => rfl) (Nat.le_refl _) ?_
        exact ih l0_1 l1_1 h
      · rw [if_neg (by rw [c]; decide)] at h
        refine r_s (fr' := (21, lv, [.int 0])) (hp' := xW B q14.2) (q := (.iconst 0, 1, 0, 0, .null)) rfl (fun _ => rfl) (Nat.le_refl _) ?_
        obtain rfl := Option.some.inj h
        exact q_ri (q := (.ireturn, 1, 0, 0, .null)) rfl (fun _ => rfl) rfl rfl
def D268 (F : Nat) (m : xS) : Option (Int32 × xS) :=
  D268_2 F F 0 m
set_option maxRecDepth 20000 in
theorem T268 {B : zHp} (H : yH0 B) {e : Nat} (he : 2 ≤ e + 1) (F : Nat) {lv : List (Nat × Value)} {m : xS} {x : Int32 × xS} (l0 : zld lv 0 = some (.ref 70)) (h : D268 F m = some x) : zR none e 2 (some .boolean) zc268 (0, lv, []) (xW B m) (some (.int x.1), xW B x.2) := by
  unfold D268 at h
  refine r_s (fr' := (1, lv, [.int 0])) (hp' := xW B m) (q := (.iconst 0, 1, 0, 0, .null)) rfl (fun _ => rfl) (Nat.le_refl _) ?_
  refine q_si (k := 1) (i := 1) (q := (.istore_n 1, 1, 0, 0, .null)) rfl (fun _ => rfl) (by decide) ?_
  have l0_1 : zld (zs1 lv 1 (.int 0)) 0 = some (.ref 70) := x_o1 l0 rfl rfl
  have l1_1 : zld (zs1 lv 1 (.int 0)) 1 = some (.int 0) := zs1_ld _ _ _
  generalize (zs1 lv 1 (.int 0)) = lv1 at *
  exact T268_2 H he F F l0_1 l1_1 h
set_option maxRecDepth 20000 in
theorem Z268 {B : zHp} (H : yH0 B) {F : Nat} {m : xS} {x : Int32 × xS} (h : D268 F m = some x) {d : Nat} (hd : 2 ≤ d) : zCan d 268 [.ref 70] (xW B m) (some (.int x.1), xW B x.2) := by
  obtain ⟨e, rfl⟩ : ∃ e, d = e + 1 := ⟨d - 1, by omega⟩
  refine zCan_body (nL := 2) (rt := (some .boolean)) (cd := zc268) (xg268) ⟨Nat.le_of_ble_eq_true rfl, by decide⟩ (Nat.le_refl _) ?_
  exact T268 H hd F rfl h
/-- LentToolsModel.done -/
def D269_15 (F : Nat) (v1 : Int32) (m : xS) : Option (Int32 × xS) :=
  some ((-1), m)
set_option maxRecDepth 20000 in
theorem T269_15 {B : zHp} (H : yH0 B) {e : Nat} (he : 8 ≤ e + 1) (F : Nat) {v1 : Int32} {lv : List (Nat × Value)} {m : xS} {x : Int32 × xS} (l0 : zld lv 0 = some (.ref 70)) (l1 : zld lv 1 = some (.int v1)) (h : D269_15 F v1 m = some x) : zR none e 4 (some .int) zc269 (15, lv, []) (xW B m) (some (.int x.1), xW B x.2) := by
  unfold D269_15 at h
  refine r_s (fr' := (16, lv, [.int (-1)])) (hp' := xW B m) (q := (.iconst (-1), 1, 0, 0, .null)) rfl (fun _ => rfl) (Nat.le_refl _) ?_
  obtain rfl := Option.some.inj h
  exact q_ri (q := (.ireturn, 1, 0, 0, .null)) rfl (fun _ => rfl) rfl rfl
def D269_72 (F : Nat) (g40 : Int32 → Int32 → Int32 → xS → Option (Int32 × xS)) (v1 : Int32) (v2 : Int32) (v3 : Int32) (m : xS) : Option (Int32 × xS) :=
  g40 v1 v2 (v3 + Int32.ofInt 1) m
set_option maxRecDepth 20000 in
theorem T269_72 {B : zHp} (H : yH0 B) {e : Nat} (he : 8 ≤ e + 1) (F : Nat) (g40 : Int32 → Int32 → Int32 → xS → Option (Int32 × xS)) (k40 : ∀ {v1 : Int32} {v2 : Int32} {v3 : Int32} {lv : List (Nat × Value)} {m : xS} {x : Int32 × xS}, zld lv 0 = some (.ref 70) → zld lv 1 = some (.int v1) → zld lv 2 = some (.int v2) → zld lv 3 = some (.int v3) → g40 v1 v2 v3 m = some x → zR none e 4 (some .int) zc269 (40, lv, []) (xW B m) (some (.int x.1), xW B x.2)) {v1 : Int32} {v2 : Int32} {v3 : Int32} {lv : List (Nat × Value)} {m : xS} {x : Int32 × xS} (l0 : zld lv 0 = some (.ref 70)) (l1 : zld lv 1 = some (.int v1)) (l2 : zld lv 2 = some (.int v2)) (l3 : zld lv 3 = some (.int v3)) (h : D269_72 F g40 v1 v2 v3 m = some x) : zR none e 4 (some .int) zc269 (72, lv, []) (xW B m) (some (.int x.1), xW B x.2) := by
  unfold D269_72 at h
  refine q_inc (i := 3) (n := 1) (q := (.iinc 3 1, 3, 0, 0, .null)) rfl (fun _ => rfl) l3 (by decide) ?_
  have l0_1 : zld (zs1 lv 3 (.int (v3 + Int32.ofInt 1))) 0 = some (.ref 70) := x_o1 l0 rfl rfl
  have l1_1 : zld (zs1 lv 3 (.int (v3 + Int32.ofInt 1))) 1 = some (.int v1) := x_o1 l1 rfl rfl
  have l2_1 : zld (zs1 lv 3 (.int (v3 + Int32.ofInt 1))) 2 = some (.int v2) := x_o1 l2 rfl rfl
  have l3_1 : zld (zs1 lv 3 (.int (v3 + Int32.ofInt 1))) 3 = some (.int (v3 + Int32.ofInt 1)) := zs1_ld _ _ _
  generalize (zs1 lv 3 (.int (v3 + Int32.ofInt 1))) = lv1 at *
  refine r_s (fr' := (40, lv1, [])) (hp' := xW B m) (q := (.goto (-35), 3, 40, 0, .null)) rfl (fun _ => rfl) (Nat.le_refl _) ?_
  exact k40 l0_1 l1_1 l2_1 l3_1 h
def D269_78 (F : Nat) (v1 : Int32) (v2 : Int32) (v3 : Int32) (m : xS) : Option (Int32 × xS) :=
  (D260 F m).bind fun q79 =>
    some (v2, q79.2)
set_option maxRecDepth 20000 in
theorem T269_78 {B : zHp} (H : yH0 B) {e : Nat} (he : 8 ≤ e + 1) (F : Nat) {v1 : Int32} {v2 : Int32} {v3 : Int32} {lv : List (Nat × Value)} {m : xS} {x : Int32 × xS} (l0 : zld lv 0 = some (.ref 70)) (l1 : zld lv 1 = some (.int v1)) (l2 : zld lv 2 = some (.int v2)) (l3 : zld lv 3 = some (.int v3)) (h : D269_78 F v1 v2 v3 m = some x) : zR none e 4 (some .int) zc269 (78, lv, []) (xW B m) (some (.int x.1), xW B x.2) := by
  unfold D269_78 at h
  refine q_lr (k := 1) (i := 0) (q := (.aload_n 0, 1, 0, 0, .null)) rfl (fun _ => rfl) l0 ?_
  obtain ⟨q79, h79, h⟩ := xbind h
  refine r_call (ix := 70) (as := []) (rest := []) (rv := none) (hp' := xW B q79.2) (pc := 79) rfl xr260 rfl rfl rfl (xkd H (by decide)) (Nat.le_of_ble_eq_true rfl) (Z260 H h79 (by omega)) (Nat.le_refl _) ?_
  refine q_li (k := 1) (i := 2) (q := (.iload_n 2, 1, 0, 0, .null)) rfl (fun _ => rfl) l2 ?_
  obtain rfl := Option.some.inj h
  exact q_ri (q := (.ireturn, 1, 0, 0, .null)) rfl (fun _ => rfl) rfl rfl
def D269_40 (F : Nat) : Nat → Int32 → Int32 → Int32 → xS → Option (Int32 × xS)
  | 0, _, _, _, _ => none
  | f + 1, v1, v2, v3, m =>
    if zcmp .ge v3 60 = true then
      D269_78 F v1 v2 v3 m
    else
      if zcmp .ge v2 0 = true then
        D269_78 F v1 v2 v3 m
      else
        (D247 F v1 m).bind fun q52 =>
          (D268 F q52.2).bind fun q57 =>
            if zcmp .eq q57.1 0 = true then
              D269_72 F (D269_40 F f) v1 v2 v3 q57.2
            else
              D269_72 F (D269_40 F f) v1 ((q57.2.1 80 4) - 1) v3 q57.2
set_option maxRecDepth 20000 in
theorem T269_40 {B : zHp} (H : yH0 B) {e : Nat} (he : 8 ≤ e + 1) (F : Nat) : ∀ (f : Nat) {v1 : Int32} {v2 : Int32} {v3 : Int32} {lv : List (Nat × Value)} {m : xS} {x : Int32 × xS}, zld lv 0 = some (.ref 70) → zld lv 1 = some (.int v1) → zld lv 2 = some (.int v2) → zld lv 3 = some (.int v3) → D269_40 F f v1 v2 v3 m = some x → zR none e 4 (some .int) zc269 (40, lv, []) (xW B m) (some (.int x.1), xW B x.2) := by
  intro f
  induction f with
  | zero => intro v1 v2 v3 lv m x l0 l1 l2 l3 h; cases h
  | succ f ih =>
    intro v1 v2 v3 lv m x l0 l1 l2 l3 h
    unfold D269_40 at h
    refine q_li (k := 1) (i := 3) (q := (.iload_n 3, 1, 0, 0, .null)) rfl (fun _ => rfl) l3 ?_
    refine r_s (fr' := (43, lv, [.int 60, .int v3])) (hp' := xW B m) (q := (.bipush 60, 2, 0, 0, .null)) rfl (fun _ => rfl) (Nat.le_refl _) ?_
    refine r_ifc (len := 3) (a := 78) (b := 0) (v0 := .null) (cn := .ge) (off := 35) rfl (fun c => ?_) (fun c => ?_)
    · rw [if_pos c] at h
      exact T269_78 H he F l0 l1 l2 l3 h
    · rw [if_neg (by rw [c]; decide)] at h
      refine q_li (k := 1) (i := 2) (q := (.iload_n 2, 1, 0, 0, .null)) rfl (fun _ => rfl) l2 ?_
      refine r_if (len := 3) (a := 78) (b := 0) (v0 := .null) (cn := .ge) (off := 31) rfl (fun c => ?_) (fun c => ?_)
      · rw [if_pos c] at h
        exact T269_78 H he F l0 l1 l2 l3 h
      · rw [if_neg (by rw [c]; decide)] at h
        refine q_lr (k := 1) (i := 0) (q := (.aload_n 0, 1, 0, 0, .null)) rfl (fun _ => rfl) l0 ?_
        refine q_li (k := 1) (i := 1) (q := (.iload_n 1, 1, 0, 0, .null)) rfl (fun _ => rfl) l1 ?_
        obtain ⟨q52, h52, h⟩ := xbind h
        refine r_call (ix := 70) (as := [.int v1]) (rest := []) (rv := some (.int q52.1)) (hp' := xW B q52.2) (pc := 52) rfl xr247 rfl rfl rfl (xkd H (by decide)) (Nat.le_of_ble_eq_true rfl) (Z247 H h52 (by omega)) (Nat.le_refl _) ?_
        refine r_s (fr' := (56, lv, [])) (hp' := xW B q52.2) (q := (.pop, 1, 0, 0, .null)) rfl (fun _ => rfl) (Nat.le_refl _) ?_
        refine q_lr (k := 1) (i := 0) (q := (.aload_n 0, 1, 0, 0, .null)) rfl (fun _ => rfl) l0 ?_
        obtain ⟨q57, h57, h⟩ := xbind h
        refine r_call (ix := 70) (as := []) (rest := []) (rv := some (.int q57.1)) (hp' := xW B q57.2) (pc := 57) rfl xr268 rfl rfl rfl (xkd H (by decide)) (Nat.le_of_ble_eq_true rfl) (Z268 H h57 (by omega)) (Nat.le_refl _) ?_
        refine r_if (len := 3) (a := 72) (b := 0) (v0 := .null) (cn := .eq) (off := 12) rfl (fun c => ?_) (fun c => ?_)
        · rw [if_pos c] at h
          exact T269_72 H he F _ ih l0 l1 l2 l3 h
        · rw [if_neg (by rw [c]; decide)] at h
          refine q_lr (k := 1) (i := 0) (q := (.aload_n 0, 1, 0, 0, .null)) rfl (fun _ => rfl) l0 ?_
          refine r_gr (c := 80) H (pc := 64) rfl (by decide) (by decide) ?_
          refine r_s (fr' := (68, lv, [.int 4, .ref 80])) (hp' := xW B q57.2) (q := (.iconst 4, 1, 0, 0, .null)) rfl (fun _ => rfl) (Nat.le_refl _) ?_
          refine q_al (n := 148) (v := (q57.2.1 80 4)) H (pc := 68) rfl (by decide) (by decide) rfl ?_
          refine r_s (fr' := (70, lv, [.int 1, .int (q57.2.1 80 4)])) (hp' := xW B q57.2) (q := (.iconst 1, 1, 0, 0, .null)) rfl (fun _ => rfl) (Nat.le_refl _) ?_
          refine r_s (fr' := (71, lv, [.int ((q57.2.1 80 4) - 1)])) (hp' := xW B q57.2) (q := (.isub, 1, 0, 0, .null)) rfl (fun _ => rfl) (Nat.le_refl _) ?_
          refine q_si (k := 1) (i := 2) (q := (.istore_n 2, 1, 0, 0, .null)) rfl (fun _ => rfl) (by decide) ?_
          have l0_1 : zld (zs1 lv 2 (.int ((q57.2.1 80 4) - 1))) 0 = some (.ref 70) := x_o1 l0 rfl rfl
          have l1_1 : zld (zs1 lv 2 (.int ((q57.2.1 80 4) - 1))) 1 = some (.int v1) := x_o1 l1 rfl rfl
          have l2_1 : zld (zs1 lv 2 (.int ((q57.2.1 80 4) - 1))) 2 = some (.int ((q57.2.1 80 4) - 1)) := zs1_ld _ _ _
          have l3_1 : zld (zs1 lv 2 (.int ((q57.2.1 80 4) - 1))) 3 = some (.int v3) := x_o1 l3 rfl rfl
          generalize (zs1 lv 2 (.int ((q57.2.1 80 4) - 1))) = lv1 at *
          exact T269_72 H he F _ ih l0_1 l1_1 l2_1 l3_1 h
def D269 (F : Nat) (v1 : Int32) (m : xS) : Option (Int32 × xS) :=
  (D204 F m).bind fun q1 =>
    if zcmp .eq q1.1 0 = true then
      D269_15 F v1 q1.2
    else
      (D199 F v1 q1.2).bind fun q9 =>
        if zcmp .ne q9.1 0 = true then
          (D268 F q9.2).bind fun q18 =>
            if zcmp .eq q18.1 0 = true then
              (D259 F q18.2).bind fun q35 =>
                D269_40 F F v1 (-2) 0 q35.2
            else
              some ((q18.2.1 80 4), q18.2)
        else
          D269_15 F v1 q9.2
set_option maxRecDepth 20000 in
theorem T269 {B : zHp} (H : yH0 B) {e : Nat} (he : 8 ≤ e + 1) (F : Nat) {v1 : Int32} {lv : List (Nat × Value)} {m : xS} {x : Int32 × xS} (l0 : zld lv 0 = some (.ref 70)) (l1 : zld lv 1 = some (.int v1)) (h : D269 F v1 m = some x) : zR none e 4 (some .int) zc269 (0, lv, []) (xW B m) (some (.int x.1), xW B x.2) := by
  unfold D269 at h
  refine q_lr (k := 1) (i := 0) (q := (.aload_n 0, 1, 0, 0, .null)) rfl (fun _ => rfl) l0 ?_
  obtain ⟨q1, h1, h⟩ := xbind h
  refine r_call (ix := 70) (as := []) (rest := []) (rv := some (.int q1.1)) (hp' := xW B q1.2) (pc := 1) rfl xr204 rfl rfl rfl (xkd H (by decide)) (Nat.le_of_ble_eq_true rfl) (Z204 H h1 (by omega)) (Nat.le_refl _) ?_
  refine r_if (len := 3) (a := 15) (b := 0) (v0 := .null) (cn := .eq) (off := 11) rfl (fun c => ?_) (fun c => ?_)
  · rw [if_pos c] at h
    exact T269_15 H he F l0 l1 h
  · rw [if_neg (by rw [c]; decide)] at h
    refine q_lr (k := 1) (i := 0) (q := (.aload_n 0, 1, 0, 0, .null)) rfl (fun _ => rfl) l0 ?_
    refine q_li (k := 1) (i := 1) (q := (.iload_n 1, 1, 0, 0, .null)) rfl (fun _ => rfl) l1 ?_
    obtain ⟨q9, h9, h⟩ := xbind h
    refine r_call (ix := 70) (as := [.int v1]) (rest := []) (rv := some (.int q9.1)) (hp' := xW B q9.2) (pc := 9) rfl xr199 rfl rfl rfl (xkd H (by decide)) (Nat.le_of_ble_eq_true rfl) (Z199 H h9 (by omega)) (Nat.le_refl _) ?_
    refine r_if (len := 3) (a := 17) (b := 0) (v0 := .null) (cn := .ne) (off := 5) rfl (fun c => ?_) (fun c => ?_)
    · rw [if_pos c] at h
      refine q_lr (k := 1) (i := 0) (q := (.aload_n 0, 1, 0, 0, .null)) rfl (fun _ => rfl) l0 ?_
      obtain ⟨q18, h18, h⟩ := xbind h
      refine r_call (ix := 70) (as := []) (rest := []) (rv := some (.int q18.1)) (hp' := xW B q18.2) (pc := 18) rfl xr268 rfl rfl rfl (xkd H (by decide)) (Nat.le_of_ble_eq_true rfl) (Z268 H h18 (by omega)) (Nat.le_refl _) ?_
      refine r_if (len := 3) (a := 31) (b := 0) (v0 := .null) (cn := .eq) (off := 10) rfl (fun c => ?_) (fun c => ?_)
      · rw [if_pos c] at h
        refine r_s (fr' := (33, lv, [.int (-2)])) (hp' := xW B q18.2) (q := (.bipush (-2), 2, 0, 0, .null)) rfl (fun _ => rfl) (Nat.le_refl _) ?_
        refine q_si (k := 1) (i := 2) (q := (.istore_n 2, 1, 0, 0, .null)) rfl (fun _ => rfl) (by decide) ?_
        have l0_1 : zld (zs1 lv 2 (.int (-2))) 0 = some (.ref 70) := x_o1 l0 rfl rfl
        have l1_1 : zld (zs1 lv 2 (.int (-2))) 1 = some (.int v1) := x_o1 l1 rfl rfl
        have l2_1 : zld (zs1 lv 2 (.int (-2))) 2 = some (.int (-2)) := zs1_ld _ _ _
        generalize (zs1 lv 2 (.int (-2))) = lv1 at *
        refine q_lr (k := 1) (i := 0) (q := (.aload_n 0, 1, 0, 0, .null)) rfl (fun _ => rfl) l0_1 ?_
        obtain ⟨q35, h35, h⟩ := xbind h
        refine r_call (ix := 70) (as := []) (rest := []) (rv := none) (hp' := xW B q35.2) (pc := 35) rfl xr259 rfl rfl rfl (xkd H (by decide)) (Nat.le_of_ble_eq_true rfl) (Z259 H h35 (by omega)) (Nat.le_refl _) ?_
        refine r_s (fr' := (39, lv1, [.int 0])) (hp' := xW B q35.2) (q := (.iconst 0, 1, 0, 0, .null)) rfl (fun _ => rfl) (Nat.le_refl _) ?_
        refine q_si (k := 1) (i := 3) (q := (.istore_n 3, 1, 0, 0, .null)) rfl (fun _ => rfl) (by decide) ?_
        have l0_2 : zld (zs1 lv1 3 (.int 0)) 0 = some (.ref 70) := x_o1 l0_1 rfl rfl
        have l1_2 : zld (zs1 lv1 3 (.int 0)) 1 = some (.int v1) := x_o1 l1_1 rfl rfl
        have l2_2 : zld (zs1 lv1 3 (.int 0)) 2 = some (.int (-2)) := x_o1 l2_1 rfl rfl
        have l3_2 : zld (zs1 lv1 3 (.int 0)) 3 = some (.int 0) := zs1_ld _ _ _
        generalize (zs1 lv1 3 (.int 0)) = lv2 at *
        exact T269_40 H he F F l0_2 l1_2 l2_2 l3_2 h
      · rw [if_neg (by rw [c]; decide)] at h
        refine q_lr (k := 1) (i := 0) (q := (.aload_n 0, 1, 0, 0, .null)) rfl (fun _ => rfl) l0 ?_
        refine r_gr (c := 80) H (pc := 25) rfl (by decide) (by decide) ?_
        refine r_s (fr' := (29, lv, [.int 4, .ref 80])) (hp' := xW B q18.2) (q := (.iconst 4, 1, 0, 0, .null)) rfl (fun _ => rfl) (Nat.le_refl _) ?_
        refine q_al (n := 148) (v := (q18.2.1 80 4)) H (pc := 29) rfl (by decide) (by decide) rfl ?_
        obtain rfl := Option.some.inj h
        exact q_ri (q := (.ireturn, 1, 0, 0, .null)) rfl (fun _ => rfl) rfl rfl
    · rw [if_neg (by rw [c]; decide)] at h
      exact T269_15 H he F l0 l1 h
set_option maxRecDepth 20000 in
theorem Z269 {B : zHp} (H : yH0 B) {F : Nat} {a1 : Int32} {m : xS} {x : Int32 × xS} (h : D269 F a1 m = some x) {d : Nat} (hd : 8 ≤ d) : zCan d 269 [.ref 70, .int a1] (xW B m) (some (.int x.1), xW B x.2) := by
  obtain ⟨e, rfl⟩ : ∃ e, d = e + 1 := ⟨d - 1, by omega⟩
  refine zCan_body (nL := 4) (rt := (some .int)) (cd := zc269) (xg269) ⟨Nat.le_of_ble_eq_true rfl, by decide⟩ (Nat.le_refl _) ?_
  exact T269 H hd F rfl rfl h
