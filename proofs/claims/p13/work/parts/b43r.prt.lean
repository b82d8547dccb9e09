/-! Methods as functions over the memory. -/
set_option maxRecDepth 4000 in
theorem xg111 : zg zms 111 = some (zm111.2.2.1, zm111.2.2.2.1, zc111) := rfl
theorem xr111 : zar 111 = (0, 8) := by decide +kernel
set_option maxRecDepth 4000 in
theorem xg149 : zg zms 149 = some (zm149.2.2.1, zm149.2.2.2.1, zc149) := rfl
theorem xr149 : zar 149 = (1, 10) := by decide +kernel
/-- LentTools$Village.isAllDone -/
def D111_9 (F : Nat) (m : xS) : Option (Int32 × xS) :=
  (D110_9 F m).bind fun q1 =>
    (D80_9 F q1.2).bind fun q6 =>
      if zcmp .ne q1.1 ((1 <<< (q6.1 &&& 31)) - 1) = true then
        some (0, q6.2)
      else
        some (1, q6.2)
set_option maxRecDepth 20000 in
theorem T111_9 {B : zHp} (H : yH0 B) {e : Nat} (he : 4 ≤ e + 1) (F : Nat) {lv : List (Nat × Value)} {m : xS} {x : Int32 × xS} (l0 : zld lv 0 = some (.ref 9)) (h : D111_9 F m = some x) : zR none e 1 (some .boolean) zc111 (0, lv, []) (xW B m) (some (.int x.1), xW B x.2) := by
  unfold D111_9 at h
  refine q_lr (k := 1) (i := 0) (q := (.aload_n 0, 1, 0, 0, .null)) rfl (fun _ => rfl) l0 ?_
  obtain ⟨q1, h1, h⟩ := xbind h
  refine r_call (ix := 9) (as := []) (rest := []) (rv := some (.int q1.1)) (hp' := xW B q1.2) (pc := 1) rfl xr110 rfl rfl rfl (xkd H (by decide)) (Nat.le_of_ble_eq_true rfl) (Z110_9 H h1 (by omega)) (Nat.le_refl _) ?_
  refine r_s (fr' := (5, lv, [.int 1, .int q1.1])) (hp' := xW B q1.2) (q := (.iconst 1, 1, 0, 0, .null)) rfl (fun _ => rfl) (Nat.le_refl _) ?_
  refine q_lr (k := 1) (i := 0) (q := (.aload_n 0, 1, 0, 0, .null)) rfl (fun _ => rfl) l0 ?_
  obtain ⟨q6, h6, h⟩ := xbind h
  refine r_call (ix := 9) (as := []) (rest := [.int 1, .int q1.1]) (rv := some (.int q6.1)) (hp' := xW B q6.2) (pc := 6) rfl xr80 rfl rfl rfl (xkd H (by decide)) (Nat.le_of_ble_eq_true rfl) (Z80_9 H h6 (by omega)) (Nat.le_refl _) ?_
  refine r_s (fr' := (10, lv, [.int (1 <<< (q6.1 &&& 31)), .int q1.1])) (hp' := xW B q6.2) (q := (.ishl, 1, 0, 0, .null)) rfl (fun _ => rfl) (Nat.le_refl _) ?_
  refine r_s (fr' := (11, lv, [.int 1, .int (1 <<< (q6.1 &&& 31)), .int q1.1])) (hp' := xW B q6.2) (q := (.iconst 1, 1, 0, 0, .null)) rfl (fun _ => rfl) (Nat.le_refl _) ?_
  refine r_s (fr' := (12, lv, [.int ((1 <<< (q6.1 &&& 31)) - 1), .int q1.1])) (hp' := xW B q6.2) (q := (.isub, 1, 0, 0, .null)) rfl (fun _ => rfl) (Nat.le_refl _) ?_
  refine r_ifc (len := 3) (a := 19) (b := 0) (v0 := .null) (cn := .ne) (off := 7) rfl (fun c => ?_) (fun c => ?_)
  · rw [if_pos c] at h
    refine r_s (fr' := (20, lv, [.int 0])) (hp' := xW B q6.2) (q := (.iconst 0, 1, 0, 0, .null)) rfl (fun _ => rfl) (Nat.le_refl _) ?_
    obtain rfl := Option.some.inj h
    exact q_ri (q := (.ireturn, 1, 0, 0, .null)) rfl (fun _ => rfl) rfl rfl
  · rw [if_neg (by rw [c]; decide)] at h
    refine r_s (fr' := (16, lv, [.int 1])) (hp' := xW B q6.2) (q := (.iconst 1, 1, 0, 0, .null)) rfl (fun _ => rfl) (Nat.le_refl _) ?_
    refine r_s (fr' := (20, lv, [.int 1])) (hp' := xW B q6.2) (q := (.goto 4, 3, 20, 0, .null)) rfl (fun _ => rfl) (Nat.le_refl _) ?_
    obtain rfl := Option.some.inj h
    exact q_ri (q := (.ireturn, 1, 0, 0, .null)) rfl (fun _ => rfl) rfl rfl
set_option maxRecDepth 20000 in
theorem Z111_9 {B : zHp} (H : yH0 B) {F : Nat} {m : xS} {x : Int32 × xS} (h : D111_9 F m = some x) {d : Nat} (hd : 4 ≤ d) : zCan d 111 [.ref 9] (xW B m) (some (.int x.1), xW B x.2) := by
  obtain ⟨e, rfl⟩ : ∃ e, d = e + 1 := ⟨d - 1, by omega⟩
  refine zCan_body (nL := 1) (rt := (some .boolean)) (cd := zc111) (xg111) ⟨Nat.le_of_ble_eq_true rfl, by decide⟩ (Nat.le_refl _) ?_
  exact T111_9 H hd F rfl h
/-- LentTools$Village.wantedOf -/
def D114_11t_84 (F : Nat) (g6 : Int32 → Int32 → Int32 → Int32 → Int32 → Int32 → xS → Option (Int32 × xS)) (v1 : Int32) (v2 : Int32) (v3 : Int32) (v4 : Int32) (v5 : Int32) (v6 : Int32) (m : xS) : Option (Int32 × xS) :=
  g6 v1 v2 v3 v4 v5 (v6 + Int32.ofInt 1) m
set_option maxRecDepth 20000 in
theorem T114_11t_84 {B : zHp} (H : yH0 B) {e : Nat} (he : 2 ≤ e + 1) (F : Nat) (g6 : Int32 → Int32 → Int32 → Int32 → Int32 → Int32 → xS → Option (Int32 × xS)) (k6 : ∀ {v1 : Int32} {v2 : Int32} {v3 : Int32} {v4 : Int32} {v5 : Int32} {v6 : Int32} {lv : List (Nat × Value)} {m : xS} {x : Int32 × xS}, zld lv 0 = some (.ref 11) → zld lv 1 = some (.int v1) → zld lv 2 = some (.int v2) → zld lv 3 = some (.int v3) → zld lv 4 = some (.int v4) → zld lv 5 = some (.int v5) → zld lv 6 = some (.int v6) → g6 v1 v2 v3 v4 v5 v6 m = some x → zR none e 8 (some .int) zc114 (6, lv, []) (xW B m) (some (.int x.1), xW B x.2)) {v1 : Int32} {v2 : Int32} {v3 : Int32} {v4 : Int32} {v5 : Int32} {v6 : Int32} {lv : List (Nat × Value)} {m : xS} {x : Int32 × xS} (l0 : zld lv 0 = some (.ref 11)) (l1 : zld lv 1 = some (.int v1)) (l2 : zld lv 2 = some (.int v2)) (l3 : zld lv 3 = some (.int v3)) (l4 : zld lv 4 = some (.int v4)) (l5 : zld lv 5 = some (.int v5)) (l6 : zld lv 6 = some (.int v6)) (h : D114_11t_84 F g6 v1 v2 v3 v4 v5 v6 m = some x) : zR none e 8 (some .int) zc114 (84, lv, []) (xW B m) (some (.int x.1), xW B x.2) := by
  unfold D114_11t_84 at h
  refine q_inc (i := 6) (n := 1) (q := (.iinc 6 1, 3, 0, 0, .null)) rfl (fun _ => rfl) l6 (by decide) ?_
  have l0_1 : zld (zs1 lv 6 (.int (v6 + Int32.ofInt 1))) 0 = some (.ref 11) := x_o1 l0 rfl rfl
  have l1_1 : zld (zs1 lv 6 (.int (v6 + Int32.ofInt 1))) 1 = some (.int v1) := x_o1 l1 rfl rfl
  have l2_1 : zld (zs1 lv 6 (.int (v6 + Int32.ofInt 1))) 2 = some (.int v2) := x_o1 l2 rfl rfl
  have l3_1 : zld (zs1 lv 6 (.int (v6 + Int32.ofInt 1))) 3 = some (.int v3) := x_o1 l3 rfl rfl
  have l4_1 : zld (zs1 lv 6 (.int (v6 + Int32.ofInt 1))) 4 = some (.int v4) := x_o1 l4 rfl rfl
  have l5_1 : zld (zs1 lv 6 (.int (v6 + Int32.ofInt 1))) 5 = some (.int v5) := x_o1 l5 rfl rfl
  have l6_1 : zld (zs1 lv 6 (.int (v6 + Int32.ofInt 1))) 6 = some (.int (v6 + Int32.ofInt 1)) := zs1_ld _ _ _
  generalize (zs1 lv 6 (.int (v6 + Int32.ofInt 1))) = lv1 at *
  refine r_s (fr' := (6, lv1, [])) (hp' := xW B m) (q := (.goto (-81), 3, 6, 0, .null)) rfl (fun _ => rfl) (Nat.le_refl _) ?_
  exact k6 l0_1 l1_1 l2_1 l3_1 l4_1 l5_1 l6_1 h
def D114_11t_82 (F : Nat) (g6 : Int32 → Int32 → Int32 → Int32 → Int32 → Int32 → xS → Option (Int32 × xS)) (v1 : Int32) (v2 : Int32) (v3 : Int32) (v4 : Int32) (v5 : Int32) (v6 : Int32) (v7 : Int32) (w0 : Int32) (m : xS) : Option (Int32 × xS) :=
  D114_11t_84 F g6 v1 v2 v3 v4 w0 v6 m
set_option maxRecDepth 20000 in
theorem T114_11t_82 {B : zHp} (H : yH0 B) {e : Nat} (he : 2 ≤ e + 1) (F : Nat) (g6 : Int32 → Int32 → Int32 → Int32 → Int32 → Int32 → xS → Option (Int32 × xS)) (k6 : ∀ {v1 : Int32} {v2 : Int32} {v3 : Int32} {v4 : Int32} {v5 : Int32} {v6 : Int32} {lv : List (Nat × Value)} {m : xS} {x : Int32 × xS}, zld lv 0 = some (.ref 11) → zld lv 1 = some (.int v1) → zld lv 2 = some (.int v2) → zld lv 3 = some (.int v3) → zld lv 4 = some (.int v4) → zld lv 5 = some (.int v5) → zld lv 6 = some (.int v6) → g6 v1 v2 v3 v4 v5 v6 m = some x → zR none e 8 (some .int) zc114 (6, lv, []) (xW B m) (some (.int x.1), xW B x.2)) {v1 : Int32} {v2 : Int32} {v3 : Int32} {v4 : Int32} {v5 : Int32} {v6 : Int32} {v7 : Int32} {w0 : Int32} {lv : List (Nat × Value)} {m : xS} {x : Int32 × xS} (l0 : zld lv 0 = some (.ref 11)) (l1 : zld lv 1 = some (.int v1)) (l2 : zld lv 2 = some (.int v2)) (l3 : zld lv 3 = some (.int v3)) (l4 : zld lv 4 = some (.int v4)) (l5 : zld lv 5 = some (.int v5)) (l6 : zld lv 6 = some (.int v6)) (l7 : zld lv 7 = some (.int v7)) (h : D114_11t_82 F g6 v1 v2 v3 v4 v5 v6 v7 w0 m = some x) : zR none e 8 (some .int) zc114 (82, lv, [.int w0]) (xW B m) (some (.int x.1), xW B x.2) := by
  unfold D114_11t_82 at h
  refine q_si (k := 2) (i := 5) (q := (.istore 5, 2, 0, 0, .null)) rfl (fun _ => rfl) (by decide) ?_
  have l0_1 : zld (zs1 lv 5 (.int w0)) 0 = some (.ref 11) := x_o1 l0 rfl rfl
  have l1_1 : zld (zs1 lv 5 (.int w0)) 1 = some (.int v1) := x_o1 l1 rfl rfl
  have l2_1 : zld (zs1 lv 5 (.int w0)) 2 = some (.int v2) := x_o1 l2 rfl rfl
  have l3_1 : zld (zs1 lv 5 (.int w0)) 3 = some (.int v3) := x_o1 l3 rfl rfl
  have l4_1 : zld (zs1 lv 5 (.int w0)) 4 = some (.int v4) := x_o1 l4 rfl rfl
  have l5_1 : zld (zs1 lv 5 (.int w0)) 5 = some (.int w0) := zs1_ld _ _ _
  have l6_1 : zld (zs1 lv 5 (.int w0)) 6 = some (.int v6) := x_o1 l6 rfl rfl
  have l7_1 : zld (zs1 lv 5 (.int w0)) 7 = some (.int v7) := x_o1 l7 rfl rfl
  generalize (zs1 lv 5 (.int w0)) = lv1 at *
  exact T114_11t_84 H he F _ k6 l0_1 l1_1 l2_1 l3_1 l4_1 l5_1 l6_1 h
def D114_11t_6 (F : Nat) : Nat → Int32 → Int32 → Int32 → Int32 → Int32 → Int32 → xS → Option (Int32 × xS)
  | 0, _, _, _, _, _, _, _ => none
  | f + 1, v1, v2, v3, v4, v5, v6, m =>
    (D80_11t F m).bind fun q9 =>
      if zcmp .ge v6 q9.1 = true then
        some (v5, q9.2)
      else
        (D89_11t F v6 0 q9.2).bind fun q19 =>
          if zcmp .ne q19.1 v2 = true then
            D114_11t_84 F (D114_11t_6 F f) v1 v2 v3 v4 v5 v6 q19.2
          else
            (D89_11t F v6 4 q19.2).bind fun q30 =>
              if zcmp .ne q30.1 (-1) = true then
                D114_11t_84 F (D114_11t_6 F f) v1 v2 v3 v4 v5 v6 q30.2
              else
                (D89_11t F v6 1 q30.2).bind fun q41 =>
                  (D87_11t F v1 1 q41.2).bind fun q47 =>
                    if zcmp .ne q41.1 q47.1 = true then
                      D114_11t_84 F (D114_11t_6 F f) v1 v2 v3 v4 v5 v6 q47.2
                    else
                      (D89_11t F v6 v3 q47.2).bind fun q57 =>
                        if zcmp .eq v4 0 = true then
                          D114_11t_82 F (D114_11t_6 F f) v1 v2 v3 v4 v5 v6 q57.1 (v5 + q57.1) q57.2
                        else
                          D114_11t_82 F (D114_11t_6 F f) v1 v2 v3 v4 v5 v6 q57.1 (if v5 < q57.1 then q57.1 else v5) q57.2
set_option maxRecDepth 20000 in
theorem T114_11t_6 {B : zHp} (H : yH0 B) {e : Nat} (he : 2 ≤ e + 1) (F : Nat) : ∀ (f : Nat) {v1 : Int32} {v2 : Int32} {v3 : Int32} {v4 : Int32} {v5 : Int32} {v6 : Int32} {lv : List (Nat × Value)} {m : xS} {x : Int32 × xS}, zld lv 0 = some (.ref 11) → zld lv 1 = some (.int v1) → zld lv 2 = some (.int v2) → zld lv 3 = some (.int v3) → zld lv 4 = some (.int v4) → zld lv 5 = some (.int v5) → zld lv 6 = some (.int v6) → D114_11t_6 F f v1 v2 v3 v4 v5 v6 m = some x → zR none e 8 (some .int) zc114 (6, lv, []) (xW B m) (some (.int x.1), xW B x.2) := by
  intro f
  induction f with
  | zero => intro v1 v2 v3 v4 v5 v6 lv m x l0 l1 l2 l3 l4 l5 l6 h; cases h
  | succ f ih =>
    intro v1 v2 v3 v4 v5 v6 lv m x l0 l1 l2 l3 l4 l5 l6 h
    unfold D114_11t_6 at h
    refine q_li (k := 2) (i := 6) (q := (.iload 6, 2, 0, 0, .null)) rfl (fun _ => rfl) l6 ?_
    refine q_lr (k := 1) (i := 0) (q := (.aload_n 0, 1, 0, 0, .null)) rfl (fun _ => rfl) l0 ?_
    obtain ⟨q9, h9, h⟩ := xbind h
    refine r_call (ix := 11) (as := []) (rest := [.int v6]) (rv := some (.int q9.1)) (hp' := xW B q9.2) (pc := 9) rfl xr80 rfl rfl rfl (xkd H (by decide)) (Nat.le_of_ble_eq_true rfl) (Z80_11t H h9 (by omega)) (Nat.le_refl _) ?_
    refine r_ifc (len := 3) (a := 90) (b := 0) (v0 := .null) (cn := .ge) (off := 78) rfl (fun c => ?_) (fun c => ?_)
    · rw [if_pos c] at h
      refine q_li (k := 2) (i := 5) (q := (.iload 5, 2, 0, 0, .null)) rfl (fun _ => rfl) l5 ?_
      obtain rfl := Option.some.inj h
      exact q_ri (q := (.ireturn, 1, 0, 0, .null)) rfl (fun _ => rfl) rfl rfl
    · rw [if_neg (by rw [c]; decide)] at h
      refine q_lr (k := 1) (i := 0) (q := (.aload_n 0, 1, 0, 0, .null)) rfl (fun _ => rfl) l0 ?_
      refine q_li (k := 2) (i := 6) (q := (.iload 6, 2, 0, 0, .null)) rfl (fun _ => rfl) l6 ?_
      refine r_s (fr' := (19, lv, [.int 0, .int v6, .ref 11])) (hp' := xW B q9.2) (q := (.iconst 0, 1, 0, 0, .null)) rfl (fun _ => rfl) (Nat.le_refl _) ?_
      obtain ⟨q19, h19, h⟩ := xbind h
      refine r_call (ix := 11) (as := [.int v6, .int 0]) (rest := []) (rv := some (.int q19.1)) (hp' := xW B q19.2) (pc := 19) rfl xr89 rfl rfl rfl (xkd H (by decide)) (Nat.le_of_ble_eq_true rfl) (Z89_11t H h19 (by omega)) (Nat.le_refl _) ?_
      refine q_li (k := 1) (i := 2) (q := (.iload_n 2, 1, 0, 0, .null)) rfl (fun _ => rfl) l2 ?_
      refine r_ifc (len := 3) (a := 84) (b := 0) (v0 := .null) (cn := .ne) (off := 61) rfl (fun c => ?_) (fun c => ?_)
      · rw [if_pos c] at h
        exact T114_11t_84 H he F _ ih l0 l1 l2 l3 l4 l5 l6 h
      · rw [if_neg (by rw [c]; decide)] at h
        refine q_lr (k := 1) (i := 0) (q := (.aload_n 0, 1, 0, 0, .null)) rfl (fun _ => rfl) l0 ?_
        refine q_li (k := 2) (i := 6) (q := (.iload 6, 2, 0, 0, .null)) rfl (fun _ => rfl) l6 ?_
        refine r_s (fr' := (30, lv, [.int 4, .int v6, .ref 11])) (hp' := xW B q19.2) (q := (.iconst 4, 1, 0, 0, .null)) rfl (fun _ => rfl) (Nat.le_refl _) ?_
        obtain ⟨q30, h30, h⟩ := xbind h
        refine r_call (ix := 11) (as := [.int v6, .int 4]) (rest := []) (rv := some (.int q30.1)) (hp' := xW B q30.2) (pc := 30) rfl xr89 rfl rfl rfl (xkd H (by decide)) (Nat.le_of_ble_eq_true rfl) (Z89_11t H h30 (by omega)) (Nat.le_refl _) ?_
        refine r_s (fr' := (34, lv, [.int (-1), .int q30.1])) (hp' := xW B q30.2) (q := (.iconst (-1), 1, 0, 0, .null)) rfl (fun _ => rfl) (Nat.le_refl _) ?_
        refine r_ifc (len := 3) (a := 84) (b := 0) (v0 := .null) (cn := .ne) (off := 50) rfl (fun c => ?_) (fun c => ?_)
        · rw [if_pos c] at h
          exact T114_11t_84 H he F _ ih l0 l1 l2 l3 l4 l5 l6 h
        · rw [if_neg (by rw [c]; decide)] at h
          refine q_lr (k := 1) (i := 0) (q := (.aload_n 0, 1, 0, 0, .null)) rfl (fun _ => rfl) l0 ?_
          refine q_li (k := 2) (i := 6) (q := (.iload 6, 2, 0, 0, .null)) rfl (fun _ => rfl) l6 ?_
          refine r_s (fr' := (41, lv, [.int 1, .int v6, .ref 11])) (hp' := xW B q30.2) (q := (.iconst 1, 1, 0, 0, .null)) rfl (fun _ => rfl) (Nat.le_refl _) ?_
          obtain ⟨q41, h41, h⟩ := xbind h
          refine r_call (ix := 11) (as := [.int v6, .int 1]) (rest := []) (rv := some (.int q41.1)) (hp' := xW B q41.2) (pc := 41) rfl xr89 rfl rfl rfl (xkd H (by decide)) (Nat.le_of_ble_eq_true rfl) (Z89_11t H h41 (by omega)) (Nat.le_refl _) ?_
          refine q_lr (k := 1) (i := 0) (q := (.aload_n 0, 1, 0, 0, .null)) rfl (fun _ => rfl) l0 ?_
          refine q_li (k := 1) (i := 1) (q := (.iload_n 1, 1, 0, 0, .null)) rfl (fun _ => rfl) l1 ?_
          refine r_s (fr' := (47, lv, [.int 1, .int v1, .ref 11, .int q41.1])) (hp' := xW B q41.2) (q := (.iconst 1, 1, 0, 0, .null)) rfl (fun _ => rfl) (Nat.le_refl _) ?_
          obtain ⟨q47, h47, h⟩ := xbind h
          refine r_call (ix := 11) (as := [.int v1, .int 1]) (rest := [.int q41.1]) (rv := some (.int q47.1)) (hp' := xW B q47.2) (pc := 47) rfl xr87 rfl rfl rfl (xkd H (by decide)) (Nat.le_of_ble_eq_true rfl) (Z87_11t H h47 (by omega)) (Nat.le_refl _) ?_
          refine r_ifc (len := 3) (a := 84) (b := 0) (v0 := .null) (cn := .ne) (off := 34) rfl (fun c => ?_) (fun c => ?_)
          · rw [if_pos c] at h
            exact T114_11t_84 H he F _ ih l0 l1 l2 l3 l4 l5 l6 h
          · rw [if_neg (by rw [c]; decide)] at h
            refine q_lr (k := 1) (i := 0) (q := (.aload_n 0, 1, 0, 0, .null)) rfl (fun _ => rfl) l0 ?_
            refine q_li (k := 2) (i := 6) (q := (.iload 6, 2, 0, 0, .null)) rfl (fun _ => rfl) l6 ?_
            refine q_li (k := 1) (i := 3) (q := (.iload_n 3, 1, 0, 0, .null)) rfl (fun _ => rfl) l3 ?_
            obtain ⟨q57, h57, h⟩ := xbind h
            refine r_call (ix := 11) (as := [.int v6, .int v3]) (rest := []) (rv := some (.int q57.1)) (hp' := xW B q57.2) (pc := 57) rfl xr89 rfl rfl rfl (xkd H (by decide)) (Nat.le_of_ble_eq_true rfl) (Z89_11t H h57 (by omega)) (Nat.le_refl _) ?_
            refine q_si (k := 2) (i := 7) (q := (.istore 7, 2, 0, 0, .null)) rfl (fun _ => rfl) (by decide) ?_
            have l0_1 : zld (zs1 lv 7 (.int q57.1)) 0 = some (.ref 11) := x_o1 l0 rfl rfl
            have l1_1 : zld (zs1 lv 7 (.int q57.1)) 1 = some (.int v1) := x_o1 l1 rfl rfl
            have l2_1 : zld (zs1 lv 7 (.int q57.1)) 2 = some (.int v2) := x_o1 l2 rfl rfl
            have l3_1 : zld (zs1 lv 7 (.int q57.1)) 3 = some (.int v3) := x_o1 l3 rfl rfl
            have l4_1 : zld (zs1 lv 7 (.int q57.1)) 4 = some (.int v4) := x_o1 l4 rfl rfl
            have l5_1 : zld (zs1 lv 7 (.int q57.1)) 5 = some (.int v5) := x_o1 l5 rfl rfl
            have l6_1 : zld (zs1 lv 7 (.int q57.1)) 6 = some (.int v6) := x_o1 l6 rfl rfl
            have l7_1 : zld (zs1 lv 7 (.int q57.1)) 7 = some (.int q57.1) := zs1_ld _ _ _
            generalize (zs1 lv 7 (.int q57.1)) = lv1 at *
            refine q_li (k := 2) (i := 4) (q := (.iload 4, 2, 0, 0, .null)) rfl (fun _ => rfl) l4_1 ?_
            refine r_if (len := 3) (a := 77) (b := 0) (v0 := .null) (cn := .eq) (off := 13) rfl (fun c => ?_) (fun c => ?_)
            · rw [if_pos c] at h
              refine q_li (k := 2) (i := 5) (q := (.iload 5, 2, 0, 0, .null)) rfl (fun _ => rfl) l5_1 ?_
              refine q_li (k := 2) (i := 7) (q := (.iload 7, 2, 0, 0, .null)) rfl (fun _ => rfl) l7_1 ?_
              refine r_s (fr' := (82, lv1, [.int (v5 + q57.1)])) (hp' := xW B q57.2) (q := (.iadd, 1, 0, 0, .null)) rfl (fun _ => rfl) (Nat.le_refl _) ?_
              exact T114_11t_82 H he F _ ih l0_1 l1_1 l2_1 l3_1 l4_1 l5_1 l6_1 l7_1 h
            · rw [if_neg (by rw [c]; decide)] at h
              refine q_li (k := 2) (i := 5) (q := (.iload 5, 2, 0, 0, .null)) rfl (fun _ => rfl) l5_1 ?_
              refine q_li (k := 2) (i := 7) (q := (.iload 7, 2, 0, 0, .null)) rfl (fun _ => rfl) l7_1 ?_
              refine r_s (fr' := (74, lv1, [.int (if v5 < q57.1 then q57.1 else v5)])) (hp' := xW B q57.2) (q := (.invokestatic 66, 3, 0, 2, .null)) rfl (fun _ => rfl) (Nat.le_refl _) ?_
              refine r_s (fr' := (82, lv1, [.int (if v5 < q57.1 then q57.1 else v5)])) (hp' := xW B q57.2) (q := (.goto 8, 3, 82, 0, .null)) rfl (fun _ => rfl) (Nat.le_refl _) ?_
              exact T114_11t_82 H he F _ ih l0_1 l1_1 l2_1 l3_1 l4_1 l5_1 l6_1 l7_1 h
def D114_11t (F : Nat) (v1 : Int32) (v2 : Int32) (v3 : Int32) (v4 : Int32) (m : xS) : Option (Int32 × xS) :=
  D114_11t_6 F F v1 v2 v3 v4 0 0 m
set_option maxRecDepth 20000 in
theorem T114_11t {B : zHp} (H : yH0 B) {e : Nat} (he : 2 ≤ e + 1) (F : Nat) {v1 : Int32} {v2 : Int32} {v3 : Int32} {v4 : Int32} {lv : List (Nat × Value)} {m : xS} {x : Int32 × xS} (l0 : zld lv 0 = some (.ref 11)) (l1 : zld lv 1 = some (.int v1)) (l2 : zld lv 2 = some (.int v2)) (l3 : zld lv 3 = some (.int v3)) (l4 : zld lv 4 = some (.int v4)) (h : D114_11t F v1 v2 v3 v4 m = some x) : zR none e 8 (some .int) zc114 (0, lv, []) (xW B m) (some (.int x.1), xW B x.2) := by
  unfold D114_11t at h
  refine r_s (fr' := (1, lv, [.int 0])) (hp' := xW B m) (q := (.iconst 0, 1, 0, 0, .null)) rfl (fun _ => rfl) (Nat.le_refl _) ?_
  refine q_si (k := 2) (i := 5) (q := (.istore 5, 2, 0, 0, .null)) rfl (fun _ => rfl) (by decide) ?_
  have l0_1 : zld (zs1 lv 5 (.int 0)) 0 = some (.ref 11) := x_o1 l0 rfl rfl
  have l1_1 : zld (zs1 lv 5 (.int 0)) 1 = some (.int v1) := x_o1 l1 rfl rfl
  have l2_1 : zld (zs1 lv 5 (.int 0)) 2 = some (.int v2) := x_o1 l2 rfl rfl
  have l3_1 : zld (zs1 lv 5 (.int 0)) 3 = some (.int v3) := x_o1 l3 rfl rfl
  have l4_1 : zld (zs1 lv 5 (.int 0)) 4 = some (.int v4) := x_o1 l4 rfl rfl
  have l5_1 : zld (zs1 lv 5 (.int 0)) 5 = some (.int 0) := zs1_ld _ _ _
  generalize (zs1 lv 5 (.int 0)) = lv1 at *
  refine r_s (fr' := (4, lv1, [.int 0])) (hp' := xW B m) (q := (.iconst 0, 1, 0, 0, .null)) rfl (fun _ => rfl) (Nat.le_refl _) ?_
  refine q_si (k := 2) (i := 6) (q := (.istore 6, 2, 0, 0, .null)) rfl (fun _ => rfl) (by decide) ?_
  have l0_2 : zld (zs1 lv1 6 (.int 0)) 0 = some (.ref 11) := x_o1 l0_1 rfl rfl
  have l1_2 : zld (zs1 lv1 6 (.int 0)) 1 = some (.int v1) := x_o1 l1_1 rfl rfl
  have l2_2 : zld (zs1 lv1 6 (.int 0)) 2 = some (.int v2) := x_o1 l2_1 rfl rfl
  have l3_2 : zld (zs1 lv1 6 (.int 0)) 3 = some (.int v3) := x_o1 l3_1 rfl rfl
  have l4_2 : zld (zs1 lv1 6 (.int 0)) 4 = some (.int v4) := x_o1 l4_1 rfl rfl
  have l5_2 : zld (zs1 lv1 6 (.int 0)) 5 = some (.int 0) := x_o1 l5_1 rfl rfl
  have l6_2 : zld (zs1 lv1 6 (.int 0)) 6 = some (.int 0) := zs1_ld _ _ _
  generalize (zs1 lv1 6 (.int 0)) = lv2 at *
  exact T114_11t_6 H he F F l0_2 l1_2 l2_2 l3_2 l4_2 l5_2 l6_2 h
set_option maxRecDepth 20000 in
theorem Z114_11t {B : zHp} (H : yH0 B) {F : Nat} {a1 : Int32} {a2 : Int32} {a3 : Int32} {a4 : Int32} {m : xS} {x : Int32 × xS} (h : D114_11t F a1 a2 a3 a4 m = some x) {d : Nat} (hd : 2 ≤ d) : zCan d 114 [.ref 11, .int a1, .int a2, .int a3, .int a4] (xW B m) (some (.int x.1), xW B x.2) := by
  obtain ⟨e, rfl⟩ : ∃ e, d = e + 1 := ⟨d - 1, by omega⟩
  refine zCan_body (nL := 8) (rt := (some .int)) (cd := zc114) (xg114) ⟨Nat.le_of_ble_eq_true rfl, by decide⟩ (Nat.le_refl _) ?_
  exact T114_11t H hd F rfl rfl rfl rfl rfl h
/-- LentTools$Rule.wordFor -/
def D31_11t (F : Nat) (v0 : Int32) (v2 : Int32) (v3 : Int32) (m : xS) : Option (Int32 × xS) :=
  (D87_11t F v2 3 m).bind fun q3 =>
    if (v0 == 0) = true then
      some (v2, q3.2)
    else
      if (v0 == 1) = true then
        (D87_11t F v2 1 q3.2).bind fun q77 =>
          some (q77.1, q77.2)
      else
        if (v0 == 2) = true then
          (D87_11t F v2 0 q3.2).bind fun q84 =>
            some (q84.1, q84.2)
        else
          if (v0 == 3) = true then
            some (q3.1, q3.2)
          else
            if (v0 == 4) = true then
              some (v3, q3.2)
            else
              if (v0 == 5) = true then
                (D87_11t F v2 4 q3.2).bind fun q96 =>
                  some (q96.1, q96.2)
              else
                if (v0 == 6) = true then
                  (D100_11t F v2 1 q3.2).bind fun q103 =>
                    some (q103.1, q103.2)
                else
                  if (v0 == 7) = true then
                    (D87_11t F v2 5 q3.2).bind fun q110 =>
                      some (q110.1, q110.2)
                  else
                    if (v0 == 8) = true then
                      (D81_11t F q3.2).bind fun q115 =>
                        some (q115.1, q115.2)
                    else
                      if (v0 == 9) = true then
                        (D114_11t F v2 v3 2 1 q3.2).bind fun q124 =>
                          some (q124.1, q124.2)
                      else
                        if (v0 == 10) = true then
                          (D114_11t F v2 v3 3 0 q3.2).bind fun q133 =>
                            some (q133.1, q133.2)
                        else
                          if (v0 == 11) = true then
                            (D94_11t F v3 q3.1 q3.2).bind fun q141 =>
                              some (q141.1, q141.2)
                          else
                            (D92_11t F v3 q3.1 q3.2).bind fun q149 =>
                              if zcmp .eq q149.1 0 = true then
                                some (0, q149.2)
                              else
                                some (1, q149.2)
set_option maxRecDepth 20000 in
theorem T31_11t {B : zHp} (H : yH0 B) {e : Nat} (he : 4 ≤ e + 1) (F : Nat) {v0 : Int32} {v2 : Int32} {v3 : Int32} {lv : List (Nat × Value)} {m : xS} {x : Int32 × xS} (l0 : zld lv 0 = some (.int v0)) (l1 : zld lv 1 = some (.ref 11)) (l2 : zld lv 2 = some (.int v2)) (l3 : zld lv 3 = some (.int v3)) (h : D31_11t F v0 v2 v3 m = some x) : zR none e 5 (some .int) zc31 (0, lv, []) (xW B m) (some (.int x.1), xW B x.2) := by
  unfold D31_11t at h
  refine q_lr (k := 1) (i := 1) (q := (.aload_n 1, 1, 0, 0, .null)) rfl (fun _ => rfl) l1 ?_
  refine q_li (k := 1) (i := 2) (q := (.iload_n 2, 1, 0, 0, .null)) rfl (fun _ => rfl) l2 ?_
  refine r_s (fr' := (3, lv, [.int 3, .int v2, .ref 11])) (hp' := xW B m) (q := (.iconst 3, 1, 0, 0, .null)) rfl (fun _ => rfl) (Nat.le_refl _) ?_
  obtain ⟨q3, h3, h⟩ := xbind h
  refine r_call (ix := 11) (as := [.int v2, .int 3]) (rest := []) (rv := some (.int q3.1)) (hp' := xW B q3.2) (pc := 3) rfl xr87 rfl rfl rfl (xkd H (by decide)) (Nat.le_of_ble_eq_true rfl) (Z87_11t H h3 (by omega)) (Nat.le_refl _) ?_
  refine q_si (k := 2) (i := 4) (q := (.istore 4, 2, 0, 0, .null)) rfl (fun _ => rfl) (by decide) ?_
  have l0_1 : zld (zs1 lv 4 (.int q3.1)) 0 = some (.int v0) := x_o1 l0 rfl rfl
  have l1_1 : zld (zs1 lv 4 (.int q3.1)) 1 = some (.ref 11) := x_o1 l1 rfl rfl
  have l2_1 : zld (zs1 lv 4 (.int q3.1)) 2 = some (.int v2) := x_o1 l2 rfl rfl
  have l3_1 : zld (zs1 lv 4 (.int q3.1)) 3 = some (.int v3) := x_o1 l3 rfl rfl
  have l4_1 : zld (zs1 lv 4 (.int q3.1)) 4 = some (.int q3.1) := zs1_ld _ _ _
  generalize (zs1 lv 4 (.int q3.1)) = lv1 at *
  refine q_li (k := 1) (i := 0) (q := (.iload_n 0, 1, 0, 0, .null)) rfl (fun _ => rfl) l0_1 ?_
  by_cases d2 : ((v0 == 0)) = true
  · rw [if_pos d2] at h
    refine q_sw (pc2 := 72) (q := (.tableswitch 136 0 11 #[63, 65, 72, 79, 82, 84, 91, 98, 105, 110, 119, 128], 63, 0, 0, .null)) d2 rfl (fun _ => rfl) ?_
    refine q_li (k := 1) (i := 2) (q := (.iload_n 2, 1, 0, 0, .null)) rfl (fun _ => rfl) l2_1 ?_
    obtain rfl := Option.some.inj h
    exact q_ri (q := (.ireturn, 1, 0, 0, .null)) rfl (fun _ => rfl) rfl rfl
  · rw [if_neg d2] at h
    by_cases d3 : ((v0 == 1)) = true
    · rw [if_pos d3] at h
      refine q_sw (pc2 := 74) (q := (.tableswitch 136 0 11 #[63, 65, 72, 79, 82, 84, 91, 98, 105, 110, 119, 128], 63, 0, 0, .null)) d3 rfl (fun _ => rfl) ?_
      refine q_lr (k := 1) (i := 1) (q := (.aload_n 1, 1, 0, 0, .null)) rfl (fun _ => rfl) l1_1 ?_
      refine q_li (k := 1) (i := 2) (q := (.iload_n 2, 1, 0, 0, .null)) rfl (fun _ => rfl) l2_1 ?_
      refine r_s (fr' := (77, lv1, [.int 1, .int v2, .ref 11])) (hp' := xW B q3.2) (q := (.iconst 1, 1, 0, 0, .null)) rfl (fun _ => rfl) (Nat.le_refl _) ?_
      obtain ⟨q77, h77, h⟩ := xbind h
      refine r_call (ix := 11) (as := [.int v2, .int 1]) (rest := []) (rv := some (.int q77.1)) (hp' := xW B q77.2) (pc := 77) rfl xr87 rfl rfl rfl (xkd H (by decide)) (Nat.le_of_ble_eq_true rfl) (Z87_11t H h77 (by omega)) (Nat.le_refl _) ?_
      obtain rfl := Option.some.inj h
      exact q_ri (q := (.ireturn, 1, 0, 0, .null)) rfl (fun _ => rfl) rfl rfl
    · rw [if_neg d3] at h
      by_cases d4 : ((v0 == 2)) = true
      · rw [if_pos d4] at h
        refine q_sw (pc2 := 81) (q := (.tableswitch 136 0 11 #[63, 65, 72, 79, 82, 84, 91, 98, 105, 110, 119, 128], 63, 0, 0, .null)) d4 rfl (fun _ => rfl) ?_
        refine q_lr (k := 1) (i := 1) (q := (.aload_n 1, 1, 0, 0, .null)) rfl (fun _ => rfl) l1_1 ?_
        refine q_li (k := 1) (i := 2) (q := (.iload_n 2, 1, 0, 0, .null)) rfl (fun _ => rfl) l2_1 ?_
        refine r_s (fr' := (84, lv1, [.int 0, .int v2, .ref 11])) (hp' := xW B q3.2) (q := (.iconst 0, 1, 0, 0, .null)) rfl (fun _ => rfl) (Nat.le_refl _) ?_
        obtain ⟨q84, h84, h⟩ := xbind h
        refine r_call (ix := 11) (as := [.int v2, .int 0]) (rest := []) (rv := some (.int q84.1)) (hp' := xW B q84.2) (pc := 84) rfl xr87 rfl rfl rfl (xkd H (by decide)) (Nat.le_of_ble_eq_true rfl) (Z87_11t H h84 (by omega)) (Nat.le_refl _) ?_
        obtain rfl := Option.some.inj h
        exact q_ri (q := (.ireturn, 1, 0, 0, .null)) rfl (fun _ => rfl) rfl rfl
      · rw [if_neg d4] at h
        by_cases d5 : ((v0 == 3)) = true
        · rw [if_pos d5] at h
          refine q_sw (pc2 := 88) (q := (.tableswitch 136 0 11 #[63, 65, 72, 79, 82, 84, 91, 98, 105, 110, 119, 128], 63, 0, 0, .null)) d5 rfl (fun _ => rfl) ?_
          refine q_li (k := 2) (i := 4) (q := (.iload 4, 2, 0, 0, .null)) rfl (fun _ => rfl) l4_1 ?_
          obtain rfl := Option.some.inj h
          exact q_ri (q := (.ireturn, 1, 0, 0, .null)) rfl (fun _ => rfl) rfl rfl
        · rw [if_neg d5] at h
          by_cases d6 : ((v0 == 4)) = true
          · rw [if_pos d6] at h
            refine q_sw (pc2 := 91) (q := (.tableswitch 136 0 11 #[63, 65, 72, 79, 82, 84, 91, 98, 105, 110, 119, 128], 63, 0, 0, .null)) d6 rfl (fun _ => rfl) ?_
            refine q_li (k := 1) (i := 3) (q := (.iload_n 3, 1, 0, 0, .null)) rfl (fun _ => rfl) l3_1 ?_
            obtain rfl := Option.some.inj h
            exact q_ri (q := (.ireturn, 1, 0, 0, .null)) rfl (fun _ => rfl) rfl rfl
          · rw [if_neg d6] at h
            by_cases d7 : ((v0 == 5)) = true
            · rw [if_pos d7] at h
              refine q_sw (pc2 := 93) (q := (.tableswitch 136 0 11 #[63, 65, 72, 79, 82, 84, 91, 98, 105, 110, 119, 128], 63, 0, 0, .null)) d7 rfl (fun _ => rfl) ?_
              refine q_lr (k := 1) (i := 1) (q := (.aload_n 1, 1, 0, 0, .null)) rfl (fun _ => rfl) l1_1 ?_
              refine q_li (k := 1) (i := 2) (q := (.iload_n 2, 1, 0, 0, .null)) rfl (fun _ => rfl) l2_1 ?_
              refine r_s (fr' := (96, lv1, [.int 4, .int v2, .ref 11])) (hp' := xW B q3.2) (q := (.iconst 4, 1, 0, 0, .null)) rfl (fun _ => rfl) (Nat.le_refl _) ?_
              obtain ⟨q96, h96, h⟩ := xbind h
              refine r_call (ix := 11) (as := [.int v2, .int 4]) (rest := []) (rv := some (.int q96.1)) (hp' := xW B q96.2) (pc := 96) rfl xr87 rfl rfl rfl (xkd H (by decide)) (Nat.le_of_ble_eq_true rfl) (Z87_11t H h96 (by omega)) (Nat.le_refl _) ?_
              obtain rfl := Option.some.inj h
              exact q_ri (q := (.ireturn, 1, 0, 0, .null)) rfl (fun _ => rfl) rfl rfl
            · rw [if_neg d7] at h
              by_cases d8 : ((v0 == 6)) = true
              · rw [if_pos d8] at h
                refine q_sw (pc2 := 100) (q := (.tableswitch 136 0 11 #[63, 65, 72, 79, 82, 84, 91, 98, 105, 110, 119, 128], 63, 0, 0, .null)) d8 rfl (fun _ => rfl) ?_
                refine q_lr (k := 1) (i := 1) (q := (.aload_n 1, 1, 0, 0, .null)) rfl (fun _ => rfl) l1_1 ?_
                refine q_li (k := 1) (i := 2) (q := (.iload_n 2, 1, 0, 0, .null)) rfl (fun _ => rfl) l2_1 ?_
                refine r_s (fr' := (103, lv1, [.int 1, .int v2, .ref 11])) (hp' := xW B q3.2) (q := (.iconst 1, 1, 0, 0, .null)) rfl (fun _ => rfl) (Nat.le_refl _) ?_
                obtain ⟨q103, h103, h⟩ := xbind h
                refine r_call (ix := 11) (as := [.int v2, .int 1]) (rest := []) (rv := some (.int q103.1)) (hp' := xW B q103.2) (pc := 103) rfl xr100 rfl rfl rfl (xkd H (by decide)) (Nat.le_of_ble_eq_true rfl) (Z100_11t H h103 (by omega)) (Nat.le_refl _) ?_
                obtain rfl := Option.some.inj h
                exact q_ri (q := (.ireturn, 1, 0, 0, .null)) rfl (fun _ => rfl) rfl rfl
              · rw [if_neg d8] at h
                by_cases d9 : ((v0 == 7)) = true
                · rw [if_pos d9] at h
                  refine q_sw (pc2 := 107) (q := (.tableswitch 136 0 11 #[63, 65, 72, 79, 82, 84, 91, 98, 105, 110, 119, 128], 63, 0, 0, .null)) d9 rfl (fun _ => rfl) ?_
                  refine q_lr (k := 1) (i := 1) (q := (.aload_n 1, 1, 0, 0, .null)) rfl (fun _ => rfl) l1_1 ?_
                  refine q_li (k := 1) (i := 2) (q := (.iload_n 2, 1, 0, 0, .null)) rfl (fun _ => rfl) l2_1 ?_
                  refine r_s (fr' := (110, lv1, [.int 5, .int v2, .ref 11])) (hp' := xW B q3.2) (q := (.iconst 5, 1, 0, 0, .null)) rfl (fun _ => rfl) (Nat.le_refl _) ?_
                  obtain ⟨q110, h110, h⟩ := xbind h
                  refine r_call (ix := 11) (as := [.int v2, .int 5]) (rest := []) (rv := some (.int q110.1)) (hp' := xW B q110.2) (pc := 110) rfl xr87 rfl rfl rfl (xkd H (by decide)) (Nat.le_of_ble_eq_true rfl) (Z87_11t H h110 (by omega)) (Nat.le_refl _) ?_
                  obtain rfl := Option.some.inj h
                  exact q_ri (q := (.ireturn, 1, 0, 0, .null)) rfl (fun _ => rfl) rfl rfl
                · rw [if_neg d9] at h
                  by_cases d10 : ((v0 == 8)) = true
                  · rw [if_pos d10] at h
                    refine q_sw (pc2 := 114) (q := (.tableswitch 136 0 11 #[63, 65, 72, 79, 82, 84, 91, 98, 105, 110, 119, 128], 63, 0, 0, .null)) d10 rfl (fun _ => rfl) ?_
                    refine q_lr (k := 1) (i := 1) (q := (.aload_n 1, 1, 0, 0, .null)) rfl (fun _ => rfl) l1_1 ?_
                    obtain ⟨q115, h115, h⟩ := xbind h
                    refine r_call (ix := 11) (as := []) (rest := []) (rv := some (.int q115.1)) (hp' := xW B q115.2) (pc := 115) rfl xr81 rfl rfl rfl (xkd H (by decide)) (Nat.le_of_ble_eq_true rfl) (Z81_11t H h115 (by omega)) (Nat.le_refl _) ?_
                    obtain rfl := Option.some.inj h
                    exact q_ri (q := (.ireturn, 1, 0, 0, .null)) rfl (fun _ => rfl) rfl rfl
                  · rw [if_neg d10] at h
                    by_cases d11 : ((v0 == 9)) = true
                    · rw [if_pos d11] at h
                      refine q_sw (pc2 := 119) (q := (.tableswitch 136 0 11 #[63, 65, 72, 79, 82, 84, 91, 98, 105, 110, 119, 128], 63, 0, 0, .null)) d11 rfl (fun _ => rfl) ?_
                      refine q_lr (k := 1) (i := 1) (q := (.aload_n 1, 1, 0, 0, .null)) rfl (fun _ => rfl) l1_1 ?_
                      refine q_li (k := 1) (i := 2) (q := (.iload_n 2, 1, 0, 0, .null)) rfl (fun _ => rfl) l2_1 ?_
                      refine q_li (k := 1) (i := 3) (q := (.iload_n 3, 1, 0, 0, .null)) rfl (fun _ => rfl) l3_1 ?_
                      refine r_s (fr' := (123, lv1, [.int 2, .int v3, .int v2, .ref 11])) (hp' := xW B q3.2) (q := (.iconst 2, 1, 0, 0, .null)) rfl (fun _ => rfl) (Nat.le_refl _) ?_
                      refine r_s (fr' := (124, lv1, [.int 1, .int 2, .int v3, .int v2, .ref 11])) (hp' := xW B q3.2) (q := (.iconst 1, 1, 0, 0, .null)) rfl (fun _ => rfl) (Nat.le_refl _) ?_
                      obtain ⟨q124, h124, h⟩ := xbind h
                      refine r_call (ix := 11) (as := [.int v2, .int v3, .int 2, .int 1]) (rest := []) (rv := some (.int q124.1)) (hp' := xW B q124.2) (pc := 124) rfl xr114 rfl rfl rfl (xkd H (by decide)) (Nat.le_of_ble_eq_true rfl) (Z114_11t H h124 (by omega)) (Nat.le_refl _) ?_
                      obtain rfl := Option.some.inj h
                      exact q_ri (q := (.ireturn, 1, 0, 0, .null)) rfl (fun _ => rfl) rfl rfl
                    · rw [if_neg d11] at h
                      by_cases d12 : ((v0 == 10)) = true
                      · rw [if_pos d12] at h
                        refine q_sw (pc2 := 128) (q := (.tableswitch 136 0 11 #[63, 65, 72, 79, 82, 84, 91, 98, 105, 110, 119, 128], 63, 0, 0, .null)) d12 rfl (fun _ => rfl) ?_
                        refine q_lr (k := 1) (i := 1) (q := (.aload_n 1, 1, 0, 0, .null)) rfl (fun _ => rfl) l1_1 ?_
                        refine q_li (k := 1) (i := 2) (q := (.iload_n 2, 1, 0, 0, .null)) rfl (fun _ => rfl) l2_1 ?_
                        refine q_li (k := 1) (i := 3) (q := (.iload_n 3, 1, 0, 0, .null)) rfl (fun _ => rfl) l3_1 ?_
                        refine r_s (fr' := (132, lv1, [.int 3, .int v3, .int v2, .ref 11])) (hp' := xW B q3.2) (q := (.iconst 3, 1, 0, 0, .null)) rfl (fun _ => rfl) (Nat.le_refl _) ?_
                        refine r_s (fr' := (133, lv1, [.int 0, .int 3, .int v3, .int v2, .ref 11])) (hp' := xW B q3.2) (q := (.iconst 0, 1, 0, 0, .null)) rfl (fun _ => rfl) (Nat.le_refl _) ?_
                        obtain ⟨q133, h133, h⟩ := xbind h
                        refine r_call (ix := 11) (as := [.int v2, .int v3, .int 3, .int 0]) (rest := []) (rv := some (.int q133.1)) (hp' := xW B q133.2) (pc := 133) rfl xr114 rfl rfl rfl (xkd H (by decide)) (Nat.le_of_ble_eq_true rfl) (Z114_11t H h133 (by omega)) (Nat.le_refl _) ?_
                        obtain rfl := Option.some.inj h
                        exact q_ri (q := (.ireturn, 1, 0, 0, .null)) rfl (fun _ => rfl) rfl rfl
                      · rw [if_neg d12] at h
                        by_cases d13 : ((v0 == 11)) = true
                        · rw [if_pos d13] at h
                          refine q_sw (pc2 := 137) (q := (.tableswitch 136 0 11 #[63, 65, 72, 79, 82, 84, 91, 98, 105, 110, 119, 128], 63, 0, 0, .null)) d13 rfl (fun _ => rfl) ?_
                          refine q_lr (k := 1) (i := 1) (q := (.aload_n 1, 1, 0, 0, .null)) rfl (fun _ => rfl) l1_1 ?_
                          refine q_li (k := 1) (i := 3) (q := (.iload_n 3, 1, 0, 0, .null)) rfl (fun _ => rfl) l3_1 ?_
                          refine q_li (k := 2) (i := 4) (q := (.iload 4, 2, 0, 0, .null)) rfl (fun _ => rfl) l4_1 ?_
                          obtain ⟨q141, h141, h⟩ := xbind h
                          refine r_call (ix := 11) (as := [.int v3, .int q3.1]) (rest := []) (rv := some (.int q141.1)) (hp' := xW B q141.2) (pc := 141) rfl xr94 rfl rfl rfl (xkd H (by decide)) (Nat.le_of_ble_eq_true rfl) (Z94_11t H h141 (by omega)) (Nat.le_refl _) ?_
                          obtain rfl := Option.some.inj h
                          exact q_ri (q := (.ireturn, 1, 0, 0, .null)) rfl (fun _ => rfl) rfl rfl
                        · rw [if_neg d13] at h
                          refine q_td (pc2 := 145) (q := (.tableswitch 136 0 11 #[63, 65, 72, 79, 82, 84, 91, 98, 105, 110, 119, 128], 63, 0, 0, .null)) (dflt := 136) (lo := 0) (hi := 11) (offs := #[63, 65, 72, 79, 82, 84, 91, 98, 105, 110, 119, 128]) (by have z0 := xne (z := 0) rfl d2; have z1 := xne (z := 1) rfl d3; have z2 := xne (z := 2) rfl d4; have z3 := xne (z := 3) rfl d5; have z4 := xne (z := 4) rfl d6; have z5 := xne (z := 5) rfl d7; have z6 := xne (z := 6) rfl d8; have z7 := xne (z := 7) rfl d9; have z8 := xne (z := 8) rfl d10; have z9 := xne (z := 9) rfl d11; have z10 := xne (z := 10) rfl d12; have z11 := xne (z := 11) rfl d13; omega) rfl (fun _ => rfl) rfl ?_
                          refine q_lr (k := 1) (i := 1) (q := (.aload_n 1, 1, 0, 0, .null)) rfl (fun _ => rfl) l1_1 ?_
                          refine q_li (k := 1) (i := 3) (q := (.iload_n 3, 1, 0, 0, .null)) rfl (fun _ => rfl) l3_1 ?_
                          refine q_li (k := 2) (i := 4) (q := (.iload 4, 2, 0, 0, .null)) rfl (fun _ => rfl) l4_1 ?_
                          obtain ⟨q149, h149, h⟩ := xbind h
                          refine r_call (ix := 11) (as := [.int v3, .int q3.1]) (rest := []) (rv := some (.int q149.1)) (hp' := xW B q149.2) (pc := 149) rfl xr92 rfl rfl rfl (xkd H (by decide)) (Nat.le_of_ble_eq_true rfl) (Z92_11t H h149 (by omega)) (Nat.le_refl _) ?_
                          refine r_if (len := 3) (a := 159) (b := 0) (v0 := .null) (cn := .eq) (off := 7) rfl (fun c => ?_) (fun c => ?_)
                          · rw [if_pos c] at h
                            refine r_s (fr' := (160, lv1, [.int 0])) (hp' := xW B q149.2) (q := (.iconst 0, 1, 0, 0, .null)) rfl (fun _ => rfl) (Nat.le_refl _) ?_
                            obtain rfl := Option.some.inj h
                            exact q_ri (q := (.ireturn, 1, 0, 0, .null)) rfl (fun _ => rfl) rfl rfl
                          · rw [if_neg (by rw [c]; decide)] at h
                            refine r_s (fr' := (156, lv1, [.int 1])) (hp' := xW B q149.2) (q := (.iconst 1, 1, 0, 0, .null)) rfl (fun _ => rfl) (Nat.le_refl _) ?_
                            refine r_s (fr' := (160, lv1, [.int 1])) (hp' := xW B q149.2) (q := (.goto 4, 3, 160, 0, .null)) rfl (fun _ => rfl) (Nat.le_refl _) ?_
                            obtain rfl := Option.some.inj h
                            exact q_ri (q := (.ireturn, 1, 0, 0, .null)) rfl (fun _ => rfl) rfl rfl
set_option maxRecDepth 20000 in
theorem Z31_11t {B : zHp} (H : yH0 B) {F : Nat} {a0 : Int32} {a2 : Int32} {a3 : Int32} {m : xS} {x : Int32 × xS} (h : D31_11t F a0 a2 a3 m = some x) {d : Nat} (hd : 4 ≤ d) : zCan d 31 [.int a0, .ref 11, .int a2, .int a3] (xW B m) (some (.int x.1), xW B x.2) := by
  obtain ⟨e, rfl⟩ : ∃ e, d = e + 1 := ⟨d - 1, by omega⟩
  refine zCan_body (nL := 5) (rt := (some .int)) (cd := zc31) (xg31) ⟨Nat.le_of_ble_eq_true rfl, by decide⟩ (Nat.le_refl _) ?_
  exact T31_11t H hd F rfl rfl rfl rfl h
/-- LentTools$Rule.sumFor -/
def D28_R_11t_198 (F : Nat) (r0 nn : Nat) (g6 : Int32 → Int32 → Int32 → Int32 → xS → Option (Int64 × xS)) (v2 : Int32) (v3 : Int32) (v4 : Int32) (v5 : Int32) (v6 : Int32) (m : xS) : Option (Int64 × xS) :=
  g6 v2 v3 v4 (v5 + Int32.ofInt 1) m
set_option maxRecDepth 20000 in
theorem T28_R_11t_198 {B : zHp} (H : yH0 B) {e : Nat} (he : 5 ≤ e + 1) (F : Nat) (r0 nn : Nat) (hr0 : rlB B r0 nn) (g6 : Int32 → Int32 → Int32 → Int32 → xS → Option (Int64 × xS)) (k6 : ∀ {v2 : Int32} {v3 : Int32} {v4 : Int32} {v5 : Int32} {lv : List (Nat × Value)} {m : xS} {x : Int64 × xS}, zld lv 0 = some (.ref r0) → zld lv 1 = some (.ref 11) → zld lv 2 = some (.int v2) → zld lv 3 = some (.int v3) → zld lv 4 = some (.int v4) → zld lv 5 = some (.int v5) → g6 v2 v3 v4 v5 m = some x → zR none e 7 (some .long) zc28 (6, lv, []) (xW B m) (some (.long x.1), xW B x.2)) {v2 : Int32} {v3 : Int32} {v4 : Int32} {v5 : Int32} {v6 : Int32} {lv : List (Nat × Value)} {m : xS} {x : Int64 × xS} (l0 : zld lv 0 = some (.ref r0)) (l1 : zld lv 1 = some (.ref 11)) (l2 : zld lv 2 = some (.int v2)) (l3 : zld lv 3 = some (.int v3)) (l4 : zld lv 4 = some (.int v4)) (l5 : zld lv 5 = some (.int v5)) (l6 : zld lv 6 = some (.int v6)) (h : D28_R_11t_198 F r0 nn g6 v2 v3 v4 v5 v6 m = some x) : zR none e 7 (some .long) zc28 (198, lv, []) (xW B m) (some (.long x.1), xW B x.2) := by
  unfold D28_R_11t_198 at h
  refine q_inc (i := 5) (n := 1) (q := (.iinc 5 1, 3, 0, 0, .null)) rfl (fun _ => rfl) l5 (by decide) ?_
  have l0_1 : zld (zs1 lv 5 (.int (v5 + Int32.ofInt 1))) 0 = some (.ref r0) := x_o1 l0 rfl rfl
  have l1_1 : zld (zs1 lv 5 (.int (v5 + Int32.ofInt 1))) 1 = some (.ref 11) := x_o1 l1 rfl rfl
  have l2_1 : zld (zs1 lv 5 (.int (v5 + Int32.ofInt 1))) 2 = some (.int v2) := x_o1 l2 rfl rfl
  have l3_1 : zld (zs1 lv 5 (.int (v5 + Int32.ofInt 1))) 3 = some (.int v3) := x_o1 l3 rfl rfl
  have l4_1 : zld (zs1 lv 5 (.int (v5 + Int32.ofInt 1))) 4 = some (.int v4) := x_o1 l4 rfl rfl
  have l5_1 : zld (zs1 lv 5 (.int (v5 + Int32.ofInt 1))) 5 = some (.int (v5 + Int32.ofInt 1)) := zs1_ld _ _ _
  have l6_1 : zld (zs1 lv 5 (.int (v5 + Int32.ofInt 1))) 6 = some (.int v6) := x_o1 l6 rfl rfl
  generalize (zs1 lv 5 (.int (v5 + Int32.ofInt 1))) = lv1 at *
  refine r_s (fr' := (6, lv1, [])) (hp' := xW B m) (q := (.goto (-195), 3, 6, 0, .null)) rfl (fun _ => rfl) (Nat.le_refl _) ?_
  exact k6 l0_1 l1_1 l2_1 l3_1 l4_1 l5_1 h
def D28_R_11t_73 (F : Nat) (r0 nn : Nat) (g6 : Int32 → Int32 → Int32 → Int32 → xS → Option (Int64 × xS)) (v2 : Int32) (v3 : Int32) (v4 : Int32) (v5 : Int32) (v6 : Int32) (w0 : Int64) (w1 : Int32) (m : xS) : Option (Int64 × xS) :=
  if xib w1 64 = true then
    D28_R_11t_198 F r0 nn g6 v2 v3 (v4 + Int32.ofInt 1) v5 v6 (xul m (r0 + 2) (w1 : Int32).toNatClampNeg w0)
  else none
set_option maxRecDepth 20000 in
theorem T28_R_11t_73 {B : zHp} (H : yH0 B) {e : Nat} (he : 5 ≤ e + 1) (F : Nat) (r0 nn : Nat) (hr0 : rlB B r0 nn) (g6 : Int32 → Int32 → Int32 → Int32 → xS → Option (Int64 × xS)) (k6 : ∀ {v2 : Int32} {v3 : Int32} {v4 : Int32} {v5 : Int32} {lv : List (Nat × Value)} {m : xS} {x : Int64 × xS}, zld lv 0 = some (.ref r0) → zld lv 1 = some (.ref 11) → zld lv 2 = some (.int v2) → zld lv 3 = some (.int v3) → zld lv 4 = some (.int v4) → zld lv 5 = some (.int v5) → g6 v2 v3 v4 v5 m = some x → zR none e 7 (some .long) zc28 (6, lv, []) (xW B m) (some (.long x.1), xW B x.2)) {v2 : Int32} {v3 : Int32} {v4 : Int32} {v5 : Int32} {v6 : Int32} {w0 : Int64} {w1 : Int32} {lv : List (Nat × Value)} {m : xS} {x : Int64 × xS} (l0 : zld lv 0 = some (.ref r0)) (l1 : zld lv 1 = some (.ref 11)) (l2 : zld lv 2 = some (.int v2)) (l3 : zld lv 3 = some (.int v3)) (l4 : zld lv 4 = some (.int v4)) (l5 : zld lv 5 = some (.int v5)) (l6 : zld lv 6 = some (.int v6)) (h : D28_R_11t_73 F r0 nn g6 v2 v3 v4 v5 v6 w0 w1 m = some x) : zR none e 7 (some .long) zc28 (73, lv, [.long w0, .int w1, .ref (r0 + 2)]) (xW B m) (some (.long x.1), xW B x.2) := by
  unfold D28_R_11t_73 at h
  obtain ⟨c1, h⟩ := xif h
  refine q_rlas (s2 := (xul m (r0 + 2) (w1 : Int32).toNatClampNeg w0)) hr0 (pc := 73) rfl c1 rfl ?_
  refine q_inc (i := 4) (n := 1) (q := (.iinc 4 1, 3, 0, 0, .null)) rfl (fun _ => rfl) l4 (by decide) ?_
  have l0_2 : zld (zs1 lv 4 (.int (v4 + Int32.ofInt 1))) 0 = some (.ref r0) := x_o1 l0 rfl rfl
  have l1_2 : zld (zs1 lv 4 (.int (v4 + Int32.ofInt 1))) 1 = some (.ref 11) := x_o1 l1 rfl rfl
  have l2_2 : zld (zs1 lv 4 (.int (v4 + Int32.ofInt 1))) 2 = some (.int v2) := x_o1 l2 rfl rfl
  have l3_2 : zld (zs1 lv 4 (.int (v4 + Int32.ofInt 1))) 3 = some (.int v3) := x_o1 l3 rfl rfl
  have l4_2 : zld (zs1 lv 4 (.int (v4 + Int32.ofInt 1))) 4 = some (.int (v4 + Int32.ofInt 1)) := zs1_ld _ _ _
  have l5_2 : zld (zs1 lv 4 (.int (v4 + Int32.ofInt 1))) 5 = some (.int v5) := x_o1 l5 rfl rfl
  have l6_2 : zld (zs1 lv 4 (.int (v4 + Int32.ofInt 1))) 6 = some (.int v6) := x_o1 l6 rfl rfl
  generalize (zs1 lv 4 (.int (v4 + Int32.ofInt 1))) = lv2 at *
  refine r_s (fr' := (198, lv2, [])) (hp' := xW B (xul m (r0 + 2) (w1 : Int32).toNatClampNeg w0)) (q := (.goto 121, 3, 198, 0, .null)) rfl (fun _ => rfl) (Nat.le_refl _) ?_
  exact T28_R_11t_198 H he F r0 nn hr0 _ k6 l0_2 l1_2 l2_2 l3_2 l4_2 l5_2 l6_2 h
def D28_R_11t_159 (F : Nat) (r0 nn : Nat) (g6 : Int32 → Int32 → Int32 → Int32 → xS → Option (Int64 × xS)) (v2 : Int32) (v3 : Int32) (v4 : Int32) (v5 : Int32) (v6 : Int32) (m : xS) : Option (Int64 × xS) :=
  if zcmp .le v4 1 = true then
    D28_R_11t_198 F r0 nn g6 v2 v3 v4 v5 v6 m
  else
    if xib ((v4 + Int32.ofInt (-1)) - 1) 64 = true then
      if xib (v4 + Int32.ofInt (-1)) 64 = true then
        (D29 F v6 (m.2 (r0 + 2) (((v4 + Int32.ofInt (-1)) - 1) : Int32).toNatClampNeg) (m.2 (r0 + 2) ((v4 + Int32.ofInt (-1)) : Int32).toNatClampNeg) m).bind fun q194 =>
          if xib ((v4 + Int32.ofInt (-1)) - 1) 64 = true then
            D28_R_11t_198 F r0 nn g6 v2 v3 (v4 + Int32.ofInt (-1)) v5 v6 (xul q194.2 (r0 + 2) (((v4 + Int32.ofInt (-1)) - 1) : Int32).toNatClampNeg q194.1)
          else none
      else none
    else none
set_option maxRecDepth 20000 in
theorem T28_R_11t_159 {B : zHp} (H : yH0 B) {e : Nat} (he : 5 ≤ e + 1) (F : Nat) (r0 nn : Nat) (hr0 : rlB B r0 nn) (g6 : Int32 → Int32 → Int32 → Int32 → xS → Option (Int64 × xS)) (k6 : ∀ {v2 : Int32} {v3 : Int32} {v4 : Int32} {v5 : Int32} {lv : List (Nat × Value)} {m : xS} {x : Int64 × xS}, zld lv 0 = some (.ref r0) → zld lv 1 = some (.ref 11) → zld lv 2 = some (.int v2) → zld lv 3 = some (.int v3) → zld lv 4 = some (.int v4) → zld lv 5 = some (.int v5) → g6 v2 v3 v4 v5 m = some x → zR none e 7 (some .long) zc28 (6, lv, []) (xW B m) (some (.long x.1), xW B x.2)) {v2 : Int32} {v3 : Int32} {v4 : Int32} {v5 : Int32} {v6 : Int32} {lv : List (Nat × Value)} {m : xS} {x : Int64 × xS} (l0 : zld lv 0 = some (.ref r0)) (l1 : zld lv 1 = some (.ref 11)) (l2 : zld lv 2 = some (.int v2)) (l3 : zld lv 3 = some (.int v3)) (l4 : zld lv 4 = some (.int v4)) (l5 : zld lv 5 = some (.int v5)) (l6 : zld lv 6 = some (.int v6)) (h : D28_R_11t_159 F r0 nn g6 v2 v3 v4 v5 v6 m = some x) : zR none e 7 (some .long) zc28 (159, lv, []) (xW B m) (some (.long x.1), xW B x.2) := by
  unfold D28_R_11t_159 at h
  refine q_li (k := 2) (i := 4) (q := (.iload 4, 2, 0, 0, .null)) rfl (fun _ => rfl) l4 ?_
  refine r_s (fr' := (162, lv, [.int 1, .int v4])) (hp' := xW B m) (q := (.iconst 1, 1, 0, 0, .null)) rfl (fun _ => rfl) (Nat.le_refl _) ?_
  refine r_ifc (len := 3) (a := 198) (b := 0) (v0 := .null) (cn := .le) (off := 36) rfl (fun c => ?_) (fun c => ?_)
  · rw [if_pos c] at h
    exact T28_R_11t_198 H he F r0 nn hr0 _ k6 l0 l1 l2 l3 l4 l5 l6 h
  · rw [if_neg (by rw [c]; decide)] at h
    refine q_inc (i := 4) (n := (-1)) (q := (.iinc 4 (-1), 3, 0, 0, .null)) rfl (fun _ => rfl) l4 (by decide) ?_
    have l0_1 : zld (zs1 lv 4 (.int (v4 + Int32.ofInt (-1)))) 0 = some (.ref r0) := x_o1 l0 rfl rfl
    have l1_1 : zld (zs1 lv 4 (.int (v4 + Int32.ofInt (-1)))) 1 = some (.ref 11) := x_o1 l1 rfl rfl
    have l2_1 : zld (zs1 lv 4 (.int (v4 + Int32.ofInt (-1)))) 2 = some (.int v2) := x_o1 l2 rfl rfl
    have l3_1 : zld (zs1 lv 4 (.int (v4 + Int32.ofInt (-1)))) 3 = some (.int v3) := x_o1 l3 rfl rfl
    have l4_1 : zld (zs1 lv 4 (.int (v4 + Int32.ofInt (-1)))) 4 = some (.int (v4 + Int32.ofInt (-1))) := zs1_ld _ _ _
    have l5_1 : zld (zs1 lv 4 (.int (v4 + Int32.ofInt (-1)))) 5 = some (.int v5) := x_o1 l5 rfl rfl
    have l6_1 : zld (zs1 lv 4 (.int (v4 + Int32.ofInt (-1)))) 6 = some (.int v6) := x_o1 l6 rfl rfl
    generalize (zs1 lv 4 (.int (v4 + Int32.ofInt (-1)))) = lv1 at *
    refine q_lr (k := 1) (i := 0) (q := (.aload_n 0, 1, 0, 0, .null)) rfl (fun _ => rfl) l0_1 ?_
    refine r_rg hr0 (pc := 169) rfl (b := 1) rfl ?_
    refine q_li (k := 2) (i := 4) (q := (.iload 4, 2, 0, 0, .null)) rfl (fun _ => rfl) l4_1 ?_
    refine r_s (fr' := (175, lv1, [.int 1, .int (v4 + Int32.ofInt (-1)), .ref (r0 + 2)])) (hp' := xW B m) (q := (.iconst 1, 1, 0, 0, .null)) rfl (fun _ => rfl) (Nat.le_refl _) ?_
    refine r_s (fr' := (176, lv1, [.int ((v4 + Int32.ofInt (-1)) - 1), .ref (r0 + 2)])) (hp' := xW B m) (q := (.isub, 1, 0, 0, .null)) rfl (fun _ => rfl) (Nat.le_refl _) ?_
    refine q_li (k := 2) (i := 6) (q := (.iload 6, 2, 0, 0, .null)) rfl (fun _ => rfl) l6_1 ?_
    refine q_lr (k := 1) (i := 0) (q := (.aload_n 0, 1, 0, 0, .null)) rfl (fun _ => rfl) l0_1 ?_
    refine r_rg hr0 (pc := 179) rfl (b := 1) rfl ?_
    refine q_li (k := 2) (i := 4) (q := (.iload 4, 2, 0, 0, .null)) rfl (fun _ => rfl) l4_1 ?_
    refine r_s (fr' := (185, lv1, [.int 1, .int (v4 + Int32.ofInt (-1)), .ref (r0 + 2), .int v6, .int ((v4 + Int32.ofInt (-1)) - 1), .ref (r0 + 2)])) (hp' := xW B m) (q := (.iconst 1, 1, 0, 0, .null)) rfl (fun _ => rfl) (Nat.le_refl _) ?_
    refine r_s (fr' := (186, lv1, [.int ((v4 + Int32.ofInt (-1)) - 1), .ref (r0 + 2), .int v6, .int ((v4 + Int32.ofInt (-1)) - 1), .ref (r0 + 2)])) (hp' := xW B m) (q := (.isub, 1, 0, 0, .null)) rfl (fun _ => rfl) (Nat.le_refl _) ?_
    obtain ⟨c2, h⟩ := xif h
    refine q_rlal (v := (m.2 (r0 + 2) (((v4 + Int32.ofInt (-1)) - 1) : Int32).toNatClampNeg)) hr0 (pc := 186) rfl c2 rfl ?_
    refine q_lr (k := 1) (i := 0) (q := (.aload_n 0, 1, 0, 0, .null)) rfl (fun _ => rfl) l0_1 ?_
    refine r_rg hr0 (pc := 188) rfl (b := 1) rfl ?_
    refine q_li (k := 2) (i := 4) (q := (.iload 4, 2, 0, 0, .null)) rfl (fun _ => rfl) l4_1 ?_
    obtain ⟨c3, h⟩ := xif h
    refine q_rlal (v := (m.2 (r0 + 2) ((v4 + Int32.ofInt (-1)) : Int32).toNatClampNeg)) hr0 (pc := 193) rfl c3 rfl ?_
    obtain ⟨q194, h194, h⟩ := xbind h
    refine r_callS (as := [.int v6, .long (m.2 (r0 + 2) (((v4 + Int32.ofInt (-1)) - 1) : Int32).toNatClampNeg), .long (m.2 (r0 + 2) ((v4 + Int32.ofInt (-1)) : Int32).toNatClampNeg)]) (rest := [.int ((v4 + Int32.ofInt (-1)) - 1), .ref (r0 + 2)]) (rv := some (.long q194.1)) (hp' := xW B q194.2) (pc := 194) rfl xr29 rfl rfl rfl (Nat.le_of_ble_eq_true rfl) (Z29 H h194 (by omega)) (Nat.le_refl _) ?_
    obtain ⟨c4, h⟩ := xif h
    refine q_rlas (s2 := (xul q194.2 (r0 + 2) (((v4 + Int32.ofInt (-1)) - 1) : Int32).toNatClampNeg q194.1)) hr0 (pc := 197) rfl c4 rfl ?_
    exact T28_R_11t_198 H he F r0 nn hr0 _ k6 l0_1 l1_1 l2_1 l3_1 l4_1 l5_1 l6_1 h
def D28_R_11t_6 (F : Nat) (r0 nn : Nat) : Nat → Int32 → Int32 → Int32 → Int32 → xS → Option (Int64 × xS)
  | 0, _, _, _, _, _ => none
  | f + 1, v2, v3, v4, v5, m =>
    if zcmp .ge v5 (Int32.ofNat nn) = true then
      some (0, m)
    else
      if xib v5 nn = true then
        if zcmp .lt (m.1 (r0 + 1) (v5 : Int32).toNatClampNeg) 20 = true then
          if zcmp .ne (m.1 (r0 + 1) (v5 : Int32).toNatClampNeg) 14 = true then
            if zcmp .ne (m.1 (r0 + 1) (v5 : Int32).toNatClampNeg) 15 = true then
              if zcmp .ne (m.1 (r0 + 1) (v5 : Int32).toNatClampNeg) 3 = true then
                D28_R_11t_159 F r0 nn (D28_R_11t_6 F r0 nn f) v2 v3 v4 v5 (m.1 (r0 + 1) (v5 : Int32).toNatClampNeg) m
              else
                if zcmp .le v4 0 = true then
                  D28_R_11t_159 F r0 nn (D28_R_11t_6 F r0 nn f) v2 v3 v4 v5 (m.1 (r0 + 1) (v5 : Int32).toNatClampNeg) m
                else
                  if xib (v4 - 1) 64 = true then
                    if xib (v4 - 1) 64 = true then
                      D28_R_11t_198 F r0 nn (D28_R_11t_6 F r0 nn f) v2 v3 v4 v5 (m.1 (r0 + 1) (v5 : Int32).toNatClampNeg) (xul m (r0 + 2) ((v4 - 1) : Int32).toNatClampNeg (1 - (m.2 (r0 + 2) ((v4 - 1) : Int32).toNatClampNeg)))
                    else none
                  else none
            else
              if zcmp .eq (lg_cmp (m.2 (r0 + 2) 1) 0) 0 = true then
                D28_R_11t_198 F r0 nn (D28_R_11t_6 F r0 nn f) v2 v3 0 v5 (m.1 (r0 + 1) (v5 : Int32).toNatClampNeg) m
              else
                some ((m.2 (r0 + 2) 0), m)
          else
            some ((m.2 (r0 + 2) 0), m)
        else
          if zcmp .ge v4 64 = true then
            D28_R_11t_198 F r0 nn (D28_R_11t_6 F r0 nn f) v2 v3 v4 v5 (m.1 (r0 + 1) (v5 : Int32).toNatClampNeg) m
          else
            if zcmp .lt (m.1 (r0 + 1) (v5 : Int32).toNatClampNeg) 40 = true then
              (D31_11t F ((m.1 (r0 + 1) (v5 : Int32).toNatClampNeg) - 20) v2 v3 m).bind fun q69 =>
                D28_R_11t_73 F r0 nn (D28_R_11t_6 F r0 nn f) v2 v3 v4 v5 (m.1 (r0 + 1) (v5 : Int32).toNatClampNeg) (q69.1 : Int32).toInt64 v4 q69.2
            else
              D28_R_11t_73 F r0 nn (D28_R_11t_6 F r0 nn f) v2 v3 v4 v5 (m.1 (r0 + 1) (v5 : Int32).toNatClampNeg) (((m.1 (r0 + 1) (v5 : Int32).toNatClampNeg) - 40) : Int32).toInt64 v4 m
      else none
set_option maxRecDepth 20000 in
theorem T28_R_11t_6 {B : zHp} (H : yH0 B) {e : Nat} (he : 5 ≤ e + 1) (F : Nat) (r0 nn : Nat) (hr0 : rlB B r0 nn) : ∀ (f : Nat) {v2 : Int32} {v3 : Int32} {v4 : Int32} {v5 : Int32} {lv : List (Nat × Value)} {m : xS} {x : Int64 × xS}, zld lv 0 = some (.ref r0) → zld lv 1 = some (.ref 11) → zld lv 2 = some (.int v2) → zld lv 3 = some (.int v3) → zld lv 4 = some (.int v4) → zld lv 5 = some (.int v5) → D28_R_11t_6 F r0 nn f v2 v3 v4 v5 m = some x → zR none e 7 (some .long) zc28 (6, lv, []) (xW B m) (some (.long x.1), xW B x.2) := by
  intro f
  induction f with
  | zero => intro v2 v3 v4 v5 lv m x l0 l1 l2 l3 l4 l5 h; cases h
  | succ f ih =>
    intro v2 v3 v4 v5 lv m x l0 l1 l2 l3 l4 l5 h
    unfold D28_R_11t_6 at h
    refine q_li (k := 2) (i := 5) (q := (.iload 5, 2, 0, 0, .null)) rfl (fun _ => rfl) l5 ?_
    refine q_lr (k := 1) (i := 0) (q := (.aload_n 0, 1, 0, 0, .null)) rfl (fun _ => rfl) l0 ?_
    refine r_rg hr0 (pc := 9) rfl (b := 0) rfl ?_
    refine q_rlen hr0 (pc := 12) rfl ?_
    refine r_ifc (len := 3) (a := 204) (b := 0) (v0 := .null) (cn := .ge) (off := 191) rfl (fun c => ?_) (fun c => ?_)
    · rw [if_pos c] at h
      refine r_s (fr' := (205, lv, [.long 0])) (hp' := xW B m) (q := (.lconst 0, 1, 0, 0, .null)) rfl (fun _ => rfl) (Nat.le_refl _) ?_
      obtain rfl := Option.some.inj h
      exact q_rl (q := (.lreturn, 1, 0, 0, .null)) rfl (fun _ => rfl) rfl
    · rw [if_neg (by rw [c]; decide)] at h
      refine q_lr (k := 1) (i := 0) (q := (.aload_n 0, 1, 0, 0, .null)) rfl (fun _ => rfl) l0 ?_
      refine r_rg hr0 (pc := 17) rfl (b := 0) rfl ?_
      refine q_li (k := 2) (i := 5) (q := (.iload 5, 2, 0, 0, .null)) rfl (fun _ => rfl) l5 ?_
      obtain ⟨c1, h⟩ := xif h
      refine q_ral (v := (m.1 (r0 + 1) (v5 : Int32).toNatClampNeg)) hr0 (pc := 22) rfl c1 rfl ?_
      refine q_si (k := 2) (i := 6) (q := (.istore 6, 2, 0, 0, .null)) rfl (fun _ => rfl) (by decide) ?_
      have l0_2 : zld (zs1 lv 6 (.int (m.1 (r0 + 1) (v5 : Int32).toNatClampNeg))) 0 = some (.ref r0) := x_o1 l0 rfl rfl
      have l1_2 : zld (zs1 lv 6 (.int (m.1 (r0 + 1) (v5 : Int32).toNatClampNeg))) 1 = some (.ref 11) := x_o1 l1 rfl rfl
      have l2_2 : zld (zs1 lv 6 (.int (m.1 (r0 + 1) (v5 : Int32).toNatClampNeg))) 2 = some (.int v2) := x_o1 l2 rfl rfl
      have l3_2 : zld (zs1 lv 6 (.int (m.1 (r0 + 1) (v5 : Int32).toNatClampNeg))) 3 = some (.int v3) := x_o1 l3 rfl rfl
      have l4_2 : zld (zs1 lv 6 (.int (m.1 (r0 + 1) (v5 : Int32).toNatClampNeg))) 4 = some (.int v4) := x_o1 l4 rfl rfl
      have l5_2 : zld (zs1 lv 6 (.int (m.1 (r0 + 1) (v5 : Int32).toNatClampNeg))) 5 = some (.int v5) := x_o1 l5 rfl rfl
      have l6_2 : zld (zs1 lv 6 (.int (m.1 (r0 + 1) (v5 : Int32).toNatClampNeg))) 6 = some (.int (m.1 (r0 + 1) (v5 : Int32).toNatClampNeg)) := zs1_ld _ _ _
      generalize (zs1 lv 6 (.int (m.1 (r0 + 1) (v5 : Int32).toNatClampNeg))) = lv2 at *
      refine q_li (k := 2) (i := 6) (q := (.iload 6, 2, 0, 0, .null)) rfl (fun _ => rfl) l6_2 ?_
      refine r_s (fr' := (29, lv2, [.int 20, .int (m.1 (r0 + 1) (v5 : Int32).toNatClampNeg)])) (hp' := xW B m) (q := (.bipush 20, 2, 0, 0, .null)) rfl (fun _ => rfl) (Nat.le_refl _) ?_
      refine r_ifc (len := 3) (a := 80) (b := 0) (v0 := .null) (cn := .lt) (off := 51) rfl (fun c => ?_) (fun c => ?_)
      · rw [if_pos c] at h
        refine q_li (k := 2) (i := 6) (q := (.iload 6, 2, 0, 0, .null)) rfl (fun _ => rfl) l6_2 ?_
        refine r_s (fr' := (84, lv2, [.int 14, .int (m.1 (r0 + 1) (v5 : Int32).toNatClampNeg)])) (hp' := xW B m) (q := (.bipush 14, 2, 0, 0, .null)) rfl (fun _ => rfl) (Nat.le_refl _) ?_
        refine r_ifc (len := 3) (a := 94) (b := 0) (v0 := .null) (cn := .ne) (off := 10) rfl (fun c => ?_) (fun c => ?_)
        · rw [if_pos c] at h
          refine q_li (k := 2) (i := 6) (q := (.iload 6, 2, 0, 0, .null)) rfl (fun _ => rfl) l6_2 ?_
          refine r_s (fr' := (98, lv2, [.int 15, .int (m.1 (r0 + 1) (v5 : Int32).toNatClampNeg)])) (hp' := xW B m) (q := (.bipush 15, 2, 0, 0, .null)) rfl (fun _ => rfl) (Nat.le_refl _) ?_
          refine r_ifc (len := 3) (a := 125) (b := 0) (v0 := .null) (cn := .ne) (off := 27) rfl (fun c => ?_) (fun c => ?_)
          · rw [if_pos c] at h
            refine q_li (k := 2) (i := 6) (q := (.iload 6, 2, 0, 0, .null)) rfl (fun _ => rfl) l6_2 ?_
            refine r_s (fr' := (128, lv2, [.int 3, .int (m.1 (r0 + 1) (v5 : Int32).toNatClampNeg)])) (hp' := xW B m) (q := (.iconst 3, 1, 0, 0, .null)) rfl (fun _ => rfl) (Nat.le_refl _) ?_
            refine r_ifc (len := 3) (a := 159) (b := 0) (v0 := .null) (cn := .ne) (off := 31) rfl (fun c => ?_) (fun c => ?_)
            · rw [if_pos c] at h
              exact T28_R_11t_159 H he F r0 nn hr0 _ ih l0_2 l1_2 l2_2 l3_2 l4_2 l5_2 l6_2 h
            · rw [if_neg (by rw [c]; decide)] at h
              refine q_li (k := 2) (i := 4) (q := (.iload 4, 2, 0, 0, .null)) rfl (fun _ => rfl) l4_2 ?_
              refine r_if (len := 3) (a := 159) (b := 0) (v0 := .null) (cn := .le) (off := 26) rfl (fun c => ?_) (fun c => ?_)
              · rw [if_pos c] at h
                exact T28_R_11t_159 H he F r0 nn hr0 _ ih l0_2 l1_2 l2_2 l3_2 l4_2 l5_2 l6_2 h
              · rw [if_neg (by rw [c]; decide)] at h
                refine q_lr (k := 1) (i := 0) (q := (.aload_n 0, 1, 0, 0, .null)) rfl (fun _ => rfl) l0_2 ?_
                refine r_rg hr0 (pc := 137) rfl (b := 1) rfl ?_
                refine q_li (k := 2) (i := 4) (q := (.iload 4, 2, 0, 0, .null)) rfl (fun _ => rfl) l4_2 ?_
                refine r_s (fr' := (143, lv2, [.int 1, .int v4, .ref (r0 + 2)])) (hp' := xW B m) (q := (.iconst 1, 1, 0, 0, .null)) rfl (fun _ => rfl) (Nat.le_refl _) ?_
                refine r_s (fr' := (144, lv2, [.int (v4 - 1), .ref (r0 + 2)])) (hp' := xW B m) (q := (.isub, 1, 0, 0, .null)) rfl (fun _ => rfl) (Nat.le_refl _) ?_
                refine r_s (fr' := (145, lv2, [.long 1, .int (v4 - 1), .ref (r0 + 2)])) (hp' := xW B m) (q := (.lconst 1, 1, 0, 0, .null)) rfl (fun _ => rfl) (Nat.le_refl _) ?_
                refine q_lr (k := 1) (i := 0) (q := (.aload_n 0, 1, 0, 0, .null)) rfl (fun _ => rfl) l0_2 ?_
                refine r_rg hr0 (pc := 146) rfl (b := 1) rfl ?_
                refine q_li (k := 2) (i := 4) (q := (.iload 4, 2, 0, 0, .null)) rfl (fun _ => rfl) l4_2 ?_
                refine r_s (fr' := (152, lv2, [.int 1, .int v4, .ref (r0 + 2), .long 1, .int (v4 - 1), .ref (r0 + 2)])) (hp' := xW B m) (q := (.iconst 1, 1, 0, 0, .null)) rfl (fun _ => rfl) (Nat.le_refl _) ?_
                refine r_s (fr' := (153, lv2, [.int (v4 - 1), .ref (r0 + 2), .long 1, .int (v4 - 1), .ref (r0 + 2)])) (hp' := xW B m) (q := (.isub, 1, 0, 0, .null)) rfl (fun _ => rfl) (Nat.le_refl _) ?_
                obtain ⟨c3, h⟩ := xif h
                refine q_rlal (v := (m.2 (r0 + 2) ((v4 - 1) : Int32).toNatClampNeg)) hr0 (pc := 153) rfl c3 rfl ?_
                refine r_s (fr' := (155, lv2, [.long (1 - (m.2 (r0 + 2) ((v4 - 1) : Int32).toNatClampNeg)), .int (v4 - 1), .ref (r0 + 2)])) (hp' := xW B m) (q := (.lsub, 1, 0, 0, .null)) rfl (fun _ => rfl) (Nat.le_refl _) ?_
                obtain ⟨c4, h⟩ := xif h
                refine q_rlas (s2 := (xul m (r0 + 2) ((v4 - 1) : Int32).toNatClampNeg (1 - (m.2 (r0 + 2) ((v4 - 1) : Int32).toNatClampNeg)))) hr0 (pc := 155) rfl c4 rfl ?_
                refine r_s (fr' := (198, lv2, [])) (hp' := xW B (xul m (r0 + 2) ((v4 - 1) : Int32).toNatClampNeg (1 - (m.2 (r0 + 2) ((v4 - 1) : Int32).toNatClampNeg)))) (q := (.goto 42, 3, 198, 0, .null)) rfl (fun _ => rfl) (Nat.le_refl _) ?_
                exact T28_R_11t_198 H he F r0 nn hr0 _ ih l0_2 l1_2 l2_2 l3_2 l4_2 l5_2 l6_2 h
          · rw [if_neg (by rw [c]; decide)] at h
            refine q_lr (k := 1) (i := 0) (q := (.aload_n 0, 1, 0, 0, .null)) rfl (fun _ => rfl) l0_2 ?_
            refine r_rg hr0 (pc := 102) rfl (b := 1) rfl ?_
            refine r_s (fr' := (106, lv2, [.int 1, .ref (r0 + 2)])) (hp' := xW B m) (q := (.iconst 1, 1, 0, 0, .null)) rfl (fun _ => rfl) (Nat.le_refl _) ?_
            refine q_rlal (v := (m.2 (r0 + 2) 1)) hr0 (pc := 106) rfl (by decide) rfl ?_
            refine r_s (fr' := (108, lv2, [.long 0, .long (m.2 (r0 + 2) 1)])) (hp' := xW B m) (q := (.lconst 0, 1, 0, 0, .null)) rfl (fun _ => rfl) (Nat.le_refl _) ?_
            refine r_s (fr' := (109, lv2, [.int (lg_cmp (m.2 (r0 + 2) 1) 0)])) (hp' := xW B m) (q := (.lcmp, 1, 0, 0, .null)) rfl (fun _ => rfl) (Nat.le_refl _) ?_
            refine r_if (len := 3) (a := 119) (b := 0) (v0 := .null) (cn := .eq) (off := 10) rfl (fun c => ?_) (fun c => ?_)
            · rw [if_pos c] at h
              refine r_s (fr' := (120, lv2, [.int 0])) (hp' := xW B m) (q := (.iconst 0, 1, 0, 0, .null)) rfl (fun _ => rfl) (Nat.le_refl _) ?_
              refine q_si (k := 2) (i := 4) (q := (.istore 4, 2, 0, 0, .null)) rfl (fun _ => rfl) (by decide) ?_
              have l0_5 : zld (zs1 lv2 4 (.int 0)) 0 = some (.ref r0) := x_o1 l0_2 rfl rfl
              have l1_5 : zld (zs1 lv2 4 (.int 0)) 1 = some (.ref 11) := x_o1 l1_2 rfl rfl
              have l2_5 : zld (zs1 lv2 4 (.int 0)) 2 = some (.int v2) := x_o1 l2_2 rfl rfl
              have l3_5 : zld (zs1 lv2 4 (.int 0)) 3 = some (.int v3) := x_o1 l3_2 rfl rfl
              have l4_5 : zld (zs1 lv2 4 (.int 0)) 4 = some (.int 0) := zs1_ld _ _ _
              have l5_5 : zld (zs1 lv2 4 (.int 0)) 5 = some (.int v5) := x_o1 l5_2 rfl rfl
              have l6_5 : zld (zs1 lv2 4 (.int 0)) 6 = some (.int (m.1 (r0 + 1) (v5 : Int32).toNatClampNeg)) := x_o1 l6_2 rfl rfl
              generalize (zs1 lv2 4 (.int 0)) = lv5 at *
              refine r_s (fr' := (198, lv5, [])) (hp' := xW B m) (q := (.goto 76, 3, 198, 0, .null)) rfl (fun _ => rfl) (Nat.le_refl _) ?_
              exact T28_R_11t_198 H he F r0 nn hr0 _ ih l0_5 l1_5 l2_5 l3_5 l4_5 l5_5 l6_5 h
            · rw [if_neg (by rw [c]; decide)] at h
              refine q_lr (k := 1) (i := 0) (q := (.aload_n 0, 1, 0, 0, .null)) rfl (fun _ => rfl) l0_2 ?_
              refine r_rg hr0 (pc := 113) rfl (b := 1) rfl ?_
              refine r_s (fr' := (117, lv2, [.int 0, .ref (r0 + 2)])) (hp' := xW B m) (q := (.iconst 0, 1, 0, 0, .null)) rfl (fun _ => rfl) (Nat.le_refl _) ?_
              refine q_rlal (v := (m.2 (r0 + 2) 0)) hr0 (pc := 117) rfl (by decide) rfl ?_
              obtain rfl := Option.some.inj h
              exact q_rl (q := (.lreturn, 1, 0, 0, .null)) rfl (fun _ => rfl) rfl
        · rw [if_neg (by rw [c]; decide)] at h
          refine q_lr (k := 1) (i := 0) (q := (.aload_n 0, 1, 0, 0, .null)) rfl (fun _ => rfl) l0_2 ?_
          refine r_rg hr0 (pc := 88) rfl (b := 1) rfl ?_
          refine r_s (fr' := (92, lv2, [.int 0, .ref (r0 + 2)])) (hp' := xW B m) (q := (.iconst 0, 1, 0, 0, .null)) rfl (fun _ => rfl) (Nat.le_refl _) ?_
          refine q_rlal (v := (m.2 (r0 + 2) 0)) hr0 (pc := 92) rfl (by decide) rfl ?_
          obtain rfl := Option.some.inj h
          exact q_rl (q := (.lreturn, 1, 0, 0, .null)) rfl (fun _ => rfl) rfl
      · rw [if_neg (by rw [c]; decide)] at h
        refine q_li (k := 2) (i := 4) (q := (.iload 4, 2, 0, 0, .null)) rfl (fun _ => rfl) l4_2 ?_
        refine r_s (fr' := (36, lv2, [.int 64, .int v4])) (hp' := xW B m) (q := (.bipush 64, 2, 0, 0, .null)) rfl (fun _ => rfl) (Nat.le_refl _) ?_
        refine r_ifc (len := 3) (a := 198) (b := 0) (v0 := .null) (cn := .ge) (off := 162) rfl (fun c => ?_) (fun c => ?_)
        · rw [if_pos c] at h
          exact T28_R_11t_198 H he F r0 nn hr0 _ ih l0_2 l1_2 l2_2 l3_2 l4_2 l5_2 l6_2 h
        · rw [if_neg (by rw [c]; decide)] at h
          refine q_lr (k := 1) (i := 0) (q := (.aload_n 0, 1, 0, 0, .null)) rfl (fun _ => rfl) l0_2 ?_
          refine r_rg hr0 (pc := 40) rfl (b := 1) rfl ?_
          refine q_li (k := 2) (i := 4) (q := (.iload 4, 2, 0, 0, .null)) rfl (fun _ => rfl) l4_2 ?_
          refine q_li (k := 2) (i := 6) (q := (.iload 6, 2, 0, 0, .null)) rfl (fun _ => rfl) l6_2 ?_
          refine r_s (fr' := (49, lv2, [.int 40, .int (m.1 (r0 + 1) (v5 : Int32).toNatClampNeg), .int v4, .ref (r0 + 2)])) (hp' := xW B m) (q := (.bipush 40, 2, 0, 0, .null)) rfl (fun _ => rfl) (Nat.le_refl _) ?_
          refine r_ifc (len := 3) (a := 61) (b := 0) (v0 := .null) (cn := .lt) (off := 12) rfl (fun c => ?_) (fun c => ?_)
          · rw [if_pos c] at h
            refine q_li (k := 2) (i := 6) (q := (.iload 6, 2, 0, 0, .null)) rfl (fun _ => rfl) l6_2 ?_
            refine r_s (fr' := (65, lv2, [.int 20, .int (m.1 (r0 + 1) (v5 : Int32).toNatClampNeg), .int v4, .ref (r0 + 2)])) (hp' := xW B m) (q := (.bipush 20, 2, 0, 0, .null)) rfl (fun _ => rfl) (Nat.le_refl _) ?_
            refine r_s (fr' := (66, lv2, [.int ((m.1 (r0 + 1) (v5 : Int32).toNatClampNeg) - 20), .int v4, .ref (r0 + 2)])) (hp' := xW B m) (q := (.isub, 1, 0, 0, .null)) rfl (fun _ => rfl) (Nat.le_refl _) ?_
            refine q_lr (k := 1) (i := 1) (q := (.aload_n 1, 1, 0, 0, .null)) rfl (fun _ => rfl) l1_2 ?_
            refine q_li (k := 1) (i := 2) (q := (.iload_n 2, 1, 0, 0, .null)) rfl (fun _ => rfl) l2_2 ?_
            refine q_li (k := 1) (i := 3) (q := (.iload_n 3, 1, 0, 0, .null)) rfl (fun _ => rfl) l3_2 ?_
            obtain ⟨q69, h69, h⟩ := xbind h
            refine r_callS (as := [.int ((m.1 (r0 + 1) (v5 : Int32).toNatClampNeg) - 20), .ref 11, .int v2, .int v3]) (rest := [.int v4, .ref (r0 + 2)]) (rv := some (.int q69.1)) (hp' := xW B q69.2) (pc := 69) rfl xr31 rfl rfl rfl (Nat.le_of_ble_eq_true rfl) (Z31_11t H h69 (by omega)) (Nat.le_refl _) ?_
            refine r_s (fr' := (73, lv2, [.long (q69.1 : Int32).toInt64, .int v4, .ref (r0 + 2)])) (hp' := xW B q69.2) (q := (.i2l, 1, 0, 0, .null)) rfl (fun _ => rfl) (Nat.le_refl _) ?_
            exact T28_R_11t_73 H he F r0 nn hr0 _ ih l0_2 l1_2 l2_2 l3_2 l4_2 l5_2 l6_2 h
          · rw [if_neg (by rw [c]; decide)] at h
            refine q_li (k := 2) (i := 6) (q := (.iload 6, 2, 0, 0, .null)) rfl (fun _ => rfl) l6_2 ?_
            refine r_s (fr' := (56, lv2, [.int 40, .int (m.1 (r0 + 1) (v5 : Int32).toNatClampNeg), .int v4, .ref (r0 + 2)])) (hp' := xW B m) (q := (.bipush 40, 2, 0, 0, .null)) rfl (fun _ => rfl) (Nat.le_refl _) ?_
            refine r_s (fr' := (57, lv2, [.int ((m.1 (r0 + 1) (v5 : Int32).toNatClampNeg) - 40), .int v4, .ref (r0 + 2)])) (hp' := xW B m) (q := (.isub, 1, 0, 0, .null)) rfl (fun _ => rfl) (Nat.le_refl _) ?_
            refine r_s (fr' := (58, lv2, [.long (((m.1 (r0 + 1) (v5 : Int32).toNatClampNeg) - 40) : Int32).toInt64, .int v4, .ref (r0 + 2)])) (hp' := xW B m) (q := (.i2l, 1, 0, 0, .null)) rfl (fun _ => rfl) (Nat.le_refl _) ?_
            refine r_s (fr' := (73, lv2, [.long (((m.1 (r0 + 1) (v5 : Int32).toNatClampNeg) - 40) : Int32).toInt64, .int v4, .ref (r0 + 2)])) (hp' := xW B m) (q := (.goto 15, 3, 73, 0, .null)) rfl (fun _ => rfl) (Nat.le_refl _) ?_
            exact T28_R_11t_73 H he F r0 nn hr0 _ ih l0_2 l1_2 l2_2 l3_2 l4_2 l5_2 l6_2 h
def D28_R_11t (F : Nat) (r0 nn : Nat) (v2 : Int32) (v3 : Int32) (m : xS) : Option (Int64 × xS) :=
  D28_R_11t_6 F r0 nn F v2 v3 0 0 m
set_option maxRecDepth 20000 in
theorem T28_R_11t {B : zHp} (H : yH0 B) {e : Nat} (he : 5 ≤ e + 1) (F : Nat) (r0 nn : Nat) (hr0 : rlB B r0 nn) {v2 : Int32} {v3 : Int32} {lv : List (Nat × Value)} {m : xS} {x : Int64 × xS} (l0 : zld lv 0 = some (.ref r0)) (l1 : zld lv 1 = some (.ref 11)) (l2 : zld lv 2 = some (.int v2)) (l3 : zld lv 3 = some (.int v3)) (h : D28_R_11t F r0 nn v2 v3 m = some x) : zR none e 7 (some .long) zc28 (0, lv, []) (xW B m) (some (.long x.1), xW B x.2) := by
  unfold D28_R_11t at h
  refine r_s (fr' := (1, lv, [.int 0])) (hp' := xW B m) (q := (.iconst 0, 1, 0, 0, .null)) rfl (fun _ => rfl) (Nat.le_refl _) ?_
  refine q_si (k := 2) (i := 4) (q := (.istore 4, 2, 0, 0, .null)) rfl (fun _ => rfl) (by decide) ?_
  have l0_1 : zld (zs1 lv 4 (.int 0)) 0 = some (.ref r0) := x_o1 l0 rfl rfl
  have l1_1 : zld (zs1 lv 4 (.int 0)) 1 = some (.ref 11) := x_o1 l1 rfl rfl
  have l2_1 : zld (zs1 lv 4 (.int 0)) 2 = some (.int v2) := x_o1 l2 rfl rfl
  have l3_1 : zld (zs1 lv 4 (.int 0)) 3 = some (.int v3) := x_o1 l3 rfl rfl
  have l4_1 : zld (zs1 lv 4 (.int 0)) 4 = some (.int 0) := zs1_ld _ _ _
  generalize (zs1 lv 4 (.int 0)) = lv1 at *
  refine r_s (fr' := (4, lv1, [.int 0])) (hp' := xW B m) (q := (.iconst 0, 1, 0, 0, .null)) rfl (fun _ => rfl) (Nat.le_refl _) ?_
  refine q_si (k := 2) (i := 5) (q := (.istore 5, 2, 0, 0, .null)) rfl (fun _ => rfl) (by decide) ?_
  have l0_2 : zld (zs1 lv1 5 (.int 0)) 0 = some (.ref r0) := x_o1 l0_1 rfl rfl
  have l1_2 : zld (zs1 lv1 5 (.int 0)) 1 = some (.ref 11) := x_o1 l1_1 rfl rfl
  have l2_2 : zld (zs1 lv1 5 (.int 0)) 2 = some (.int v2) := x_o1 l2_1 rfl rfl
  have l3_2 : zld (zs1 lv1 5 (.int 0)) 3 = some (.int v3) := x_o1 l3_1 rfl rfl
  have l4_2 : zld (zs1 lv1 5 (.int 0)) 4 = some (.int 0) := x_o1 l4_1 rfl rfl
  have l5_2 : zld (zs1 lv1 5 (.int 0)) 5 = some (.int 0) := zs1_ld _ _ _
  generalize (zs1 lv1 5 (.int 0)) = lv2 at *
  exact T28_R_11t_6 H he F r0 nn hr0 F l0_2 l1_2 l2_2 l3_2 l4_2 l5_2 h
set_option maxRecDepth 20000 in
theorem Z28_R_11t {B : zHp} (H : yH0 B) {F : Nat} {r0 nn : Nat} (hr0 : rlB B r0 nn) {a2 : Int32} {a3 : Int32} {m : xS} {x : Int64 × xS} (h : D28_R_11t F r0 nn a2 a3 m = some x) {d : Nat} (hd : 5 ≤ d) : zCan d 28 [.ref r0, .ref 11, .int a2, .int a3] (xW B m) (some (.long x.1), xW B x.2) := by
  obtain ⟨e, rfl⟩ : ∃ e, d = e + 1 := ⟨d - 1, by omega⟩
  refine zCan_body (nL := 7) (rt := (some .long)) (cd := zc28) (xg28) ⟨Nat.le_of_ble_eq_true rfl, by decide⟩ (Nat.le_refl _) ?_
  exact T28_R_11t H hd F r0 nn hr0 rfl rfl rfl rfl h
/-- LentTools$Rule.lendAll -/
def D27_R_11t_66 (F : Nat) (r0 nn : Nat) (g2 : Int32 → xS → Option (Unit × xS)) (g18 : Int32 → Int32 → Int64 → Int32 → xS → Option (Unit × xS)) (v2 : Int32) (v3 : Int32) (v4 : Int64) (v6 : Int32) (v7 : Int64) (m : xS) : Option (Unit × xS) :=
  g18 v2 v3 v4 (v6 + Int32.ofInt 1) m
set_option maxRecDepth 20000 in
theorem T27_R_11t_66 {B : zHp} (H : yH0 B) {e : Nat} (he : 6 ≤ e + 1) (F : Nat) (r0 nn : Nat) (hr0 : rlB B r0 nn) (g2 : Int32 → xS → Option (Unit × xS)) (g18 : Int32 → Int32 → Int64 → Int32 → xS → Option (Unit × xS)) (k2 : ∀ {v2 : Int32} {lv : List (Nat × Value)} {m : xS} {x : Unit × xS}, zld lv 0 = some (.ref r0) → zld lv 1 = some (.ref 11) → zld lv 2 = some (.int v2) → g2 v2 m = some x → zR none e 9 none zc27 (2, lv, []) (xW B m) (none, xW B x.2)) (k18 : ∀ {v2 : Int32} {v3 : Int32} {v4 : Int64} {v6 : Int32} {lv : List (Nat × Value)} {m : xS} {x : Unit × xS}, zld lv 0 = some (.ref r0) → zld lv 1 = some (.ref 11) → zld lv 2 = some (.int v2) → zld lv 3 = some (.int v3) → zld lv 4 = some (.long v4) → zld lv 6 = some (.int v6) → g18 v2 v3 v4 v6 m = some x → zR none e 9 none zc27 (18, lv, []) (xW B m) (none, xW B x.2)) {v2 : Int32} {v3 : Int32} {v4 : Int64} {v6 : Int32} {v7 : Int64} {lv : List (Nat × Value)} {m : xS} {x : Unit × xS} (l0 : zld lv 0 = some (.ref r0)) (l1 : zld lv 1 = some (.ref 11)) (l2 : zld lv 2 = some (.int v2)) (l3 : zld lv 3 = some (.int v3)) (l4 : zld lv 4 = some (.long v4)) (l6 : zld lv 6 = some (.int v6)) (l7 : zld lv 7 = some (.long v7)) (h : D27_R_11t_66 F r0 nn g2 g18 v2 v3 v4 v6 v7 m = some x) : zR none e 9 none zc27 (66, lv, []) (xW B m) (none, xW B x.2) := by
  unfold D27_R_11t_66 at h
  refine q_inc (i := 6) (n := 1) (q := (.iinc 6 1, 3, 0, 0, .null)) rfl (fun _ => rfl) l6 (by decide) ?_
  have l0_1 : zld (zs1 lv 6 (.int (v6 + Int32.ofInt 1))) 0 = some (.ref r0) := x_o1 l0 rfl rfl
  have l1_1 : zld (zs1 lv 6 (.int (v6 + Int32.ofInt 1))) 1 = some (.ref 11) := x_o1 l1 rfl rfl
  have l2_1 : zld (zs1 lv 6 (.int (v6 + Int32.ofInt 1))) 2 = some (.int v2) := x_o1 l2 rfl rfl
  have l3_1 : zld (zs1 lv 6 (.int (v6 + Int32.ofInt 1))) 3 = some (.int v3) := x_o1 l3 rfl rfl
  have l4_1 : zld (zs1 lv 6 (.int (v6 + Int32.ofInt 1))) 4 = some (.long v4) := x_o1 l4 rfl rfl
  have l6_1 : zld (zs1 lv 6 (.int (v6 + Int32.ofInt 1))) 6 = some (.int (v6 + Int32.ofInt 1)) := zs1_ld _ _ _
  have l7_1 : zld (zs1 lv 6 (.int (v6 + Int32.ofInt 1))) 7 = some (.long v7) := x_o1 l7 rfl rfl
  generalize (zs1 lv 6 (.int (v6 + Int32.ofInt 1))) = lv1 at *
  refine r_s (fr' := (18, lv1, [])) (hp' := xW B m) (q := (.goto (-51), 3, 18, 0, .null)) rfl (fun _ => rfl) (Nat.le_refl _) ?_
  exact k18 l0_1 l1_1 l2_1 l3_1 l4_1 l6_1 h
def D27_R_11t_49 (F : Nat) (r0 nn : Nat) (g2 : Int32 → xS → Option (Unit × xS)) (g18 : Int32 → Int32 → Int64 → Int32 → xS → Option (Unit × xS)) (v2 : Int32) (v3 : Int32) (v4 : Int64) (v6 : Int32) (w0 : Int64) (m : xS) : Option (Unit × xS) :=
  if zcmp .le (lg_cmp w0 v4) 0 = true then
    D27_R_11t_66 F r0 nn g2 g18 v2 v3 v4 v6 w0 m
  else
    D27_R_11t_66 F r0 nn g2 g18 v2 v6 w0 v6 w0 m
set_option maxRecDepth 20000 in
theorem T27_R_11t_49 {B : zHp} (H : yH0 B) {e : Nat} (he : 6 ≤ e + 1) (F : Nat) (r0 nn : Nat) (hr0 : rlB B r0 nn) (g2 : Int32 → xS → Option (Unit × xS)) (g18 : Int32 → Int32 → Int64 → Int32 → xS → Option (Unit × xS)) (k2 : ∀ {v2 : Int32} {lv : List (Nat × Value)} {m : xS} {x : Unit × xS}, zld lv 0 = some (.ref r0) → zld lv 1 = some (.ref 11) → zld lv 2 = some (.int v2) → g2 v2 m = some x → zR none e 9 none zc27 (2, lv, []) (xW B m) (none, xW B x.2)) (k18 : ∀ {v2 : Int32} {v3 : Int32} {v4 : Int64} {v6 : Int32} {lv : List (Nat × Value)} {m : xS} {x : Unit × xS}, zld lv 0 = some (.ref r0) → zld lv 1 = some (.ref 11) → zld lv 2 = some (.int v2) → zld lv 3 = some (.int v3) → zld lv 4 = some (.long v4) → zld lv 6 = some (.int v6) → g18 v2 v3 v4 v6 m = some x → zR none e 9 none zc27 (18, lv, []) (xW B m) (none, xW B x.2)) {v2 : Int32} {v3 : Int32} {v4 : Int64} {v6 : Int32} {w0 : Int64} {lv : List (Nat × Value)} {m : xS} {x : Unit × xS} (l0 : zld lv 0 = some (.ref r0)) (l1 : zld lv 1 = some (.ref 11)) (l2 : zld lv 2 = some (.int v2)) (l3 : zld lv 3 = some (.int v3)) (l4 : zld lv 4 = some (.long v4)) (l6 : zld lv 6 = some (.int v6)) (h : D27_R_11t_49 F r0 nn g2 g18 v2 v3 v4 v6 w0 m = some x) : zR none e 9 none zc27 (49, lv, [.long w0]) (xW B m) (none, xW B x.2) := by
  unfold D27_R_11t_49 at h
  refine q_sl (k := 2) (i := 7) (q := (.lstore 7, 2, 0, 0, .null)) rfl (fun _ => rfl) (by decide) ?_
  have l0_1 : zld (zs2 lv 7 (.long w0)) 0 = some (.ref r0) := x_o2 l0 rfl rfl rfl
  have l1_1 : zld (zs2 lv 7 (.long w0)) 1 = some (.ref 11) := x_o2 l1 rfl rfl rfl
  have l2_1 : zld (zs2 lv 7 (.long w0)) 2 = some (.int v2) := x_o2 l2 rfl rfl rfl
  have l3_1 : zld (zs2 lv 7 (.long w0)) 3 = some (.int v3) := x_o2 l3 rfl rfl rfl
  have l4_1 : zld (zs2 lv 7 (.long w0)) 4 = some (.long v4) := x_o2 l4 rfl rfl rfl
  have l6_1 : zld (zs2 lv 7 (.long w0)) 6 = some (.int v6) := x_o2 l6 rfl rfl rfl
  have l7_1 : zld (zs2 lv 7 (.long w0)) 7 = some (.long w0) := zs2_ld _ _ _
  generalize (zs2 lv 7 (.long w0)) = lv1 at *
  refine q_ll (k := 2) (i := 7) (q := (.lload 7, 2, 0, 0, .null)) rfl (fun _ => rfl) l7_1 ?_
  refine q_ll (k := 2) (i := 4) (q := (.lload 4, 2, 0, 0, .null)) rfl (fun _ => rfl) l4_1 ?_
  refine r_s (fr' := (56, lv1, [.int (lg_cmp w0 v4)])) (hp' := xW B m) (q := (.lcmp, 1, 0, 0, .null)) rfl (fun _ => rfl) (Nat.le_refl _) ?_
  refine r_if (len := 3) (a := 66) (b := 0) (v0 := .null) (cn := .le) (off := 10) rfl (fun c => ?_) (fun c => ?_)
  · rw [if_pos c] at h
    exact T27_R_11t_66 H he F r0 nn hr0 _ _ k2 k18 l0_1 l1_1 l2_1 l3_1 l4_1 l6_1 l7_1 h
  · rw [if_neg (by rw [c]; decide)] at h
    refine q_ll (k := 2) (i := 7) (q := (.lload 7, 2, 0, 0, .null)) rfl (fun _ => rfl) l7_1 ?_
    refine q_sl (k := 2) (i := 4) (q := (.lstore 4, 2, 0, 0, .null)) rfl (fun _ => rfl) (by decide) ?_
    have l0_2 : zld (zs2 lv1 4 (.long w0)) 0 = some (.ref r0) := x_o2 l0_1 rfl rfl rfl
    have l1_2 : zld (zs2 lv1 4 (.long w0)) 1 = some (.ref 11) := x_o2 l1_1 rfl rfl rfl
    have l2_2 : zld (zs2 lv1 4 (.long w0)) 2 = some (.int v2) := x_o2 l2_1 rfl rfl rfl
    have l3_2 : zld (zs2 lv1 4 (.long w0)) 3 = some (.int v3) := x_o2 l3_1 rfl rfl rfl
    have l4_2 : zld (zs2 lv1 4 (.long w0)) 4 = some (.long w0) := zs2_ld _ _ _
    have l6_2 : zld (zs2 lv1 4 (.long w0)) 6 = some (.int v6) := x_o2 l6_1 rfl rfl rfl
    have l7_2 : zld (zs2 lv1 4 (.long w0)) 7 = some (.long w0) := x_o2 l7_1 rfl rfl rfl
    generalize (zs2 lv1 4 (.long w0)) = lv2 at *
    refine q_li (k := 2) (i := 6) (q := (.iload 6, 2, 0, 0, .null)) rfl (fun _ => rfl) l6_2 ?_
    refine q_si (k := 1) (i := 3) (q := (.istore_n 3, 1, 0, 0, .null)) rfl (fun _ => rfl) (by decide) ?_
    have l0_3 : zld (zs1 lv2 3 (.int v6)) 0 = some (.ref r0) := x_o1 l0_2 rfl rfl
    have l1_3 : zld (zs1 lv2 3 (.int v6)) 1 = some (.ref 11) := x_o1 l1_2 rfl rfl
    have l2_3 : zld (zs1 lv2 3 (.int v6)) 2 = some (.int v2) := x_o1 l2_2 rfl rfl
    have l3_3 : zld (zs1 lv2 3 (.int v6)) 3 = some (.int v6) := zs1_ld _ _ _
    have l4_3 : zld (zs1 lv2 3 (.int v6)) 4 = some (.long w0) := x_o1 l4_2 rfl rfl
    have l6_3 : zld (zs1 lv2 3 (.int v6)) 6 = some (.int v6) := x_o1 l6_2 rfl rfl
    have l7_3 : zld (zs1 lv2 3 (.int v6)) 7 = some (.long w0) := x_o1 l7_2 rfl rfl
    generalize (zs1 lv2 3 (.int v6)) = lv3 at *
    exact T27_R_11t_66 H he F r0 nn hr0 _ _ k2 k18 l0_3 l1_3 l2_3 l3_3 l4_3 l6_3 l7_3 h
def D27_R_11t_83 (F : Nat) (r0 nn : Nat) (g2 : Int32 → xS → Option (Unit × xS)) (v2 : Int32) (v3 : Int32) (v4 : Int64) (v6 : Int32) (m : xS) : Option (Unit × xS) :=
  g2 (v2 + Int32.ofInt 1) m
set_option maxRecDepth 20000 in
theorem T27_R_11t_83 {B : zHp} (H : yH0 B) {e : Nat} (he : 6 ≤ e + 1) (F : Nat) (r0 nn : Nat) (hr0 : rlB B r0 nn) (g2 : Int32 → xS → Option (Unit × xS)) (k2 : ∀ {v2 : Int32} {lv : List (Nat × Value)} {m : xS} {x : Unit × xS}, zld lv 0 = some (.ref r0) → zld lv 1 = some (.ref 11) → zld lv 2 = some (.int v2) → g2 v2 m = some x → zR none e 9 none zc27 (2, lv, []) (xW B m) (none, xW B x.2)) {v2 : Int32} {v3 : Int32} {v4 : Int64} {v6 : Int32} {lv : List (Nat × Value)} {m : xS} {x : Unit × xS} (l0 : zld lv 0 = some (.ref r0)) (l1 : zld lv 1 = some (.ref 11)) (l2 : zld lv 2 = some (.int v2)) (l3 : zld lv 3 = some (.int v3)) (l4 : zld lv 4 = some (.long v4)) (l6 : zld lv 6 = some (.int v6)) (h : D27_R_11t_83 F r0 nn g2 v2 v3 v4 v6 m = some x) : zR none e 9 none zc27 (83, lv, []) (xW B m) (none, xW B x.2) := by
  unfold D27_R_11t_83 at h
  refine q_inc (i := 2) (n := 1) (q := (.iinc 2 1, 3, 0, 0, .null)) rfl (fun _ => rfl) l2 (by decide) ?_
  have l0_1 : zld (zs1 lv 2 (.int (v2 + Int32.ofInt 1))) 0 = some (.ref r0) := x_o1 l0 rfl rfl
  have l1_1 : zld (zs1 lv 2 (.int (v2 + Int32.ofInt 1))) 1 = some (.ref 11) := x_o1 l1 rfl rfl
  have l2_1 : zld (zs1 lv 2 (.int (v2 + Int32.ofInt 1))) 2 = some (.int (v2 + Int32.ofInt 1)) := zs1_ld _ _ _
  have l3_1 : zld (zs1 lv 2 (.int (v2 + Int32.ofInt 1))) 3 = some (.int v3) := x_o1 l3 rfl rfl
  have l4_1 : zld (zs1 lv 2 (.int (v2 + Int32.ofInt 1))) 4 = some (.long v4) := x_o1 l4 rfl rfl
  have l6_1 : zld (zs1 lv 2 (.int (v2 + Int32.ofInt 1))) 6 = some (.int v6) := x_o1 l6 rfl rfl
  generalize (zs1 lv 2 (.int (v2 + Int32.ofInt 1))) = lv1 at *
  refine r_s (fr' := (2, lv1, [])) (hp' := xW B m) (q := (.goto (-84), 3, 2, 0, .null)) rfl (fun _ => rfl) (Nat.le_refl _) ?_
  exact k2 l0_1 l1_1 l2_1 h
def D27_R_11t_18 (F : Nat) (r0 nn : Nat) (g2 : Int32 → xS → Option (Unit × xS)) : Nat → Int32 → Int32 → Int64 → Int32 → xS → Option (Unit × xS)
  | 0, _, _, _, _, _ => none
  | f + 1, v2, v3, v4, v6, m =>
    (D77_11t F m).bind fun q21 =>
      if zcmp .ge v6 q21.1 = true then
        if zcmp .eq v3 (-1) = true then
          D27_R_11t_83 F r0 nn g2 v2 v3 v4 v6 q21.2
        else
          (D102_11t F v2 v3 q21.2).bind fun q80 =>
            D27_R_11t_83 F r0 nn g2 v2 v3 v4 v6 q80.2
      else
        (D101_11t F v2 v6 q21.2).bind fun q31 =>
          if zcmp .eq q31.1 0 = true then
            D27_R_11t_49 F r0 nn g2 (D27_R_11t_18 F r0 nn g2 f) v2 v3 v4 v6 0 q31.2
          else
            (D28_R_11t F r0 nn v2 v6 q31.2).bind fun q42 =>
              D27_R_11t_49 F r0 nn g2 (D27_R_11t_18 F r0 nn g2 f) v2 v3 v4 v6 q42.1 q42.2
set_option maxRecDepth 20000 in
theorem T27_R_11t_18 {B : zHp} (H : yH0 B) {e : Nat} (he : 6 ≤ e + 1) (F : Nat) (r0 nn : Nat) (hr0 : rlB B r0 nn) (g2 : Int32 → xS → Option (Unit × xS)) (k2 : ∀ {v2 : Int32} {lv : List (Nat × Value)} {m : xS} {x : Unit × xS}, zld lv 0 = some (.ref r0) → zld lv 1 = some (.ref 11) → zld lv 2 = some (.int v2) → g2 v2 m = some x → zR none e 9 none zc27 (2, lv, []) (xW B m) (none, xW B x.2)) : ∀ (f : Nat) {v2 : Int32} {v3 : Int32} {v4 : Int64} {v6 : Int32} {lv : List (Nat × Value)} {m : xS} {x : Unit × xS}, zld lv 0 = some (.ref r0) → zld lv 1 = some (.ref 11) → zld lv 2 = some (.int v2) → zld lv 3 = some (.int v3) → zld lv 4 = some (.long v4) → zld lv 6 = some (.int v6) → D27_R_11t_18 F r0 nn g2 f v2 v3 v4 v6 m = some x → zR none e 9 none zc27 (18, lv, []) (xW B m) (none, xW B x.2) := by
  intro f
  induction f with
  | zero => intro v2 v3 v4 v6 lv m x l0 l1 l2 l3 l4 l6 h; cases h
  | succ f ih =>
    intro v2 v3 v4 v6 lv m x l0 l1 l2 l3 l4 l6 h
    unfold D27_R_11t_18 at h
    refine q_li (k := 2) (i := 6) (q := (.iload 6, 2, 0, 0, .null)) rfl (fun _ => rfl) l6 ?_
    refine q_lr (k := 1) (i := 1) (q := (.aload_n 1, 1, 0, 0, .null)) rfl (fun _ => rfl) l1 ?_
    obtain ⟨q21, h21, h⟩ := xbind h
    refine r_call (ix := 11) (as := []) (rest := [.int v6]) (rv := some (.int q21.1)) (hp' := xW B q21.2) (pc := 21) rfl xr77 rfl rfl rfl (xkd H (by decide)) (Nat.le_of_ble_eq_true rfl) (Z77_11t H h21 (by omega)) (Nat.le_refl _) ?_
    refine r_ifc (len := 3) (a := 72) (b := 0) (v0 := .null) (cn := .ge) (off := 48) rfl (fun c => ?_) (fun c => ?_)
    · rw [if_pos c] at h
      refine q_li (k := 1) (i := 3) (q := (.iload_n 3, 1, 0, 0, .null)) rfl (fun _ => rfl) l3 ?_
      refine r_s (fr' := (74, lv, [.int (-1), .int v3])) (hp' := xW B q21.2) (q := (.iconst (-1), 1, 0, 0, .null)) rfl (fun _ => rfl) (Nat.le_refl _) ?_
      refine r_ifc (len := 3) (a := 83) (b := 0) (v0 := .null) (cn := .eq) (off := 9) rfl (fun c => ?_) (fun c => ?_)
      · rw [if_pos c] at h
        exact T27_R_11t_83 H he F r0 nn hr0 _ k2 l0 l1 l2 l3 l4 l6 h
      · rw [if_neg (by rw [c]; decide)] at h
        refine q_lr (k := 1) (i := 1) (q := (.aload_n 1, 1, 0, 0, .null)) rfl (fun _ => rfl) l1 ?_
        refine q_li (k := 1) (i := 2) (q := (.iload_n 2, 1, 0, 0, .null)) rfl (fun _ => rfl) l2 ?_
        refine q_li (k := 1) (i := 3) (q := (.iload_n 3, 1, 0, 0, .null)) rfl (fun _ => rfl) l3 ?_
        obtain ⟨q80, h80, h⟩ := xbind h
        refine r_call (ix := 11) (as := [.int v2, .int v3]) (rest := []) (rv := none) (hp' := xW B q80.2) (pc := 80) rfl xr102 rfl rfl rfl (xkd H (by decide)) (Nat.le_of_ble_eq_true rfl) (Z102_11t H h80 (by omega)) (Nat.le_refl _) ?_
        exact T27_R_11t_83 H he F r0 nn hr0 _ k2 l0 l1 l2 l3 l4 l6 h
    · rw [if_neg (by rw [c]; decide)] at h
      refine q_lr (k := 1) (i := 1) (q := (.aload_n 1, 1, 0, 0, .null)) rfl (fun _ => rfl) l1 ?_
      refine q_li (k := 1) (i := 2) (q := (.iload_n 2, 1, 0, 0, .null)) rfl (fun _ => rfl) l2 ?_
      refine q_li (k := 2) (i := 6) (q := (.iload 6, 2, 0, 0, .null)) rfl (fun _ => rfl) l6 ?_
      obtain ⟨q31, h31, h⟩ := xbind h
      refine r_call (ix := 11) (as := [.int v2, .int v6]) (rest := []) (rv := some (.int q31.1)) (hp' := xW B q31.2) (pc := 31) rfl xr101 rfl rfl rfl (xkd H (by decide)) (Nat.le_of_ble_eq_true rfl) (Z101_11t H h31 (by omega)) (Nat.le_refl _) ?_
      refine r_if (len := 3) (a := 48) (b := 0) (v0 := .null) (cn := .eq) (off := 14) rfl (fun c => ?_) (fun c => ?_)
      · rw [if_pos c] at h
        refine r_s (fr' := (49, lv, [.long 0])) (hp' := xW B q31.2) (q := (.lconst 0, 1, 0, 0, .null)) rfl (fun _ => rfl) (Nat.le_refl _) ?_
        exact T27_R_11t_49 H he F r0 nn hr0 _ _ k2 ih l0 l1 l2 l3 l4 l6 h
      · rw [if_neg (by rw [c]; decide)] at h
        refine q_lr (k := 1) (i := 0) (q := (.aload_n 0, 1, 0, 0, .null)) rfl (fun _ => rfl) l0 ?_
        refine q_lr (k := 1) (i := 1) (q := (.aload_n 1, 1, 0, 0, .null)) rfl (fun _ => rfl) l1 ?_
        refine q_li (k := 1) (i := 2) (q := (.iload_n 2, 1, 0, 0, .null)) rfl (fun _ => rfl) l2 ?_
        refine q_li (k := 2) (i := 6) (q := (.iload 6, 2, 0, 0, .null)) rfl (fun _ => rfl) l6 ?_
        obtain ⟨q42, h42, h⟩ := xbind h
        refine r_call (ix := r0) (as := [.ref 11, .int v2, .int v6]) (rest := []) (rv := some (.long q42.1)) (hp' := xW B q42.2) (pc := 42) rfl xr28 rfl rfl rfl (r_rkd hr0) (Nat.le_of_ble_eq_true rfl) (Z28_R_11t H hr0 h42 (by omega)) (Nat.le_refl _) ?_
        refine r_s (fr' := (49, lv, [.long q42.1])) (hp' := xW B q42.2) (q := (.goto 4, 3, 49, 0, .null)) rfl (fun _ => rfl) (Nat.le_refl _) ?_
        exact T27_R_11t_49 H he F r0 nn hr0 _ _ k2 ih l0 l1 l2 l3 l4 l6 h
def D27_R_11t_2 (F : Nat) (r0 nn : Nat) : Nat → Int32 → xS → Option (Unit × xS)
  | 0, _, _ => none
  | f + 1, v2, m =>
    (D79_11t F m).bind fun q4 =>
      if zcmp .ge v2 q4.1 = true then
        some ((), q4.2)
      else
        D27_R_11t_18 F r0 nn (D27_R_11t_2 F r0 nn f) F v2 (-1) 0 0 q4.2
set_option maxRecDepth 20000 in
theorem T27_R_11t_2 {B : zHp} (H : yH0 B) {e : Nat} (he : 6 ≤ e + 1) (F : Nat) (r0 nn : Nat) (hr0 : rlB B r0 nn) : ∀ (f : Nat) {v2 : Int32} {lv : List (Nat × Value)} {m : xS} {x : Unit × xS}, zld lv 0 = some (.ref r0) → zld lv 1 = some (.ref 11) → zld lv 2 = some (.int v2) → D27_R_11t_2 F r0 nn f v2 m = some x → zR none e 9 none zc27 (2, lv, []) (xW B m) (none, xW B x.2) := by
  intro f
  induction f with
  | zero => intro v2 lv m x l0 l1 l2 h; cases h
  | succ f ih =>
    intro v2 lv m x l0 l1 l2 h
    unfold D27_R_11t_2 at h
    refine q_li (k := 1) (i := 2) (q := (.iload_n 2, 1, 0, 0, .null)) rfl (fun _ => rfl) l2 ?_
    refine q_lr (k := 1) (i := 1) (q := (.aload_n 1, 1, 0, 0, .null)) rfl (fun _ => rfl) l1 ?_
    obtain ⟨q4, h4, h⟩ := xbind h
    refine r_call (ix := 11) (as := []) (rest := [.int v2]) (rv := some (.int q4.1)) (hp' := xW B q4.2) (pc := 4) rfl xr79 rfl rfl rfl (xkd H (by decide)) (Nat.le_of_ble_eq_true rfl) (Z79_11t H h4 (by omega)) (Nat.le_refl _) ?_
    refine r_ifc (len := 3) (a := 89) (b := 0) (v0 := .null) (cn := .ge) (off := 82) rfl (fun c => ?_) (fun c => ?_)
    · rw [if_pos c] at h
      obtain rfl := Option.some.inj h
      exact r_ret (q := (.return_, 1, 0, 0, .null)) rfl rfl (fun _ => rfl)
    · rw [if_neg (by rw [c]; decide)] at h
      refine r_s (fr' := (11, lv, [.int (-1)])) (hp' := xW B q4.2) (q := (.iconst (-1), 1, 0, 0, .null)) rfl (fun _ => rfl) (Nat.le_refl _) ?_
      refine q_si (k := 1) (i := 3) (q := (.istore_n 3, 1, 0, 0, .null)) rfl (fun _ => rfl) (by decide) ?_
      have l0_1 : zld (zs1 lv 3 (.int (-1))) 0 = some (.ref r0) := x_o1 l0 rfl rfl
      have l1_1 : zld (zs1 lv 3 (.int (-1))) 1 = some (.ref 11) := x_o1 l1 rfl rfl
      have l2_1 : zld (zs1 lv 3 (.int (-1))) 2 = some (.int v2) := x_o1 l2 rfl rfl
      have l3_1 : zld (zs1 lv 3 (.int (-1))) 3 = some (.int (-1)) := zs1_ld _ _ _
      generalize (zs1 lv 3 (.int (-1))) = lv1 at *
      refine r_s (fr' := (13, lv1, [.long 0])) (hp' := xW B q4.2) (q := (.lconst 0, 1, 0, 0, .null)) rfl (fun _ => rfl) (Nat.le_refl _) ?_
      refine q_sl (k := 2) (i := 4) (q := (.lstore 4, 2, 0, 0, .null)) rfl (fun _ => rfl) (by decide) ?_
      have l0_2 : zld (zs2 lv1 4 (.long 0)) 0 = some (.ref r0) := x_o2 l0_1 rfl rfl rfl
      have l1_2 : zld (zs2 lv1 4 (.long 0)) 1 = some (.ref 11) := x_o2 l1_1 rfl rfl rfl
      have l2_2 : zld (zs2 lv1 4 (.long 0)) 2 = some (.int v2) := x_o2 l2_1 rfl rfl rfl
      have l3_2 : zld (zs2 lv1 4 (.long 0)) 3 = some (.int (-1)) := x_o2 l3_1 rfl rfl rfl
      have l4_2 : zld (zs2 lv1 4 (.long 0)) 4 = some (.long 0) := zs2_ld _ _ _
      generalize (zs2 lv1 4 (.long 0)) = lv2 at *
      refine r_s (fr' := (16, lv2, [.int 0])) (hp' := xW B q4.2) (q := (.iconst 0, 1, 0, 0, .null)) rfl (fun _ => rfl) (Nat.le_refl _) ?_
      refine q_si (k := 2) (i := 6) (q := (.istore 6, 2, 0, 0, .null)) rfl (fun _ => rfl) (by decide) ?_
      have l0_3 : zld (zs1 lv2 6 (.int 0)) 0 = some (.ref r0) := x_o1 l0_2 rfl rfl
      have l1_3 : zld (zs1 lv2 6 (.int 0)) 1 = some (.ref 11) := x_o1 l1_2 rfl rfl
      have l2_3 : zld (zs1 lv2 6 (.int 0)) 2 = some (.int v2) := x_o1 l2_2 rfl rfl
      have l3_3 : zld (zs1 lv2 6 (.int 0)) 3 = some (.int (-1)) := x_o1 l3_2 rfl rfl
      have l4_3 : zld (zs1 lv2 6 (.int 0)) 4 = some (.long 0) := x_o1 l4_2 rfl rfl
      have l6_3 : zld (zs1 lv2 6 (.int 0)) 6 = some (.int 0) := zs1_ld _ _ _
      generalize (zs1 lv2 6 (.int 0)) = lv3 at *
      exact T27_R_11t_18 H he F r0 nn hr0 _ ih F l0_3 l1_3 l2_3 l3_3 l4_3 l6_3 h
def D27_R_11t (F : Nat) (r0 nn : Nat) (m : xS) : Option (Unit × xS) :=
  D27_R_11t_2 F r0 nn F 0 m
set_option maxRecDepth 20000 in
theorem T27_R_11t {B : zHp} (H : yH0 B) {e : Nat} (he : 6 ≤ e + 1) (F : Nat) (r0 nn : Nat) (hr0 : rlB B r0 nn) {lv : List (Nat × Value)} {m : xS} {x : Unit × xS} (l0 : zld lv 0 = some (.ref r0)) (l1 : zld lv 1 = some (.ref 11)) (h : D27_R_11t F r0 nn m = some x) : zR none e 9 none zc27 (0, lv, []) (xW B m) (none, xW B x.2) := by
  unfold D27_R_11t at h
  refine r_s (fr' := (1, lv, [.int 0])) (hp' := xW B m) (q := (.iconst 0, 1, 0, 0, .null)) rfl (fun _ => rfl) (Nat.le_refl _) ?_
  refine q_si (k := 1) (i := 2) (q := (.istore_n 2, 1, 0, 0, .null)) rfl (fun _ => rfl) (by decide) ?_
  have l0_1 : zld (zs1 lv 2 (.int 0)) 0 = some (.ref r0) := x_o1 l0 rfl rfl
  have l1_1 : zld (zs1 lv 2 (.int 0)) 1 = some (.ref 11) := x_o1 l1 rfl rfl
  have l2_1 : zld (zs1 lv 2 (.int 0)) 2 = some (.int 0) := zs1_ld _ _ _
  generalize (zs1 lv 2 (.int 0)) = lv1 at *
  exact T27_R_11t_2 H he F r0 nn hr0 F l0_1 l1_1 l2_1 h
set_option maxRecDepth 20000 in
theorem Z27_R_11t {B : zHp} (H : yH0 B) {F : Nat} {r0 nn : Nat} (hr0 : rlB B r0 nn) {m : xS} {x : Unit × xS} (h : D27_R_11t F r0 nn m = some x) {d : Nat} (hd : 6 ≤ d) : zCan d 27 [.ref r0, .ref 11] (xW B m) (none, xW B x.2) := by
  obtain ⟨e, rfl⟩ : ∃ e, d = e + 1 := ⟨d - 1, by omega⟩
  refine zCan_body (nL := 9) (rt := none) (cd := zc27) (xg27) ⟨Nat.le_of_ble_eq_true rfl, by decide⟩ (Nat.le_refl _) ?_
  exact T27_R_11t H hd F r0 nn hr0 rfl rfl h
/-- LentTools$Village.doneBits -/
def D110_11t_26 (F : Nat) (g4 : Int32 → Int32 → xS → Option (Int32 × xS)) (v1 : Int32) (v2 : Int32) (m : xS) : Option (Int32 × xS) :=
  g4 v1 (v2 + Int32.ofInt 1) m
set_option maxRecDepth 20000 in
theorem T110_11t_26 {B : zHp} (H : yH0 B) {e : Nat} (he : 3 ≤ e + 1) (F : Nat) (g4 : Int32 → Int32 → xS → Option (Int32 × xS)) (k4 : ∀ {v1 : Int32} {v2 : Int32} {lv : List (Nat × Value)} {m : xS} {x : Int32 × xS}, zld lv 0 = some (.ref 11) → zld lv 1 = some (.int v1) → zld lv 2 = some (.int v2) → g4 v1 v2 m = some x → zR none e 3 (some .int) zc110 (4, lv, []) (xW B m) (some (.int x.1), xW B x.2)) {v1 : Int32} {v2 : Int32} {lv : List (Nat × Value)} {m : xS} {x : Int32 × xS} (l0 : zld lv 0 = some (.ref 11)) (l1 : zld lv 1 = some (.int v1)) (l2 : zld lv 2 = some (.int v2)) (h : D110_11t_26 F g4 v1 v2 m = some x) : zR none e 3 (some .int) zc110 (26, lv, []) (xW B m) (some (.int x.1), xW B x.2) := by
  unfold D110_11t_26 at h
  refine q_inc (i := 2) (n := 1) (q := (.iinc 2 1, 3, 0, 0, .null)) rfl (fun _ => rfl) l2 (by decide) ?_
  have l0_1 : zld (zs1 lv 2 (.int (v2 + Int32.ofInt 1))) 0 = some (.ref 11) := x_o1 l0 rfl rfl
  have l1_1 : zld (zs1 lv 2 (.int (v2 + Int32.ofInt 1))) 1 = some (.int v1) := x_o1 l1 rfl rfl
  have l2_1 : zld (zs1 lv 2 (.int (v2 + Int32.ofInt 1))) 2 = some (.int (v2 + Int32.ofInt 1)) := zs1_ld _ _ _
  generalize (zs1 lv 2 (.int (v2 + Int32.ofInt 1))) = lv1 at *
  refine r_s (fr' := (4, lv1, [])) (hp' := xW B m) (q := (.goto (-25), 3, 4, 0, .null)) rfl (fun _ => rfl) (Nat.le_refl _) ?_
  exact k4 l0_1 l1_1 l2_1 h
def D110_11t_4 (F : Nat) : Nat → Int32 → Int32 → xS → Option (Int32 × xS)
  | 0, _, _, _ => none
  | f + 1, v1, v2, m =>
    (D80_11t F m).bind fun q6 =>
      if zcmp .ge v2 q6.1 = true then
        some (v1, q6.2)
      else
        (D106_11t F v2 q6.2).bind fun q14 =>
          if zcmp .eq q14.1 0 = true then
            D110_11t_26 F (D110_11t_4 F f) v1 v2 q14.2
          else
            D110_11t_26 F (D110_11t_4 F f) (v1 ||| (1 <<< (v2 &&& 31))) v2 q14.2
set_option maxRecDepth 20000 in
theorem T110_11t_4 {B : zHp} (H : yH0 B) {e : Nat} (he : 3 ≤ e + 1) (F : Nat) : ∀ (f : Nat) {v1 : Int32} {v2 : Int32} {lv : List (Nat × Value)} {m : xS} {x : Int32 × xS}, zld lv 0 = some (.ref 11) → zld lv 1 = some (.int v1) → zld lv 2 = some (.int v2) → D110_11t_4 F f v1 v2 m = some x → zR none e 3 (some .int) zc110 (4, lv, []) (xW B m) (some (.int x.1), xW B x.2) := by
  intro f
  induction f with
  | zero => intro v1 v2 lv m x l0 l1 l2 h; cases h
  | succ f ih =>
    intro v1 v2 lv m x l0 l1 l2 h
    unfold D110_11t_4 at h
    refine q_li (k := 1) (i := 2) (q := (.iload_n 2, 1, 0, 0, .null)) rfl (fun _ => rfl) l2 ?_
    refine q_lr (k := 1) (i := 0) (q := (.aload_n 0, 1, 0, 0, .null)) rfl (fun _ => rfl) l0 ?_
    obtain ⟨q6, h6, h⟩ := xbind h
    refine r_call (ix := 11) (as := []) (rest := [.int v2]) (rv := some (.int q6.1)) (hp' := xW B q6.2) (pc := 6) rfl xr80 rfl rfl rfl (xkd H (by decide)) (Nat.le_of_ble_eq_true rfl) (Z80_11t H h6 (by omega)) (Nat.le_refl _) ?_
    refine r_ifc (len := 3) (a := 32) (b := 0) (v0 := .null) (cn := .ge) (off := 23) rfl (fun c => ?_) (fun c => ?_)
    · rw [if_pos c] at h
      refine q_li (k := 1) (i := 1) (q := (.iload_n 1, 1, 0, 0, .null)) rfl (fun _ => rfl) l1 ?_
      obtain rfl := Option.some.inj h
      exact q_ri (q := (.ireturn, 1, 0, 0, .null)) rfl (fun _ => rfl) rfl rfl
    · rw [if_neg (by rw [c]; decide)] at h
      refine q_lr (k := 1) (i := 0) (q := (.aload_n 0, 1, 0, 0, .null)) rfl (fun _ => rfl) l0 ?_
      refine q_li (k := 1) (i := 2) (q := (.iload_n 2, 1, 0, 0, .null)) rfl (fun _ => rfl) l2 ?_
      obtain ⟨q14, h14, h⟩ := xbind h
      refine r_call (ix := 11) (as := [.int v2]) (rest := []) (rv := some (.int q14.1)) (hp' := xW B q14.2) (pc := 14) rfl xr106 rfl rfl rfl (xkd H (by decide)) (Nat.le_of_ble_eq_true rfl) (Z106_11t H h14 (by omega)) (Nat.le_refl _) ?_
      refine r_if (len := 3) (a := 26) (b := 0) (v0 := .null) (cn := .eq) (off := 9) rfl (fun c => ?_) (fun c => ?_)
      · rw [if_pos c] at h
        exact T110_11t_26 H he F _ ih l0 l1 l2 h
      · rw [if_neg (by rw [c]; decide)] at h
        refine q_li (k := 1) (i := 1) (q := (.iload_n 1, 1, 0, 0, .null)) rfl (fun _ => rfl) l1 ?_
        refine r_s (fr' := (22, lv, [.int 1, .int v1])) (hp' := xW B q14.2) (q := (.iconst 1, 1, 0, 0, .null)) rfl (fun _ => rfl) (Nat.le_refl _) ?_
        refine q_li (k := 1) (i := 2) (q := (.iload_n 2, 1, 0, 0, .null)) rfl (fun _ => rfl) l2 ?_
        refine r_s (fr' := (24, lv, [.int (1 <<< (v2 &&& 31)), .int v1])) (hp' := xW B q14.2) (q := (.ishl, 1, 0, 0, .null)) rfl (fun _ => rfl) (Nat.le_refl _) ?_
        refine r_s (fr' := (25, lv, [.int (v1 ||| (1 <<< (v2 &&& 31)))])) (hp' := xW B q14.2) (q := (.ior, 1, 0, 0, .null)) rfl (fun _ => rfl) (Nat.le_refl _) ?_
        refine q_si (k := 1) (i := 1) (q := (.istore_n 1, 1, 0, 0, .null)) rfl (fun _ => rfl) (by decide) ?_
        have l0_1 : zld (zs1 lv 1 (.int (v1 ||| (1 <<< (v2 &&& 31))))) 0 = some (.ref 11) := x_o1 l0 rfl rfl
        have l1_1 : zld (zs1 lv 1 (.int (v1 ||| (1 <<< (v2 &&& 31))))) 1 = some (.int (v1 ||| (1 <<< (v2 &&& 31)))) := zs1_ld _ _ _
        have l2_1 : zld (zs1 lv 1 (.int (v1 ||| (1 <<< (v2 &&& 31))))) 2 = some (.int v2) := x_o1 l2 rfl rfl
        generalize (zs1 lv 1 (.int (v1 ||| (1 <<< (v2 &&& 31))))) = lv1 at *
        exact T110_11t_26 H he F _ ih l0_1 l1_1 l2_1 h
def D110_11t (F : Nat) (m : xS) : Option (Int32 × xS) :=
  D110_11t_4 F F 0 0 m
set_option maxRecDepth 20000 in
theorem T110_11t {B : zHp} (H : yH0 B) {e : Nat} (he : 3 ≤ e + 1) (F : Nat) {lv : List (Nat × Value)} {m : xS} {x : Int32 × xS} (l0 : zld lv 0 = some (.ref 11)) (h : D110_11t F m = some x) : zR none e 3 (some .int) zc110 (0, lv, []) (xW B m) (some (.int x.1), xW B x.2) := by
  unfold D110_11t at h
  refine r_s (fr' := (1, lv, [.int 0])) (hp' := xW B m) (q := (.iconst 0, 1, 0, 0, .null)) rfl (fun _ => rfl) (Nat.le_refl _) ?_
  refine q_si (k := 1) (i := 1) (q := (.istore_n 1, 1, 0, 0, .null)) rfl (fun _ => rfl) (by decide) ?_
  have l0_1 : zld (zs1 lv 1 (.int 0)) 0 = some (.ref 11) := x_o1 l0 rfl rfl
  have l1_1 : zld (zs1 lv 1 (.int 0)) 1 = some (.int 0) := zs1_ld _ _ _
  generalize (zs1 lv 1 (.int 0)) = lv1 at *
  refine r_s (fr' := (3, lv1, [.int 0])) (hp' := xW B m) (q := (.iconst 0, 1, 0, 0, .null)) rfl (fun _ => rfl) (Nat.le_refl _) ?_
  refine q_si (k := 1) (i := 2) (q := (.istore_n 2, 1, 0, 0, .null)) rfl (fun _ => rfl) (by decide) ?_
  have l0_2 : zld (zs1 lv1 2 (.int 0)) 0 = some (.ref 11) := x_o1 l0_1 rfl rfl
  have l1_2 : zld (zs1 lv1 2 (.int 0)) 1 = some (.int 0) := x_o1 l1_1 rfl rfl
  have l2_2 : zld (zs1 lv1 2 (.int 0)) 2 = some (.int 0) := zs1_ld _ _ _
  generalize (zs1 lv1 2 (.int 0)) = lv2 at *
  exact T110_11t_4 H he F F l0_2 l1_2 l2_2 h
set_option maxRecDepth 20000 in
theorem Z110_11t {B : zHp} (H : yH0 B) {F : Nat} {m : xS} {x : Int32 × xS} (h : D110_11t F m = some x) {d : Nat} (hd : 3 ≤ d) : zCan d 110 [.ref 11] (xW B m) (some (.int x.1), xW B x.2) := by
  obtain ⟨e, rfl⟩ : ∃ e, d = e + 1 := ⟨d - 1, by omega⟩
  refine zCan_body (nL := 3) (rt := (some .int)) (cd := zc110) (xg110) ⟨Nat.le_of_ble_eq_true rfl, by decide⟩ (Nat.le_refl _) ?_
  exact T110_11t H hd F rfl h
/-- LentTools$Village.isAllDone -/
def D111_11t (F : Nat) (m : xS) : Option (Int32 × xS) :=
  (D110_11t F m).bind fun q1 =>
    (D80_11t F q1.2).bind fun q6 =>
      if zcmp .ne q1.1 ((1 <<< (q6.1 &&& 31)) - 1) = true then
        some (0, q6.2)
      else
        some (1, q6.2)
set_option maxRecDepth 20000 in
theorem T111_11t {B : zHp} (H : yH0 B) {e : Nat} (he : 4 ≤ e + 1) (F : Nat) {lv : List (Nat × Value)} {m : xS} {x : Int32 × xS} (l0 : zld lv 0 = some (.ref 11)) (h : D111_11t F m = some x) : zR none e 1 (some .boolean) zc111 (0, lv, []) (xW B m) (some (.int x.1), xW B x.2) := by
  unfold D111_11t at h
  refine q_lr (k := 1) (i := 0) (q := (.aload_n 0, 1, 0, 0, .null)) rfl (fun _ => rfl) l0 ?_
  obtain ⟨q1, h1, h⟩ := xbind h
  refine r_call (ix := 11) (as := []) (rest := []) (rv := some (.int q1.1)) (hp' := xW B q1.2) (pc := 1) rfl xr110 rfl rfl rfl (xkd H (by decide)) (Nat.le_of_ble_eq_true rfl) (Z110_11t H h1 (by omega)) (Nat.le_refl _) ?_
  refine r_s (fr' := (5, lv, [.int 1, .int q1.1])) (hp' := xW B q1.2) (q := (.iconst 1, 1, 0, 0, .null)) rfl (fun _ => rfl) (Nat.le_refl _) ?_
  refine q_lr (k := 1) (i := 0) (q := (.aload_n 0, 1, 0, 0, .null)) rfl (fun _ => rfl) l0 ?_
  obtain ⟨q6, h6, h⟩ := xbind h
  refine r_call (ix := 11) (as := []) (rest := [.int 1, .int q1.1]) (rv := some (.int q6.1)) (hp' := xW B q6.2) (pc := 6) rfl xr80 rfl rfl rfl (xkd H (by decide)) (Nat.le_of_ble_eq_true rfl) (Z80_11t H h6 (by omega)) (Nat.le_refl _) ?_
  refine r_s (fr' := (10, lv, [.int (1 <<< (q6.1 &&& 31)), .int q1.1])) (hp' := xW B q6.2) (q := (.ishl, 1, 0, 0, .null)) rfl (fun _ => rfl) (Nat.le_refl _) ?_
  refine r_s (fr' := (11, lv, [.int 1, .int (1 <<< (q6.1 &&& 31)), .int q1.1])) (hp' := xW B q6.2) (q := (.iconst 1, 1, 0, 0, .null)) rfl (fun _ => rfl) (Nat.le_refl _) ?_
  refine r_s (fr' := (12, lv, [.int ((1 <<< (q6.1 &&& 31)) - 1), .int q1.1])) (hp' := xW B q6.2) (q := (.isub, 1, 0, 0, .null)) rfl (fun _ => rfl) (Nat.le_refl _) ?_
  refine r_ifc (len := 3) (a := 19) (b := 0) (v0 := .null) (cn := .ne) (off := 7) rfl (fun c => ?_) (fun c => ?_)
  · rw [if_pos c] at h
    refine r_s (fr' := (20, lv, [.int 0])) (hp' := xW B q6.2) (q := (.iconst 0, 1, 0, 0, .null)) rfl (fun _ => rfl) (Nat.le_refl _) ?_
    obtain rfl := Option.some.inj h
    exact q_ri (q := (.ireturn, 1, 0, 0, .null)) rfl (fun _ => rfl) rfl rfl
  · rw [if_neg (by rw [c]; decide)] at h
    refine r_s (fr' := (16, lv, [.int 1])) (hp' := xW B q6.2) (q := (.iconst 1, 1, 0, 0, .null)) rfl (fun _ => rfl) (Nat.le_refl _) ?_
    refine r_s (fr' := (20, lv, [.int 1])) (hp' := xW B q6.2) (q := (.goto 4, 3, 20, 0, .null)) rfl (fun _ => rfl) (Nat.le_refl _) ?_
    obtain rfl := Option.some.inj h
    exact q_ri (q := (.ireturn, 1, 0, 0, .null)) rfl (fun _ => rfl) rfl rfl
set_option maxRecDepth 20000 in
theorem Z111_11t {B : zHp} (H : yH0 B) {F : Nat} {m : xS} {x : Int32 × xS} (h : D111_11t F m = some x) {d : Nat} (hd : 4 ≤ d) : zCan d 111 [.ref 11] (xW B m) (some (.int x.1), xW B x.2) := by
  obtain ⟨e, rfl⟩ : ∃ e, d = e + 1 := ⟨d - 1, by omega⟩
  refine zCan_body (nL := 1) (rt := (some .boolean)) (cd := zc111) (xg111) ⟨Nat.le_of_ble_eq_true rfl, by decide⟩ (Nat.le_refl _) ?_
  exact T111_11t H hd F rfl h
/-- LentTools.done -/
def D149_0_A_18 (F : Nat) (ru : Int32) (rk : Bool) (r0 nn : Nat) (v1 : Int32) (m : xS) : Option (Int32 × xS) :=
  some ((-1), m)
set_option maxRecDepth 20000 in
theorem T149_0_A_18 {B : zHp} (H : yH0 B) {e : Nat} (he : 7 ≤ e + 1) (F : Nat) (ru : Int32) (rk : Bool) (r0 nn : Nat) (hra : rk = true → rlA B ru r0 nn) {v1 : Int32} {lv : List (Nat × Value)} {m : xS} {x : Int32 × xS} (l0 : zld lv 0 = some (.ref 0)) (l1 : zld lv 1 = some (.int v1)) (h : D149_0_A_18 F ru rk r0 nn v1 m = some x) : zR none e 3 (some .int) zc149 (18, lv, []) (xW B m) (some (.int x.1), xW B x.2) := by
  unfold D149_0_A_18 at h
  refine r_s (fr' := (19, lv, [.int (-1)])) (hp' := xW B m) (q := (.iconst (-1), 1, 0, 0, .null)) rfl (fun _ => rfl) (Nat.le_refl _) ?_
  obtain rfl := Option.some.inj h
  exact q_ri (q := (.ireturn, 1, 0, 0, .null)) rfl (fun _ => rfl) rfl rfl
def D149_0_A_51 (F : Nat) (ru : Int32) (rk : Bool) (r0 nn : Nat) : Nat → Int32 → Int32 → xS → Option (Int32 × xS)
  | 0, _, _, _ => none
  | f + 1, v1, v2, m =>
    if zcmp .ge v2 60 = true then
      some ((-2), m)
    else
      if (rk && (v1 == ru)) = true then
        (D27_R_11t F r0 nn m).bind fun q67 =>
          (D109_11t F q67.2).bind fun q74 =>
            (D111_11t F q74.2).bind fun q81 =>
              if zcmp .eq q81.1 0 = true then
                (D112_11t F q81.2).bind fun q99 =>
                  D149_0_A_51 F ru rk r0 nn f v1 (v2 + Int32.ofInt 1) q99.2
              else
                (D81_11t F q81.2).bind fun q91 =>
                  some (q91.1, q91.2)
      else none
set_option maxRecDepth 20000 in
theorem T149_0_A_51 {B : zHp} (H : yH0 B) {e : Nat} (he : 7 ≤ e + 1) (F : Nat) (ru : Int32) (rk : Bool) (r0 nn : Nat) (hra : rk = true → rlA B ru r0 nn) : ∀ (f : Nat) {v1 : Int32} {v2 : Int32} {lv : List (Nat × Value)} {m : xS} {x : Int32 × xS}, zld lv 0 = some (.ref 0) → zld lv 1 = some (.int v1) → zld lv 2 = some (.int v2) → D149_0_A_51 F ru rk r0 nn f v1 v2 m = some x → zR none e 3 (some .int) zc149 (51, lv, []) (xW B m) (some (.int x.1), xW B x.2) := by
  intro f
  induction f with
  | zero => intro v1 v2 lv m x l0 l1 l2 h; cases h
  | succ f ih =>
    intro v1 v2 lv m x l0 l1 l2 h
    unfold D149_0_A_51 at h
    refine q_li (k := 1) (i := 2) (q := (.iload_n 2, 1, 0, 0, .null)) rfl (fun _ => rfl) l2 ?_
    refine r_s (fr' := (54, lv, [.int 60, .int v2])) (hp' := xW B m) (q := (.bipush 60, 2, 0, 0, .null)) rfl (fun _ => rfl) (Nat.le_refl _) ?_
    refine r_ifc (len := 3) (a := 108) (b := 0) (v0 := .null) (cn := .ge) (off := 54) rfl (fun c => ?_) (fun c => ?_)
    · rw [if_pos c] at h
      refine r_s (fr' := (110, lv, [.int (-2)])) (hp' := xW B m) (q := (.bipush (-2), 2, 0, 0, .null)) rfl (fun _ => rfl) (Nat.le_refl _) ?_
      obtain rfl := Option.some.inj h
      exact q_ri (q := (.ireturn, 1, 0, 0, .null)) rfl (fun _ => rfl) rfl rfl
    · rw [if_neg (by rw [c]; decide)] at h
      refine q_lr (k := 1) (i := 0) (q := (.aload_n 0, 1, 0, 0, .null)) rfl (fun _ => rfl) l0 ?_
      refine r_gr (c := 13) H (pc := 58) rfl (by decide) (by decide) ?_
      refine q_li (k := 1) (i := 1) (q := (.iload_n 1, 1, 0, 0, .null)) rfl (fun _ => rfl) l1 ?_
      obtain ⟨c1, h⟩ := xif h
      have hr0 := (hra (Bool.and_eq_true_iff.mp c1).1)
      refine q_raal hr0 (pc := 62) rfl (Bool.and_eq_true_iff.mp c1).2 ?_
      have hr0 := hr0.1
      refine q_lr (k := 1) (i := 0) (q := (.aload_n 0, 1, 0, 0, .null)) rfl (fun _ => rfl) l0 ?_
      refine r_gr (c := 11) H (pc := 64) rfl (by decide) (by decide) ?_
      obtain ⟨q67, h67, h⟩ := xbind h
      refine r_call (ix := r0) (as := [.ref 11]) (rest := []) (rv := none) (hp' := xW B q67.2) (pc := 67) rfl xr27 rfl rfl rfl (r_rkd hr0) (Nat.le_of_ble_eq_true rfl) (Z27_R_11t H hr0 h67 (by omega)) (Nat.le_refl _) ?_
      refine q_lr (k := 1) (i := 0) (q := (.aload_n 0, 1, 0, 0, .null)) rfl (fun _ => rfl) l0 ?_
      refine r_gr (c := 11) H (pc := 71) rfl (by decide) (by decide) ?_
      obtain ⟨q74, h74, h⟩ := xbind h
      refine r_call (ix := 11) (as := []) (rest := []) (rv := none) (hp' := xW B q74.2) (pc := 74) rfl xr109 rfl rfl rfl (xkd H (by decide)) (Nat.le_of_ble_eq_true rfl) (Z109_11t H h74 (by omega)) (Nat.le_refl _) ?_
      refine q_lr (k := 1) (i := 0) (q := (.aload_n 0, 1, 0, 0, .null)) rfl (fun _ => rfl) l0 ?_
      refine r_gr (c := 11) H (pc := 78) rfl (by decide) (by decide) ?_
      obtain ⟨q81, h81, h⟩ := xbind h
      refine r_call (ix := 11) (as := []) (rest := []) (rv := some (.int q81.1)) (hp' := xW B q81.2) (pc := 81) rfl xr111 rfl rfl rfl (xkd H (by decide)) (Nat.le_of_ble_eq_true rfl) (Z111_11t H h81 (by omega)) (Nat.le_refl _) ?_
      refine r_if (len := 3) (a := 95) (b := 0) (v0 := .null) (cn := .eq) (off := 11) rfl (fun c => ?_) (fun c => ?_)
      · rw [if_pos c] at h
        refine q_lr (k := 1) (i := 0) (q := (.aload_n 0, 1, 0, 0, .null)) rfl (fun _ => rfl) l0 ?_
        refine r_gr (c := 11) H (pc := 96) rfl (by decide) (by decide) ?_
        obtain ⟨q99, h99, h⟩ := xbind h
        refine r_call (ix := 11) (as := []) (rest := []) (rv := none) (hp' := xW B q99.2) (pc := 99) rfl xr112 rfl rfl rfl (xkd H (by decide)) (Nat.le_of_ble_eq_true rfl) (Z112_11t H h99 (by omega)) (Nat.le_refl _) ?_
        refine q_inc (i := 2) (n := 1) (q := (.iinc 2 1, 3, 0, 0, .null)) rfl (fun _ => rfl) l2 (by decide) ?_
        have l0_2 : zld (zs1 lv 2 (.int (v2 + Int32.ofInt 1))) 0 = some (.ref 0) := x_o1 l0 rfl rfl
        have l1_2 : zld (zs1 lv 2 (.int (v2 + Int32.ofInt 1))) 1 = some (.int v1) := x_o1 l1 rfl rfl
        have l2_2 : zld (zs1 lv 2 (.int (v2 + Int32.ofInt 1))) 2 = some (.int (v2 + Int32.ofInt 1)) := zs1_ld _ _ _
        generalize (zs1 lv 2 (.int (v2 + Int32.ofInt 1))) = lv2 at *
        refine r_s (fr' := (51, lv2, [])) (hp' := xW B q99.2) (q := (.goto (-54), 3, 51, 0, .null)) rfl (fun _ => rfl) (Nat.le_refl _) ?_
        exact ih l0_2 l1_2 l2_2 h
      · rw [if_neg (by rw [c]; decide)] at h
        refine q_lr (k := 1) (i := 0) (q := (.aload_n 0, 1, 0, 0, .null)) rfl (fun _ => rfl) l0 ?_
        refine r_gr (c := 11) H (pc := 88) rfl (by decide) (by decide) ?_
        obtain ⟨q91, h91, h⟩ := xbind h
        refine r_call (ix := 11) (as := []) (rest := []) (rv := some (.int q91.1)) (hp' := xW B q91.2) (pc := 91) rfl xr81 rfl rfl rfl (xkd H (by decide)) (Nat.le_of_ble_eq_true rfl) (Z81_11t H h91 (by omega)) (Nat.le_refl _) ?_
        obtain rfl := Option.some.inj h
        exact q_ri (q := (.ireturn, 1, 0, 0, .null)) rfl (fun _ => rfl) rfl rfl
def D149_0_A (F : Nat) (ru : Int32) (rk : Bool) (r0 nn : Nat) (v1 : Int32) (m : xS) : Option (Int32 × xS) :=
  (D76_9 F m).bind fun q4 =>
    if zcmp .eq q4.1 0 = true then
      D149_0_A_18 F ru rk r0 nn v1 q4.2
    else
      (D140_0_A F ru rk r0 nn v1 q4.2).bind fun q12 =>
        if zcmp .ne q12.1 0 = true then
          (D111_9 F q12.2).bind fun q24 =>
            if zcmp .eq q24.1 0 = true then
              (D70_11t_9 F q24.2).bind fun q46 =>
                D149_0_A_51 F ru rk r0 nn F v1 0 q46.2
            else
              (D81_9 F q24.2).bind fun q34 =>
                some (q34.1, q34.2)
        else
          D149_0_A_18 F ru rk r0 nn v1 q12.2
set_option maxRecDepth 20000 in
theorem T149_0_A {B : zHp} (H : yH0 B) {e : Nat} (he : 7 ≤ e + 1) (F : Nat) (ru : Int32) (rk : Bool) (r0 nn : Nat) (hra : rk = true → rlA B ru r0 nn) {v1 : Int32} {lv : List (Nat × Value)} {m : xS} {x : Int32 × xS} (l0 : zld lv 0 = some (.ref 0)) (l1 : zld lv 1 = some (.int v1)) (h : D149_0_A F ru rk r0 nn v1 m = some x) : zR none e 3 (some .int) zc149 (0, lv, []) (xW B m) (some (.int x.1), xW B x.2) := by
  unfold D149_0_A at h
  refine q_lr (k := 1) (i := 0) (q := (.aload_n 0, 1, 0, 0, .null)) rfl (fun _ => rfl) l0 ?_
  refine r_gr (c := 9) H (pc := 1) rfl (by decide) (by decide) ?_
  obtain ⟨q4, h4, h⟩ := xbind h
  refine r_call (ix := 9) (as := []) (rest := []) (rv := some (.int q4.1)) (hp' := xW B q4.2) (pc := 4) rfl xr76 rfl rfl rfl (xkd H (by decide)) (Nat.le_of_ble_eq_true rfl) (Z76_9 H h4 (by omega)) (Nat.le_refl _) ?_
  refine r_if (len := 3) (a := 18) (b := 0) (v0 := .null) (cn := .eq) (off := 11) rfl (fun c => ?_) (fun c => ?_)
  · rw [if_pos c] at h
    exact T149_0_A_18 H he F ru rk r0 nn hra l0 l1 h
  · rw [if_neg (by rw [c]; decide)] at h
    refine q_lr (k := 1) (i := 0) (q := (.aload_n 0, 1, 0, 0, .null)) rfl (fun _ => rfl) l0 ?_
    refine q_li (k := 1) (i := 1) (q := (.iload_n 1, 1, 0, 0, .null)) rfl (fun _ => rfl) l1 ?_
    obtain ⟨q12, h12, h⟩ := xbind h
    refine r_call (ix := 0) (as := [.int v1]) (rest := []) (rv := some (.int q12.1)) (hp' := xW B q12.2) (pc := 12) rfl xr140 rfl rfl rfl (xkd H (by decide)) (Nat.le_of_ble_eq_true rfl) (Z140_0_A H hra h12 (by omega)) (Nat.le_refl _) ?_
    refine r_if (len := 3) (a := 20) (b := 0) (v0 := .null) (cn := .ne) (off := 5) rfl (fun c => ?_) (fun c => ?_)
    · rw [if_pos c] at h
      refine q_lr (k := 1) (i := 0) (q := (.aload_n 0, 1, 0, 0, .null)) rfl (fun _ => rfl) l0 ?_
      refine r_gr (c := 9) H (pc := 21) rfl (by decide) (by decide) ?_
      obtain ⟨q24, h24, h⟩ := xbind h
      refine r_call (ix := 9) (as := []) (rest := []) (rv := some (.int q24.1)) (hp' := xW B q24.2) (pc := 24) rfl xr111 rfl rfl rfl (xkd H (by decide)) (Nat.le_of_ble_eq_true rfl) (Z111_9 H h24 (by omega)) (Nat.le_refl _) ?_
      refine r_if (len := 3) (a := 38) (b := 0) (v0 := .null) (cn := .eq) (off := 11) rfl (fun c => ?_) (fun c => ?_)
      · rw [if_pos c] at h
        refine q_lr (k := 1) (i := 0) (q := (.aload_n 0, 1, 0, 0, .null)) rfl (fun _ => rfl) l0 ?_
        refine r_gr (c := 11) H (pc := 39) rfl (by decide) (by decide) ?_
        refine q_lr (k := 1) (i := 0) (q := (.aload_n 0, 1, 0, 0, .null)) rfl (fun _ => rfl) l0 ?_
        refine r_gr (c := 9) H (pc := 43) rfl (by decide) (by decide) ?_
        obtain ⟨q46, h46, h⟩ := xbind h
        refine r_call (ix := 11) (as := [.ref 9]) (rest := []) (rv := none) (hp' := xW B q46.2) (pc := 46) rfl xr70 rfl rfl rfl (xkd H (by decide)) (Nat.le_of_ble_eq_true rfl) (Z70_11t_9 H h46 (by omega)) (Nat.le_refl _) ?_
        refine r_s (fr' := (50, lv, [.int 0])) (hp' := xW B q46.2) (q := (.iconst 0, 1, 0, 0, .null)) rfl (fun _ => rfl) (Nat.le_refl _) ?_
        refine q_si (k := 1) (i := 2) (q := (.istore_n 2, 1, 0, 0, .null)) rfl (fun _ => rfl) (by decide) ?_
        have l0_1 : zld (zs1 lv 2 (.int 0)) 0 = some (.ref 0) := x_o1 l0 rfl rfl
        have l1_1 : zld (zs1 lv 2 (.int 0)) 1 = some (.int v1) := x_o1 l1 rfl rfl
        have l2_1 : zld (zs1 lv 2 (.int 0)) 2 = some (.int 0) := zs1_ld _ _ _
        generalize (zs1 lv 2 (.int 0)) = lv1 at *
        exact T149_0_A_51 H he F ru rk r0 nn hra F l0_1 l1_1 l2_1 h
      · rw [if_neg (by rw [c]; decide)] at h
        refine q_lr (k := 1) (i := 0) (q := (.aload_n 0, 1, 0, 0, .null)) rfl (fun _ => rfl) l0 ?_
        refine r_gr (c := 9) H (pc := 31) rfl (by decide) (by decide) ?_
        obtain ⟨q34, h34, h⟩ := xbind h
        refine r_call (ix := 9) (as := []) (rest := []) (rv := some (.int q34.1)) (hp' := xW B q34.2) (pc := 34) rfl xr81 rfl rfl rfl (xkd H (by decide)) (Nat.le_of_ble_eq_true rfl) (Z81_9 H h34 (by omega)) (Nat.le_refl _) ?_
        obtain rfl := Option.some.inj h
        exact q_ri (q := (.ireturn, 1, 0, 0, .null)) rfl (fun _ => rfl) rfl rfl
    · rw [if_neg (by rw [c]; decide)] at h
      exact T149_0_A_18 H he F ru rk r0 nn hra l0 l1 h
set_option maxRecDepth 20000 in
theorem Z149_0_A {B : zHp} (H : yH0 B) {F : Nat} {ru : Int32} {rk : Bool} {r0 nn : Nat} (hra : rk = true → rlA B ru r0 nn) {a1 : Int32} {m : xS} {x : Int32 × xS} (h : D149_0_A F ru rk r0 nn a1 m = some x) {d : Nat} (hd : 7 ≤ d) : zCan d 149 [.ref 0, .int a1] (xW B m) (some (.int x.1), xW B x.2) := by
  obtain ⟨e, rfl⟩ : ∃ e, d = e + 1 := ⟨d - 1, by omega⟩
  refine zCan_body (nL := 3) (rt := (some .int)) (cd := zc149) (xg149) ⟨Nat.le_of_ble_eq_true rfl, by decide⟩ (Nat.le_refl _) ?_
  exact T149_0_A H hd F ru rk r0 nn hra rfl rfl h
