/-! Methods as functions over the memory. -/
set_option maxRecDepth 4000 in
theorem xg4 : zg zms 4 = some (zm4.2.2.1, zm4.2.2.2.1, zc4) := rfl
theorem xr4 : zar 4 = (3, 0) := by decide +kernel
set_option maxRecDepth 4000 in
theorem xg6 : zg zms 6 = some (zm6.2.2.1, zm6.2.2.2.1, zc6) := rfl
theorem xr6 : zar 6 = (2, 0) := by decide +kernel
set_option maxRecDepth 4000 in
theorem xg148 : zg zms 148 = some (zm148.2.2.1, zm148.2.2.2.1, zc148) := rfl
theorem xr148 : zar 148 = (2, 10) := by decide +kernel
set_option maxRecDepth 4000 in
theorem xg150 : zg zms 150 = some (zm150.2.2.1, zm150.2.2.2.1, zc150) := rfl
theorem xr150 : zar 150 = (1, 10) := by decide +kernel
set_option maxRecDepth 4000 in
theorem xg151 : zg zms 151 = some (zm151.2.2.1, zm151.2.2.2.1, zc151) := rfl
theorem xr151 : zar 151 = (2, 10) := by decide +kernel
/-- LentTools$Chains.listPast -/
def D6_44_9 (F : Nat) (v2 : Int32) (m : xS) : Option (Unit × xS) :=
  (D87_9 F v2 0 m).bind fun q3 =>
    (D87_9 F v2 3 q3.2).bind fun q14 =>
      (D87_9 F v2 4 q14.2).bind fun q20 =>
        (D7_44_9 F q3.1 q3.1 q14.1 q20.1 q20.2).bind fun q23 =>
          some ((), q23.2)
set_option maxRecDepth 20000 in
theorem T6_44_9 {B : zHp} (H : yH0 B) {e : Nat} (he : 12 ≤ e + 1) (F : Nat) {v2 : Int32} {lv : List (Nat × Value)} {m : xS} {x : Unit × xS} (l0 : zld lv 0 = some (.ref 44)) (l1 : zld lv 1 = some (.ref 9)) (l2 : zld lv 2 = some (.int v2)) (h : D6_44_9 F v2 m = some x) : zR none e 4 none zc6 (0, lv, []) (xW B m) (none, xW B x.2) := by
  unfold D6_44_9 at h
  refine q_lr (k := 1) (i := 1) (q := (.aload_n 1, 1, 0, 0, .null)) rfl (fun _ => rfl) l1 ?_
  refine q_li (k := 1) (i := 2) (q := (.iload_n 2, 1, 0, 0, .null)) rfl (fun _ => rfl) l2 ?_
  refine r_s (fr' := (3, lv, [.int 0, .int v2, .ref 9])) (hp' := xW B m) (q := (.iconst 0, 1, 0, 0, .null)) rfl (fun _ => rfl) (Nat.le_refl _) ?_
  obtain ⟨q3, h3, h⟩ := xbind h
  refine r_call (ix := 9) (as := [.int v2, .int 0]) (rest := []) (rv := some (.int q3.1)) (hp' := xW B q3.2) (pc := 3) rfl xr87 rfl rfl rfl (xkd H (by decide)) (Nat.le_of_ble_eq_true rfl) (Z87_9 H h3 (by omega)) (Nat.le_refl _) ?_
  refine q_si (k := 1) (i := 3) (q := (.istore_n 3, 1, 0, 0, .null)) rfl (fun _ => rfl) (by decide) ?_
  have l0_1 : zld (zs1 lv 3 (.int q3.1)) 0 = some (.ref 44) := x_o1 l0 rfl rfl
  have l1_1 : zld (zs1 lv 3 (.int q3.1)) 1 = some (.ref 9) := x_o1 l1 rfl rfl
  have l2_1 : zld (zs1 lv 3 (.int q3.1)) 2 = some (.int v2) := x_o1 l2 rfl rfl
  have l3_1 : zld (zs1 lv 3 (.int q3.1)) 3 = some (.int q3.1) := zs1_ld _ _ _
  generalize (zs1 lv 3 (.int q3.1)) = lv1 at *
  refine q_lr (k := 1) (i := 0) (q := (.aload_n 0, 1, 0, 0, .null)) rfl (fun _ => rfl) l0_1 ?_
  refine q_lr (k := 1) (i := 1) (q := (.aload_n 1, 1, 0, 0, .null)) rfl (fun _ => rfl) l1_1 ?_
  refine q_li (k := 1) (i := 3) (q := (.iload_n 3, 1, 0, 0, .null)) rfl (fun _ => rfl) l3_1 ?_
  refine q_li (k := 1) (i := 3) (q := (.iload_n 3, 1, 0, 0, .null)) rfl (fun _ => rfl) l3_1 ?_
  refine q_lr (k := 1) (i := 1) (q := (.aload_n 1, 1, 0, 0, .null)) rfl (fun _ => rfl) l1_1 ?_
  refine q_li (k := 1) (i := 2) (q := (.iload_n 2, 1, 0, 0, .null)) rfl (fun _ => rfl) l2_1 ?_
  refine r_s (fr' := (14, lv1, [.int 3, .int v2, .ref 9, .int q3.1, .int q3.1, .ref 9, .ref 44])) (hp' := xW B q3.2) (q := (.iconst 3, 1, 0, 0, .null)) rfl (fun _ => rfl) (Nat.le_refl _) ?_
  obtain ⟨q14, h14, h⟩ := xbind h
  refine r_call (ix := 9) (as := [.int v2, .int 3]) (rest := [.int q3.1, .int q3.1, .ref 9, .ref 44]) (rv := some (.int q14.1)) (hp' := xW B q14.2) (pc := 14) rfl xr87 rfl rfl rfl (xkd H (by decide)) (Nat.le_of_ble_eq_true rfl) (Z87_9 H h14 (by omega)) (Nat.le_refl _) ?_
  refine q_lr (k := 1) (i := 1) (q := (.aload_n 1, 1, 0, 0, .null)) rfl (fun _ => rfl) l1_1 ?_
  refine q_li (k := 1) (i := 2) (q := (.iload_n 2, 1, 0, 0, .null)) rfl (fun _ => rfl) l2_1 ?_
  refine r_s (fr' := (20, lv1, [.int 4, .int v2, .ref 9, .int q14.1, .int q3.1, .int q3.1, .ref 9, .ref 44])) (hp' := xW B q14.2) (q := (.iconst 4, 1, 0, 0, .null)) rfl (fun _ => rfl) (Nat.le_refl _) ?_
  obtain ⟨q20, h20, h⟩ := xbind h
  refine r_call (ix := 9) (as := [.int v2, .int 4]) (rest := [.int q14.1, .int q3.1, .int q3.1, .ref 9, .ref 44]) (rv := some (.int q20.1)) (hp' := xW B q20.2) (pc := 20) rfl xr87 rfl rfl rfl (xkd H (by decide)) (Nat.le_of_ble_eq_true rfl) (Z87_9 H h20 (by omega)) (Nat.le_refl _) ?_
  obtain ⟨q23, h23, h⟩ := xbind h
  refine r_call (ix := 44) (as := [.ref 9, .int q3.1, .int q3.1, .int q14.1, .int q20.1]) (rest := []) (rv := none) (hp' := xW B q23.2) (pc := 23) rfl xr7 rfl rfl rfl (xkd H (by decide)) (Nat.le_of_ble_eq_true rfl) (Z7_44_9 H h23 (by omega)) (Nat.le_refl _) ?_
  obtain rfl := Option.some.inj h
  exact r_ret (q := (.return_, 1, 0, 0, .null)) rfl rfl (fun _ => rfl)
set_option maxRecDepth 20000 in
theorem Z6_44_9 {B : zHp} (H : yH0 B) {F : Nat} {a2 : Int32} {m : xS} {x : Unit × xS} (h : D6_44_9 F a2 m = some x) {d : Nat} (hd : 12 ≤ d) : zCan d 6 [.ref 44, .ref 9, .int a2] (xW B m) (none, xW B x.2) := by
  obtain ⟨e, rfl⟩ : ∃ e, d = e + 1 := ⟨d - 1, by omega⟩
  refine zCan_body (nL := 4) (rt := none) (cd := zc6) (xg6) ⟨Nat.le_of_ble_eq_true rfl, by decide⟩ (Nat.le_refl _) ?_
  exact T6_44_9 H hd F rfl rfl rfl h
/-- LentTools.came -/
def D148_0_20 (F : Nat) (v1 : Int32) (v2 : Int32) (m : xS) : Option (Int32 × xS) :=
  some ((-1), m)
set_option maxRecDepth 20000 in
theorem T148_0_20 {B : zHp} (H : yH0 B) {e : Nat} (he : 13 ≤ e + 1) (F : Nat) {v1 : Int32} {v2 : Int32} {lv : List (Nat × Value)} {m : xS} {x : Int32 × xS} (l0 : zld lv 0 = some (.ref 0)) (l1 : zld lv 1 = some (.int v1)) (l2 : zld lv 2 = some (.int v2)) (h : D148_0_20 F v1 v2 m = some x) : zR none e 3 (some .int) zc148 (20, lv, []) (xW B m) (some (.int x.1), xW B x.2) := by
  unfold D148_0_20 at h
  refine r_s (fr' := (21, lv, [.int (-1)])) (hp' := xW B m) (q := (.iconst (-1), 1, 0, 0, .null)) rfl (fun _ => rfl) (Nat.le_refl _) ?_
  obtain rfl := Option.some.inj h
  exact q_ri (q := (.ireturn, 1, 0, 0, .null)) rfl (fun _ => rfl) rfl rfl
def D148_0_80 (F : Nat) (v1 : Int32) (v2 : Int32) (m : xS) : Option (Int32 × xS) :=
  some ((-2), m)
set_option maxRecDepth 20000 in
theorem T148_0_80 {B : zHp} (H : yH0 B) {e : Nat} (he : 13 ≤ e + 1) (F : Nat) {v1 : Int32} {v2 : Int32} {lv : List (Nat × Value)} {m : xS} {x : Int32 × xS} (l0 : zld lv 0 = some (.ref 0)) (l1 : zld lv 1 = some (.int v1)) (l2 : zld lv 2 = some (.int v2)) (h : D148_0_80 F v1 v2 m = some x) : zR none e 3 (some .int) zc148 (80, lv, []) (xW B m) (some (.int x.1), xW B x.2) := by
  unfold D148_0_80 at h
  refine r_s (fr' := (82, lv, [.int (-2)])) (hp' := xW B m) (q := (.bipush (-2), 2, 0, 0, .null)) rfl (fun _ => rfl) (Nat.le_refl _) ?_
  refine r_s (fr' := (92, lv, [.int (-2)])) (hp' := xW B m) (q := (.goto 10, 3, 92, 0, .null)) rfl (fun _ => rfl) (Nat.le_refl _) ?_
  obtain rfl := Option.some.inj h
  exact q_ri (q := (.ireturn, 1, 0, 0, .null)) rfl (fun _ => rfl) rfl rfl
def D148_0 (F : Nat) (v1 : Int32) (v2 : Int32) (m : xS) : Option (Int32 × xS) :=
  (D83_9 F v1 m).bind fun q5 =>
    if zcmp .eq q5.1 0 = true then
      D148_0_20 F v1 v2 q5.2
    else
      if zcmp .lt v2 0 = true then
        D148_0_20 F v1 v2 q5.2
      else
        if zcmp .le v2 2 = true then
          (D6_44_9 F v1 q5.2).bind fun q31 =>
            if zcmp .ne v2 0 = true then
              if zcmp .ne v2 1 = true then
                if zcmp .eq (q31.2.1 44 3) 0 = true then
                  D148_0_80 F v1 v2 q31.2
                else
                  (D97_9 F v1 q31.2).bind fun q74 =>
                    if zcmp .eq q74.1 0 = true then
                      some ((q74.2.1 44 6), q74.2)
                    else
                      D148_0_80 F v1 v2 q74.2
              else
                some ((q31.2.1 44 5), q31.2)
            else
              some ((q31.2.1 44 3), q31.2)
        else
          D148_0_20 F v1 v2 q5.2
set_option maxRecDepth 20000 in
theorem T148_0 {B : zHp} (H : yH0 B) {e : Nat} (he : 13 ≤ e + 1) (F : Nat) {v1 : Int32} {v2 : Int32} {lv : List (Nat × Value)} {m : xS} {x : Int32 × xS} (l0 : zld lv 0 = some (.ref 0)) (l1 : zld lv 1 = some (.int v1)) (l2 : zld lv 2 = some (.int v2)) (h : D148_0 F v1 v2 m = some x) : zR none e 3 (some .int) zc148 (0, lv, []) (xW B m) (some (.int x.1), xW B x.2) := by
  unfold D148_0 at h
  refine q_lr (k := 1) (i := 0) (q := (.aload_n 0, 1, 0, 0, .null)) rfl (fun _ => rfl) l0 ?_
  refine r_gr (c := 9) H (pc := 1) rfl (by decide) (by decide) ?_
  refine q_li (k := 1) (i := 1) (q := (.iload_n 1, 1, 0, 0, .null)) rfl (fun _ => rfl) l1 ?_
  obtain ⟨q5, h5, h⟩ := xbind h
  refine r_call (ix := 9) (as := [.int v1]) (rest := []) (rv := some (.int q5.1)) (hp' := xW B q5.2) (pc := 5) rfl xr83 rfl rfl rfl (xkd H (by decide)) (Nat.le_of_ble_eq_true rfl) (Z83_9 H h5 (by omega)) (Nat.le_refl _) ?_
  refine r_if (len := 3) (a := 20) (b := 0) (v0 := .null) (cn := .eq) (off := 12) rfl (fun c => ?_) (fun c => ?_)
  · rw [if_pos c] at h
    exact T148_0_20 H he F l0 l1 l2 h
  · rw [if_neg (by rw [c]; decide)] at h
    refine q_li (k := 1) (i := 2) (q := (.iload_n 2, 1, 0, 0, .null)) rfl (fun _ => rfl) l2 ?_
    refine r_if (len := 3) (a := 20) (b := 0) (v0 := .null) (cn := .lt) (off := 8) rfl (fun c => ?_) (fun c => ?_)
    · rw [if_pos c] at h
      exact T148_0_20 H he F l0 l1 l2 h
    · rw [if_neg (by rw [c]; decide)] at h
      refine q_li (k := 1) (i := 2) (q := (.iload_n 2, 1, 0, 0, .null)) rfl (fun _ => rfl) l2 ?_
      refine r_s (fr' := (17, lv, [.int 2, .int v2])) (hp' := xW B q5.2) (q := (.iconst 2, 1, 0, 0, .null)) rfl (fun _ => rfl) (Nat.le_refl _) ?_
      refine r_ifc (len := 3) (a := 22) (b := 0) (v0 := .null) (cn := .le) (off := 5) rfl (fun c => ?_) (fun c => ?_)
      · rw [if_pos c] at h
        refine q_lr (k := 1) (i := 0) (q := (.aload_n 0, 1, 0, 0, .null)) rfl (fun _ => rfl) l0 ?_
        refine r_gr (c := 44) H (pc := 23) rfl (by decide) (by decide) ?_
        refine q_lr (k := 1) (i := 0) (q := (.aload_n 0, 1, 0, 0, .null)) rfl (fun _ => rfl) l0 ?_
        refine r_gr (c := 9) H (pc := 27) rfl (by decide) (by decide) ?_
        refine q_li (k := 1) (i := 1) (q := (.iload_n 1, 1, 0, 0, .null)) rfl (fun _ => rfl) l1 ?_
        obtain ⟨q31, h31, h⟩ := xbind h
        refine r_call (ix := 44) (as := [.ref 9, .int v1]) (rest := []) (rv := none) (hp' := xW B q31.2) (pc := 31) rfl xr6 rfl rfl rfl (xkd H (by decide)) (Nat.le_of_ble_eq_true rfl) (Z6_44_9 H h31 (by omega)) (Nat.le_refl _) ?_
        refine q_li (k := 1) (i := 2) (q := (.iload_n 2, 1, 0, 0, .null)) rfl (fun _ => rfl) l2 ?_
        refine r_if (len := 3) (a := 46) (b := 0) (v0 := .null) (cn := .ne) (off := 11) rfl (fun c => ?_) (fun c => ?_)
        · rw [if_pos c] at h
          refine q_li (k := 1) (i := 2) (q := (.iload_n 2, 1, 0, 0, .null)) rfl (fun _ => rfl) l2 ?_
          refine r_s (fr' := (48, lv, [.int 1, .int v2])) (hp' := xW B q31.2) (q := (.iconst 1, 1, 0, 0, .null)) rfl (fun _ => rfl) (Nat.le_refl _) ?_
          refine r_ifc (len := 3) (a := 59) (b := 0) (v0 := .null) (cn := .ne) (off := 11) rfl (fun c => ?_) (fun c => ?_)
          · rw [if_pos c] at h
            refine q_lr (k := 1) (i := 0) (q := (.aload_n 0, 1, 0, 0, .null)) rfl (fun _ => rfl) l0 ?_
            refine r_gr (c := 44) H (pc := 60) rfl (by decide) (by decide) ?_
            refine r_gi (v := (q31.2.1 44 3)) H (pc := 63) (i := _) rfl (by decide) (by decide) rfl ?_
            refine r_if (len := 3) (a := 80) (b := 0) (v0 := .null) (cn := .eq) (off := 14) rfl (fun c => ?_) (fun c => ?_)
            · rw [if_pos c] at h
              exact T148_0_80 H he F l0 l1 l2 h
            · rw [if_neg (by rw [c]; decide)] at h
              refine q_lr (k := 1) (i := 0) (q := (.aload_n 0, 1, 0, 0, .null)) rfl (fun _ => rfl) l0 ?_
              refine r_gr (c := 9) H (pc := 70) rfl (by decide) (by decide) ?_
              refine q_li (k := 1) (i := 1) (q := (.iload_n 1, 1, 0, 0, .null)) rfl (fun _ => rfl) l1 ?_
              obtain ⟨q74, h74, h⟩ := xbind h
              refine r_call (ix := 9) (as := [.int v1]) (rest := []) (rv := some (.int q74.1)) (hp' := xW B q74.2) (pc := 74) rfl xr97 rfl rfl rfl (xkd H (by decide)) (Nat.le_of_ble_eq_true rfl) (Z97_9 H h74 (by omega)) (Nat.le_refl _) ?_
              refine r_if (len := 3) (a := 85) (b := 0) (v0 := .null) (cn := .eq) (off := 8) rfl (fun c => ?_) (fun c => ?_)
              · rw [if_pos c] at h
                refine q_lr (k := 1) (i := 0) (q := (.aload_n 0, 1, 0, 0, .null)) rfl (fun _ => rfl) l0 ?_
                refine r_gr (c := 44) H (pc := 86) rfl (by decide) (by decide) ?_
                refine r_gi (v := (q74.2.1 44 6)) H (pc := 89) (i := _) rfl (by decide) (by decide) rfl ?_
                obtain rfl := Option.some.inj h
                exact q_ri (q := (.ireturn, 1, 0, 0, .null)) rfl (fun _ => rfl) rfl rfl
              · rw [if_neg (by rw [c]; decide)] at h
                exact T148_0_80 H he F l0 l1 l2 h
          · rw [if_neg (by rw [c]; decide)] at h
            refine q_lr (k := 1) (i := 0) (q := (.aload_n 0, 1, 0, 0, .null)) rfl (fun _ => rfl) l0 ?_
            refine r_gr (c := 44) H (pc := 52) rfl (by decide) (by decide) ?_
            refine r_gi (v := (q31.2.1 44 5)) H (pc := 55) (i := _) rfl (by decide) (by decide) rfl ?_
            obtain rfl := Option.some.inj h
            exact q_ri (q := (.ireturn, 1, 0, 0, .null)) rfl (fun _ => rfl) rfl rfl
        · rw [if_neg (by rw [c]; decide)] at h
          refine q_lr (k := 1) (i := 0) (q := (.aload_n 0, 1, 0, 0, .null)) rfl (fun _ => rfl) l0 ?_
          refine r_gr (c := 44) H (pc := 39) rfl (by decide) (by decide) ?_
          refine r_gi (v := (q31.2.1 44 3)) H (pc := 42) (i := _) rfl (by decide) (by decide) rfl ?_
          obtain rfl := Option.some.inj h
          exact q_ri (q := (.ireturn, 1, 0, 0, .null)) rfl (fun _ => rfl) rfl rfl
      · rw [if_neg (by rw [c]; decide)] at h
        exact T148_0_20 H he F l0 l1 l2 h
set_option maxRecDepth 20000 in
theorem Z148_0 {B : zHp} (H : yH0 B) {F : Nat} {a1 : Int32} {a2 : Int32} {m : xS} {x : Int32 × xS} (h : D148_0 F a1 a2 m = some x) {d : Nat} (hd : 13 ≤ d) : zCan d 148 [.ref 0, .int a1, .int a2] (xW B m) (some (.int x.1), xW B x.2) := by
  obtain ⟨e, rfl⟩ : ∃ e, d = e + 1 := ⟨d - 1, by omega⟩
  refine zCan_body (nL := 3) (rt := (some .int)) (cd := zc148) (xg148) ⟨Nat.le_of_ble_eq_true rfl, by decide⟩ (Nat.le_refl _) ?_
  exact T148_0 H hd F rfl rfl rfl h
/-- LentTools$Chains.goFurther -/
def D3_44_11t_37 (F : Nat) (g5 : Int32 → Int32 → Int32 → xS → Option (Unit × xS)) (v2 : Int32) (v3 : Int32) (v4 : Int32) (m : xS) : Option (Unit × xS) :=
  g5 v2 v3 (v4 + Int32.ofInt 1) m
set_option maxRecDepth 20000 in
theorem T3_44_11t_37 {B : zHp} (H : yH0 B) {e : Nat} (he : 2 ≤ e + 1) (F : Nat) (g5 : Int32 → Int32 → Int32 → xS → Option (Unit × xS)) (k5 : ∀ {v2 : Int32} {v3 : Int32} {v4 : Int32} {lv : List (Nat × Value)} {m : xS} {x : Unit × xS}, zld lv 0 = some (.ref 44) → zld lv 1 = some (.ref 11) → zld lv 2 = some (.int v2) → zld lv 3 = some (.int v3) → zld lv 4 = some (.int v4) → g5 v2 v3 v4 m = some x → zR none e 5 none zc3 (5, lv, []) (xW B m) (none, xW B x.2)) {v2 : Int32} {v3 : Int32} {v4 : Int32} {lv : List (Nat × Value)} {m : xS} {x : Unit × xS} (l0 : zld lv 0 = some (.ref 44)) (l1 : zld lv 1 = some (.ref 11)) (l2 : zld lv 2 = some (.int v2)) (l3 : zld lv 3 = some (.int v3)) (l4 : zld lv 4 = some (.int v4)) (h : D3_44_11t_37 F g5 v2 v3 v4 m = some x) : zR none e 5 none zc3 (37, lv, []) (xW B m) (none, xW B x.2) := by
  unfold D3_44_11t_37 at h
  refine q_inc (i := 4) (n := 1) (q := (.iinc 4 1, 3, 0, 0, .null)) rfl (fun _ => rfl) l4 (by decide) ?_
  have l0_1 : zld (zs1 lv 4 (.int (v4 + Int32.ofInt 1))) 0 = some (.ref 44) := x_o1 l0 rfl rfl
  have l1_1 : zld (zs1 lv 4 (.int (v4 + Int32.ofInt 1))) 1 = some (.ref 11) := x_o1 l1 rfl rfl
  have l2_1 : zld (zs1 lv 4 (.int (v4 + Int32.ofInt 1))) 2 = some (.int v2) := x_o1 l2 rfl rfl
  have l3_1 : zld (zs1 lv 4 (.int (v4 + Int32.ofInt 1))) 3 = some (.int v3) := x_o1 l3 rfl rfl
  have l4_1 : zld (zs1 lv 4 (.int (v4 + Int32.ofInt 1))) 4 = some (.int (v4 + Int32.ofInt 1)) := zs1_ld _ _ _
  generalize (zs1 lv 4 (.int (v4 + Int32.ofInt 1))) = lv1 at *
  refine r_s (fr' := (5, lv1, [])) (hp' := xW B m) (q := (.goto (-35), 3, 5, 0, .null)) rfl (fun _ => rfl) (Nat.le_refl _) ?_
  exact k5 l0_1 l1_1 l2_1 l3_1 l4_1 h
def D3_44_11t_88 (F : Nat) (g52 : Int32 → Int32 → Int32 → xS → Option (Unit × xS)) (v2 : Int32) (v3 : Int32) (v4 : Int32) (m : xS) : Option (Unit × xS) :=
  g52 v2 v3 (v4 + Int32.ofInt 1) m
set_option maxRecDepth 20000 in
theorem T3_44_11t_88 {B : zHp} (H : yH0 B) {e : Nat} (he : 2 ≤ e + 1) (F : Nat) (g52 : Int32 → Int32 → Int32 → xS → Option (Unit × xS)) (k52 : ∀ {v2 : Int32} {v3 : Int32} {v4 : Int32} {lv : List (Nat × Value)} {m : xS} {x : Unit × xS}, zld lv 0 = some (.ref 44) → zld lv 1 = some (.ref 11) → zld lv 2 = some (.int v2) → zld lv 3 = some (.int v3) → zld lv 4 = some (.int v4) → g52 v2 v3 v4 m = some x → zR none e 5 none zc3 (52, lv, []) (xW B m) (none, xW B x.2)) {v2 : Int32} {v3 : Int32} {v4 : Int32} {lv : List (Nat × Value)} {m : xS} {x : Unit × xS} (l0 : zld lv 0 = some (.ref 44)) (l1 : zld lv 1 = some (.ref 11)) (l2 : zld lv 2 = some (.int v2)) (l3 : zld lv 3 = some (.int v3)) (l4 : zld lv 4 = some (.int v4)) (h : D3_44_11t_88 F g52 v2 v3 v4 m = some x) : zR none e 5 none zc3 (88, lv, []) (xW B m) (none, xW B x.2) := by
  unfold D3_44_11t_88 at h
  refine q_inc (i := 4) (n := 1) (q := (.iinc 4 1, 3, 0, 0, .null)) rfl (fun _ => rfl) l4 (by decide) ?_
  have l0_1 : zld (zs1 lv 4 (.int (v4 + Int32.ofInt 1))) 0 = some (.ref 44) := x_o1 l0 rfl rfl
  have l1_1 : zld (zs1 lv 4 (.int (v4 + Int32.ofInt 1))) 1 = some (.ref 11) := x_o1 l1 rfl rfl
  have l2_1 : zld (zs1 lv 4 (.int (v4 + Int32.ofInt 1))) 2 = some (.int v2) := x_o1 l2 rfl rfl
  have l3_1 : zld (zs1 lv 4 (.int (v4 + Int32.ofInt 1))) 3 = some (.int v3) := x_o1 l3 rfl rfl
  have l4_1 : zld (zs1 lv 4 (.int (v4 + Int32.ofInt 1))) 4 = some (.int (v4 + Int32.ofInt 1)) := zs1_ld _ _ _
  generalize (zs1 lv 4 (.int (v4 + Int32.ofInt 1))) = lv1 at *
  refine r_s (fr' := (52, lv1, [])) (hp' := xW B m) (q := (.goto (-39), 3, 52, 0, .null)) rfl (fun _ => rfl) (Nat.le_refl _) ?_
  exact k52 l0_1 l1_1 l2_1 l3_1 l4_1 h
def D3_44_11t_52 (F : Nat) : Nat → Int32 → Int32 → Int32 → xS → Option (Unit × xS)
  | 0, _, _, _, _ => none
  | f + 1, v2, v3, v4, m =>
    (D77_11t F m).bind fun q55 =>
      if zcmp .ge v4 q55.1 = true then
        some ((), q55.2)
      else
        if zcmp .eq ((v3 >>> (v4 &&& 31)) &&& 1) 0 = true then
          D3_44_11t_88 F (D3_44_11t_52 F f) v2 v3 v4 q55.2
        else
          if xib (v2 ||| (1 <<< (v4 &&& 31))) 64 = true then
            if xib (v2 ||| (1 <<< (v4 &&& 31))) 64 = true then
              D3_44_11t_88 F (D3_44_11t_52 F f) v2 v3 v4 (xu q55.2 47 ((v2 ||| (1 <<< (v4 &&& 31))) : Int32).toNatClampNeg ((q55.2.1 47 ((v2 ||| (1 <<< (v4 &&& 31))) : Int32).toNatClampNeg) ||| (1 <<< (v4 &&& 31))))
            else none
          else none
set_option maxRecDepth 20000 in
theorem T3_44_11t_52 {B : zHp} (H : yH0 B) {e : Nat} (he : 2 ≤ e + 1) (F : Nat) : ∀ (f : Nat) {v2 : Int32} {v3 : Int32} {v4 : Int32} {lv : List (Nat × Value)} {m : xS} {x : Unit × xS}, zld lv 0 = some (.ref 44) → zld lv 1 = some (.ref 11) → zld lv 2 = some (.int v2) → zld lv 3 = some (.int v3) → zld lv 4 = some (.int v4) → D3_44_11t_52 F f v2 v3 v4 m = some x → zR none e 5 none zc3 (52, lv, []) (xW B m) (none, xW B x.2) := by
  intro f
  induction f with
  | zero => intro v2 v3 v4 lv m x l0 l1 l2 l3 l4 h; cases h
  | succ f ih =>
    intro v2 v3 v4 lv m x l0 l1 l2 l3 l4 h
    unfold D3_44_11t_52 at h
    refine q_li (k := 2) (i := 4) (q := (.iload 4, 2, 0, 0, .null)) rfl (fun _ => rfl) l4 ?_
    refine q_lr (k := 1) (i := 1) (q := (.aload_n 1, 1, 0, 0, .null)) rfl (fun _ => rfl) l1 ?_
    obtain ⟨q55, h55, h⟩ := xbind h
    refine r_call (ix := 11) (as := []) (rest := [.int v4]) (rv := some (.int q55.1)) (hp' := xW B q55.2) (pc := 55) rfl xr77 rfl rfl rfl (xkd H (by decide)) (Nat.le_of_ble_eq_true rfl) (Z77_11t H h55 (by omega)) (Nat.le_refl _) ?_
    refine r_ifc (len := 3) (a := 94) (b := 0) (v0 := .null) (cn := .ge) (off := 36) rfl (fun c => ?_) (fun c => ?_)
    · rw [if_pos c] at h
      obtain rfl := Option.some.inj h
      exact r_ret (q := (.return_, 1, 0, 0, .null)) rfl rfl (fun _ => rfl)
    · rw [if_neg (by rw [c]; decide)] at h
      refine q_li (k := 1) (i := 3) (q := (.iload_n 3, 1, 0, 0, .null)) rfl (fun _ => rfl) l3 ?_
      refine q_li (k := 2) (i := 4) (q := (.iload 4, 2, 0, 0, .null)) rfl (fun _ => rfl) l4 ?_
      refine r_s (fr' := (65, lv, [.int (v3 >>> (v4 &&& 31))])) (hp' := xW B q55.2) (q := (.ishr, 1, 0, 0, .null)) rfl (fun _ => rfl) (Nat.le_refl _) ?_
      refine r_s (fr' := (66, lv, [.int 1, .int (v3 >>> (v4 &&& 31))])) (hp' := xW B q55.2) (q := (.iconst 1, 1, 0, 0, .null)) rfl (fun _ => rfl) (Nat.le_refl _) ?_
      refine r_s (fr' := (67, lv, [.int ((v3 >>> (v4 &&& 31)) &&& 1)])) (hp' := xW B q55.2) (q := (.iand, 1, 0, 0, .null)) rfl (fun _ => rfl) (Nat.le_refl _) ?_
      refine r_if (len := 3) (a := 88) (b := 0) (v0 := .null) (cn := .eq) (off := 21) rfl (fun c => ?_) (fun c => ?_)
      · rw [if_pos c] at h
        exact T3_44_11t_88 H he F _ ih l0 l1 l2 l3 l4 h
      · rw [if_neg (by rw [c]; decide)] at h
        refine q_lr (k := 1) (i := 0) (q := (.aload_n 0, 1, 0, 0, .null)) rfl (fun _ => rfl) l0 ?_
        refine r_gr (c := 47) H (pc := 71) rfl (by decide) (by decide) ?_
        refine q_li (k := 1) (i := 2) (q := (.iload_n 2, 1, 0, 0, .null)) rfl (fun _ => rfl) l2 ?_
        refine r_s (fr' := (76, lv, [.int 1, .int v2, .ref 47])) (hp' := xW B q55.2) (q := (.iconst 1, 1, 0, 0, .null)) rfl (fun _ => rfl) (Nat.le_refl _) ?_
        refine q_li (k := 2) (i := 4) (q := (.iload 4, 2, 0, 0, .null)) rfl (fun _ => rfl) l4 ?_
        refine r_s (fr' := (79, lv, [.int (1 <<< (v4 &&& 31)), .int v2, .ref 47])) (hp' := xW B q55.2) (q := (.ishl, 1, 0, 0, .null)) rfl (fun _ => rfl) (Nat.le_refl _) ?_
        refine r_s (fr' := (80, lv, [.int (v2 ||| (1 <<< (v4 &&& 31))), .ref 47])) (hp' := xW B q55.2) (q := (.ior, 1, 0, 0, .null)) rfl (fun _ => rfl) (Nat.le_refl _) ?_
        refine r_s (fr' := (81, lv, [.int (v2 ||| (1 <<< (v4 &&& 31))), .ref 47, .int (v2 ||| (1 <<< (v4 &&& 31))), .ref 47])) (hp' := xW B q55.2) (q := (.dup2, 1, 0, 0, .null)) rfl (fun _ => rfl) (Nat.le_refl _) ?_
        obtain ⟨c1, h⟩ := xif h
        refine q_al (n := 64) (v := (q55.2.1 47 ((v2 ||| (1 <<< (v4 &&& 31))) : Int32).toNatClampNeg)) H (pc := 81) rfl (by decide) c1 rfl ?_
        refine r_s (fr' := (83, lv, [.int 1, .int (q55.2.1 47 ((v2 ||| (1 <<< (v4 &&& 31))) : Int32).toNatClampNeg), .int (v2 ||| (1 <<< (v4 &&& 31))), .ref 47])) (hp' := xW B q55.2) (q := (.iconst 1, 1, 0, 0, .null)) rfl (fun _ => rfl) (Nat.le_refl _) ?_
        refine q_li (k := 2) (i := 4) (q := (.iload 4, 2, 0, 0, .null)) rfl (fun _ => rfl) l4 ?_
        refine r_s (fr' := (86, lv, [.int (1 <<< (v4 &&& 31)), .int (q55.2.1 47 ((v2 ||| (1 <<< (v4 &&& 31))) : Int32).toNatClampNeg), .int (v2 ||| (1 <<< (v4 &&& 31))), .ref 47])) (hp' := xW B q55.2) (q := (.ishl, 1, 0, 0, .null)) rfl (fun _ => rfl) (Nat.le_refl _) ?_
        refine r_s (fr' := (87, lv, [.int ((q55.2.1 47 ((v2 ||| (1 <<< (v4 &&& 31))) : Int32).toNatClampNeg) ||| (1 <<< (v4 &&& 31))), .int (v2 ||| (1 <<< (v4 &&& 31))), .ref 47])) (hp' := xW B q55.2) (q := (.ior, 1, 0, 0, .null)) rfl (fun _ => rfl) (Nat.le_refl _) ?_
        obtain ⟨c2, h⟩ := xif h
        refine q_as (n := 64) (s2 := (xu q55.2 47 ((v2 ||| (1 <<< (v4 &&& 31))) : Int32).toNatClampNeg ((q55.2.1 47 ((v2 ||| (1 <<< (v4 &&& 31))) : Int32).toNatClampNeg) ||| (1 <<< (v4 &&& 31))))) H (pc := 87) rfl (by decide) c2 rfl ?_
        exact T3_44_11t_88 H he F _ ih l0 l1 l2 l3 l4 h
def D3_44_11t_5 (F : Nat) : Nat → Int32 → Int32 → Int32 → xS → Option (Unit × xS)
  | 0, _, _, _, _ => none
  | f + 1, v2, v3, v4, m =>
    (D77_11t F m).bind fun q8 =>
      if zcmp .ge v4 q8.1 = true then
        D3_44_11t_52 F F v2 (v3 &&& (v2 ^^^ (-1))) 0 q8.2
      else
        if xib v2 64 = true then
          if zcmp .eq (((q8.2.1 47 (v2 : Int32).toNatClampNeg) >>> (v4 &&& 31)) &&& 1) 0 = true then
            D3_44_11t_37 F (D3_44_11t_5 F f) v2 v3 v4 q8.2
          else
            (D91_11t F v4 q8.2).bind fun q32 =>
              D3_44_11t_37 F (D3_44_11t_5 F f) v2 (v3 ||| q32.1) v4 q32.2
        else none
set_option maxRecDepth 20000 in
theorem T3_44_11t_5 {B : zHp} (H : yH0 B) {e : Nat} (he : 2 ≤ e + 1) (F : Nat) : ∀ (f : Nat) {v2 : Int32} {v3 : Int32} {v4 : Int32} {lv : List (Nat × Value)} {m : xS} {x : Unit × xS}, zld lv 0 = some (.ref 44) → zld lv 1 = some (.ref 11) → zld lv 2 = some (.int v2) → zld lv 3 = some (.int v3) → zld lv 4 = some (.int v4) → D3_44_11t_5 F f v2 v3 v4 m = some x → zR none e 5 none zc3 (5, lv, []) (xW B m) (none, xW B x.2) := by
  intro f
  induction f with
  | zero => intro v2 v3 v4 lv m x l0 l1 l2 l3 l4 h; cases h
  | succ f ih =>
    intro v2 v3 v4 lv m x l0 l1 l2 l3 l4 h
    unfold D3_44_11t_5 at h
    refine q_li (k := 2) (i := 4) (q := (.iload 4, 2, 0, 0, .null)) rfl (fun _ => rfl) l4 ?_
    refine q_lr (k := 1) (i := 1) (q := (.aload_n 1, 1, 0, 0, .null)) rfl (fun _ => rfl) l1 ?_
    obtain ⟨q8, h8, h⟩ := xbind h
    refine r_call (ix := 11) (as := []) (rest := [.int v4]) (rv := some (.int q8.1)) (hp' := xW B q8.2) (pc := 8) rfl xr77 rfl rfl rfl (xkd H (by decide)) (Nat.le_of_ble_eq_true rfl) (Z77_11t H h8 (by omega)) (Nat.le_refl _) ?_
    refine r_ifc (len := 3) (a := 43) (b := 0) (v0 := .null) (cn := .ge) (off := 32) rfl (fun c => ?_) (fun c => ?_)
    · rw [if_pos c] at h
      refine q_li (k := 1) (i := 3) (q := (.iload_n 3, 1, 0, 0, .null)) rfl (fun _ => rfl) l3 ?_
      refine q_li (k := 1) (i := 2) (q := (.iload_n 2, 1, 0, 0, .null)) rfl (fun _ => rfl) l2 ?_
      refine r_s (fr' := (46, lv, [.int (-1), .int v2, .int v3])) (hp' := xW B q8.2) (q := (.iconst (-1), 1, 0, 0, .null)) rfl (fun _ => rfl) (Nat.le_refl _) ?_
      refine r_s (fr' := (47, lv, [.int (v2 ^^^ (-1)), .int v3])) (hp' := xW B q8.2) (q := (.ixor, 1, 0, 0, .null)) rfl (fun _ => rfl) (Nat.le_refl _) ?_
      refine r_s (fr' := (48, lv, [.int (v3 &&& (v2 ^^^ (-1)))])) (hp' := xW B q8.2) (q := (.iand, 1, 0, 0, .null)) rfl (fun _ => rfl) (Nat.le_refl _) ?_
      refine q_si (k := 1) (i := 3) (q := (.istore_n 3, 1, 0, 0, .null)) rfl (fun _ => rfl) (by decide) ?_
      have l0_1 : zld (zs1 lv 3 (.int (v3 &&& (v2 ^^^ (-1))))) 0 = some (.ref 44) := x_o1 l0 rfl rfl
      have l1_1 : zld (zs1 lv 3 (.int (v3 &&& (v2 ^^^ (-1))))) 1 = some (.ref 11) := x_o1 l1 rfl rfl
      have l2_1 : zld (zs1 lv 3 (.int (v3 &&& (v2 ^^^ (-1))))) 2 = some (.int v2) := x_o1 l2 rfl rfl
      have l3_1 : zld (zs1 lv 3 (.int (v3 &&& (v2 ^^^ (-1))))) 3 = some (.int (v3 &&& (v2 ^^^ (-1)))) := zs1_ld _ _ _
      have l4_1 : zld (zs1 lv 3 (.int (v3 &&& (v2 ^^^ (-1))))) 4 = some (.int v4) := x_o1 l4 rfl rfl
      generalize (zs1 lv 3 (.int (v3 &&& (v2 ^^^ (-1))))) = lv1 at *
      refine r_s (fr' := (50, lv1, [.int 0])) (hp' := xW B q8.2) (q := (.iconst 0, 1, 0, 0, .null)) rfl (fun _ => rfl) (Nat.le_refl _) ?_
      refine q_si (k := 2) (i := 4) (q := (.istore 4, 2, 0, 0, .null)) rfl (fun _ => rfl) (by decide) ?_
      have l0_2 : zld (zs1 lv1 4 (.int 0)) 0 = some (.ref 44) := x_o1 l0_1 rfl rfl
      have l1_2 : zld (zs1 lv1 4 (.int 0)) 1 = some (.ref 11) := x_o1 l1_1 rfl rfl
      have l2_2 : zld (zs1 lv1 4 (.int 0)) 2 = some (.int v2) := x_o1 l2_1 rfl rfl
      have l3_2 : zld (zs1 lv1 4 (.int 0)) 3 = some (.int (v3 &&& (v2 ^^^ (-1)))) := x_o1 l3_1 rfl rfl
      have l4_2 : zld (zs1 lv1 4 (.int 0)) 4 = some (.int 0) := zs1_ld _ _ _
      generalize (zs1 lv1 4 (.int 0)) = lv2 at *
      exact T3_44_11t_52 H he F F l0_2 l1_2 l2_2 l3_2 l4_2 h
    · rw [if_neg (by rw [c]; decide)] at h
      refine q_lr (k := 1) (i := 0) (q := (.aload_n 0, 1, 0, 0, .null)) rfl (fun _ => rfl) l0 ?_
      refine r_gr (c := 47) H (pc := 15) rfl (by decide) (by decide) ?_
      refine q_li (k := 1) (i := 2) (q := (.iload_n 2, 1, 0, 0, .null)) rfl (fun _ => rfl) l2 ?_
      obtain ⟨c3, h⟩ := xif h
      refine q_al (n := 64) (v := (q8.2.1 47 (v2 : Int32).toNatClampNeg)) H (pc := 19) rfl (by decide) c3 rfl ?_
      refine q_li (k := 2) (i := 4) (q := (.iload 4, 2, 0, 0, .null)) rfl (fun _ => rfl) l4 ?_
      refine r_s (fr' := (23, lv, [.int ((q8.2.1 47 (v2 : Int32).toNatClampNeg) >>> (v4 &&& 31))])) (hp' := xW B q8.2) (q := (.ishr, 1, 0, 0, .null)) rfl (fun _ => rfl) (Nat.le_refl _) ?_
      refine r_s (fr' := (24, lv, [.int 1, .int ((q8.2.1 47 (v2 : Int32).toNatClampNeg) >>> (v4 &&& 31))])) (hp' := xW B q8.2) (q := (.iconst 1, 1, 0, 0, .null)) rfl (fun _ => rfl) (Nat.le_refl _) ?_
      refine r_s (fr' := (25, lv, [.int (((q8.2.1 47 (v2 : Int32).toNatClampNeg) >>> (v4 &&& 31)) &&& 1)])) (hp' := xW B q8.2) (q := (.iand, 1, 0, 0, .null)) rfl (fun _ => rfl) (Nat.le_refl _) ?_
      refine r_if (len := 3) (a := 37) (b := 0) (v0 := .null) (cn := .eq) (off := 12) rfl (fun c => ?_) (fun c => ?_)
      · rw [if_pos c] at h
        exact T3_44_11t_37 H he F _ ih l0 l1 l2 l3 l4 h
      · rw [if_neg (by rw [c]; decide)] at h
        refine q_li (k := 1) (i := 3) (q := (.iload_n 3, 1, 0, 0, .null)) rfl (fun _ => rfl) l3 ?_
        refine q_lr (k := 1) (i := 1) (q := (.aload_n 1, 1, 0, 0, .null)) rfl (fun _ => rfl) l1 ?_
        refine q_li (k := 2) (i := 4) (q := (.iload 4, 2, 0, 0, .null)) rfl (fun _ => rfl) l4 ?_
        obtain ⟨q32, h32, h⟩ := xbind h
        refine r_call (ix := 11) (as := [.int v4]) (rest := [.int v3]) (rv := some (.int q32.1)) (hp' := xW B q32.2) (pc := 32) rfl xr91 rfl rfl rfl (xkd H (by decide)) (Nat.le_of_ble_eq_true rfl) (Z91_11t H h32 (by omega)) (Nat.le_refl _) ?_
        refine r_s (fr' := (36, lv, [.int (v3 ||| q32.1)])) (hp' := xW B q32.2) (q := (.ior, 1, 0, 0, .null)) rfl (fun _ => rfl) (Nat.le_refl _) ?_
        refine q_si (k := 1) (i := 3) (q := (.istore_n 3, 1, 0, 0, .null)) rfl (fun _ => rfl) (by decide) ?_
        have l0_4 : zld (zs1 lv 3 (.int (v3 ||| q32.1))) 0 = some (.ref 44) := x_o1 l0 rfl rfl
        have l1_4 : zld (zs1 lv 3 (.int (v3 ||| q32.1))) 1 = some (.ref 11) := x_o1 l1 rfl rfl
        have l2_4 : zld (zs1 lv 3 (.int (v3 ||| q32.1))) 2 = some (.int v2) := x_o1 l2 rfl rfl
        have l3_4 : zld (zs1 lv 3 (.int (v3 ||| q32.1))) 3 = some (.int (v3 ||| q32.1)) := zs1_ld _ _ _
        have l4_4 : zld (zs1 lv 3 (.int (v3 ||| q32.1))) 4 = some (.int v4) := x_o1 l4 rfl rfl
        generalize (zs1 lv 3 (.int (v3 ||| q32.1))) = lv4 at *
        exact T3_44_11t_37 H he F _ ih l0_4 l1_4 l2_4 l3_4 l4_4 h
def D3_44_11t (F : Nat) (v2 : Int32) (m : xS) : Option (Unit × xS) :=
  D3_44_11t_5 F F v2 0 0 m
set_option maxRecDepth 20000 in
theorem T3_44_11t {B : zHp} (H : yH0 B) {e : Nat} (he : 2 ≤ e + 1) (F : Nat) {v2 : Int32} {lv : List (Nat × Value)} {m : xS} {x : Unit × xS} (l0 : zld lv 0 = some (.ref 44)) (l1 : zld lv 1 = some (.ref 11)) (l2 : zld lv 2 = some (.int v2)) (h : D3_44_11t F v2 m = some x) : zR none e 5 none zc3 (0, lv, []) (xW B m) (none, xW B x.2) := by
  unfold D3_44_11t at h
  refine r_s (fr' := (1, lv, [.int 0])) (hp' := xW B m) (q := (.iconst 0, 1, 0, 0, .null)) rfl (fun _ => rfl) (Nat.le_refl _) ?_
  refine q_si (k := 1) (i := 3) (q := (.istore_n 3, 1, 0, 0, .null)) rfl (fun _ => rfl) (by decide) ?_
  have l0_1 : zld (zs1 lv 3 (.int 0)) 0 = some (.ref 44) := x_o1 l0 rfl rfl
  have l1_1 : zld (zs1 lv 3 (.int 0)) 1 = some (.ref 11) := x_o1 l1 rfl rfl
  have l2_1 : zld (zs1 lv 3 (.int 0)) 2 = some (.int v2) := x_o1 l2 rfl rfl
  have l3_1 : zld (zs1 lv 3 (.int 0)) 3 = some (.int 0) := zs1_ld _ _ _
  generalize (zs1 lv 3 (.int 0)) = lv1 at *
  refine r_s (fr' := (3, lv1, [.int 0])) (hp' := xW B m) (q := (.iconst 0, 1, 0, 0, .null)) rfl (fun _ => rfl) (Nat.le_refl _) ?_
  refine q_si (k := 2) (i := 4) (q := (.istore 4, 2, 0, 0, .null)) rfl (fun _ => rfl) (by decide) ?_
  have l0_2 : zld (zs1 lv1 4 (.int 0)) 0 = some (.ref 44) := x_o1 l0_1 rfl rfl
  have l1_2 : zld (zs1 lv1 4 (.int 0)) 1 = some (.ref 11) := x_o1 l1_1 rfl rfl
  have l2_2 : zld (zs1 lv1 4 (.int 0)) 2 = some (.int v2) := x_o1 l2_1 rfl rfl
  have l3_2 : zld (zs1 lv1 4 (.int 0)) 3 = some (.int 0) := x_o1 l3_1 rfl rfl
  have l4_2 : zld (zs1 lv1 4 (.int 0)) 4 = some (.int 0) := zs1_ld _ _ _
  generalize (zs1 lv1 4 (.int 0)) = lv2 at *
  exact T3_44_11t_5 H he F F l0_2 l1_2 l2_2 l3_2 l4_2 h
set_option maxRecDepth 20000 in
theorem Z3_44_11t {B : zHp} (H : yH0 B) {F : Nat} {a2 : Int32} {m : xS} {x : Unit × xS} (h : D3_44_11t F a2 m = some x) {d : Nat} (hd : 2 ≤ d) : zCan d 3 [.ref 44, .ref 11, .int a2] (xW B m) (none, xW B x.2) := by
  obtain ⟨e, rfl⟩ : ∃ e, d = e + 1 := ⟨d - 1, by omega⟩
  refine zCan_body (nL := 5) (rt := none) (cd := zc3) (xg3) ⟨Nat.le_of_ble_eq_true rfl, by decide⟩ (Nat.le_refl _) ?_
  exact T3_44_11t H hd F rfl rfl rfl h
/-- LentTools$Chains.measure -/
def D1_44_11t_124 (F : Nat) (g67 : Int32 → Int32 → Int32 → Int32 → Int32 → xS → Option (Unit × xS)) (v2 : Int32) (v3 : Int32) (v4 : Int32) (v5 : Int32) (v6 : Int32) (m : xS) : Option (Unit × xS) :=
  g67 v2 v3 v4 v5 (v6 + Int32.ofInt 1) m
set_option maxRecDepth 20000 in
theorem T1_44_11t_124 {B : zHp} (H : yH0 B) {e : Nat} (he : 3 ≤ e + 1) (F : Nat) (g67 : Int32 → Int32 → Int32 → Int32 → Int32 → xS → Option (Unit × xS)) (k67 : ∀ {v2 : Int32} {v3 : Int32} {v4 : Int32} {v5 : Int32} {v6 : Int32} {lv : List (Nat × Value)} {m : xS} {x : Unit × xS}, zld lv 0 = some (.ref 44) → zld lv 1 = some (.ref 11) → zld lv 2 = some (.int v2) → zld lv 3 = some (.int v3) → zld lv 4 = some (.int v4) → zld lv 5 = some (.int v5) → zld lv 6 = some (.int v6) → g67 v2 v3 v4 v5 v6 m = some x → zR none e 7 none zc1 (67, lv, []) (xW B m) (none, xW B x.2)) {v2 : Int32} {v3 : Int32} {v4 : Int32} {v5 : Int32} {v6 : Int32} {lv : List (Nat × Value)} {m : xS} {x : Unit × xS} (l0 : zld lv 0 = some (.ref 44)) (l1 : zld lv 1 = some (.ref 11)) (l2 : zld lv 2 = some (.int v2)) (l3 : zld lv 3 = some (.int v3)) (l4 : zld lv 4 = some (.int v4)) (l5 : zld lv 5 = some (.int v5)) (l6 : zld lv 6 = some (.int v6)) (h : D1_44_11t_124 F g67 v2 v3 v4 v5 v6 m = some x) : zR none e 7 none zc1 (124, lv, []) (xW B m) (none, xW B x.2) := by
  unfold D1_44_11t_124 at h
  refine q_inc (i := 6) (n := 1) (q := (.iinc 6 1, 3, 0, 0, .null)) rfl (fun _ => rfl) l6 (by decide) ?_
  have l0_1 : zld (zs1 lv 6 (.int (v6 + Int32.ofInt 1))) 0 = some (.ref 44) := x_o1 l0 rfl rfl
  have l1_1 : zld (zs1 lv 6 (.int (v6 + Int32.ofInt 1))) 1 = some (.ref 11) := x_o1 l1 rfl rfl
  have l2_1 : zld (zs1 lv 6 (.int (v6 + Int32.ofInt 1))) 2 = some (.int v2) := x_o1 l2 rfl rfl
  have l3_1 : zld (zs1 lv 6 (.int (v6 + Int32.ofInt 1))) 3 = some (.int v3) := x_o1 l3 rfl rfl
  have l4_1 : zld (zs1 lv 6 (.int (v6 + Int32.ofInt 1))) 4 = some (.int v4) := x_o1 l4 rfl rfl
  have l5_1 : zld (zs1 lv 6 (.int (v6 + Int32.ofInt 1))) 5 = some (.int v5) := x_o1 l5 rfl rfl
  have l6_1 : zld (zs1 lv 6 (.int (v6 + Int32.ofInt 1))) 6 = some (.int (v6 + Int32.ofInt 1)) := zs1_ld _ _ _
  generalize (zs1 lv 6 (.int (v6 + Int32.ofInt 1))) = lv1 at *
  refine r_s (fr' := (67, lv1, [])) (hp' := xW B m) (q := (.goto (-60), 3, 67, 0, .null)) rfl (fun _ => rfl) (Nat.le_refl _) ?_
  exact k67 l0_1 l1_1 l2_1 l3_1 l4_1 l5_1 l6_1 h
def D1_44_11t_67 (F : Nat) : Nat → Int32 → Int32 → Int32 → Int32 → Int32 → xS → Option (Unit × xS)
  | 0, _, _, _, _, _, _ => none
  | f + 1, v2, v3, v4, v5, v6, m =>
    if zcmp .ge v6 v5 = true then
      some ((), m)
    else
      if zcmp .ge v6 (Int32.ofNat 64) = true then
        some ((), m)
      else
        if xib v6 64 = true then
          if zcmp .eq (m.1 47 (v6 : Int32).toNatClampNeg) 0 = true then
            D1_44_11t_124 F (D1_44_11t_67 F f) v2 v3 v4 v5 v6 m
          else
            (D77_11t F m).bind fun q96 =>
              if xib v6 64 = true then
                (D280 F (v6 ^^^ v4) q96.2).bind fun q111 =>
                  (D2_44 F q96.1 (q96.2.1 47 (v6 : Int32).toNatClampNeg) q111.1 q111.2).bind fun q114 =>
                    (D3_44_11t F v6 q114.2).bind fun q121 =>
                      D1_44_11t_124 F (D1_44_11t_67 F f) v2 v3 v4 v5 v6 q121.2
              else none
        else none
set_option maxRecDepth 20000 in
theorem T1_44_11t_67 {B : zHp} (H : yH0 B) {e : Nat} (he : 3 ≤ e + 1) (F : Nat) : ∀ (f : Nat) {v2 : Int32} {v3 : Int32} {v4 : Int32} {v5 : Int32} {v6 : Int32} {lv : List (Nat × Value)} {m : xS} {x : Unit × xS}, zld lv 0 = some (.ref 44) → zld lv 1 = some (.ref 11) → zld lv 2 = some (.int v2) → zld lv 3 = some (.int v3) → zld lv 4 = some (.int v4) → zld lv 5 = some (.int v5) → zld lv 6 = some (.int v6) → D1_44_11t_67 F f v2 v3 v4 v5 v6 m = some x → zR none e 7 none zc1 (67, lv, []) (xW B m) (none, xW B x.2) := by
  intro f
  induction f with
  | zero => intro v2 v3 v4 v5 v6 lv m x l0 l1 l2 l3 l4 l5 l6 h; cases h
  | succ f ih =>
    intro v2 v3 v4 v5 v6 lv m x l0 l1 l2 l3 l4 l5 l6 h
    unfold D1_44_11t_67 at h
    refine q_li (k := 2) (i := 6) (q := (.iload 6, 2, 0, 0, .null)) rfl (fun _ => rfl) l6 ?_
    refine q_li (k := 2) (i := 5) (q := (.iload 5, 2, 0, 0, .null)) rfl (fun _ => rfl) l5 ?_
    refine r_ifc (len := 3) (a := 130) (b := 0) (v0 := .null) (cn := .ge) (off := 59) rfl (fun c => ?_) (fun c => ?_)
    · rw [if_pos c] at h
      obtain rfl := Option.some.inj h
      exact r_ret (q := (.return_, 1, 0, 0, .null)) rfl rfl (fun _ => rfl)
    · rw [if_neg (by rw [c]; decide)] at h
      refine q_li (k := 2) (i := 6) (q := (.iload 6, 2, 0, 0, .null)) rfl (fun _ => rfl) l6 ?_
      refine q_lr (k := 1) (i := 0) (q := (.aload_n 0, 1, 0, 0, .null)) rfl (fun _ => rfl) l0 ?_
      refine r_gr (c := 47) H (pc := 77) rfl (by decide) (by decide) ?_
      refine q_len (n := 64) (k := 0) H (pc := 80) rfl (by decide) ?_
      refine r_ifc (len := 3) (a := 130) (b := 0) (v0 := .null) (cn := .ge) (off := 49) rfl (fun c => ?_) (fun c => ?_)
      · rw [if_pos c] at h
        obtain rfl := Option.some.inj h
        exact r_ret (q := (.return_, 1, 0, 0, .null)) rfl rfl (fun _ => rfl)
      · rw [if_neg (by rw [c]; decide)] at h
        refine q_lr (k := 1) (i := 0) (q := (.aload_n 0, 1, 0, 0, .null)) rfl (fun _ => rfl) l0 ?_
        refine r_gr (c := 47) H (pc := 85) rfl (by decide) (by decide) ?_
        refine q_li (k := 2) (i := 6) (q := (.iload 6, 2, 0, 0, .null)) rfl (fun _ => rfl) l6 ?_
        obtain ⟨c1, h⟩ := xif h
        refine q_al (n := 64) (v := (m.1 47 (v6 : Int32).toNatClampNeg)) H (pc := 90) rfl (by decide) c1 rfl ?_
        refine r_if (len := 3) (a := 124) (b := 0) (v0 := .null) (cn := .eq) (off := 33) rfl (fun c => ?_) (fun c => ?_)
        · rw [if_pos c] at h
          exact T1_44_11t_124 H he F _ ih l0 l1 l2 l3 l4 l5 l6 h
        · rw [if_neg (by rw [c]; decide)] at h
          refine q_lr (k := 1) (i := 0) (q := (.aload_n 0, 1, 0, 0, .null)) rfl (fun _ => rfl) l0 ?_
          refine q_lr (k := 1) (i := 1) (q := (.aload_n 1, 1, 0, 0, .null)) rfl (fun _ => rfl) l1 ?_
          obtain ⟨q96, h96, h⟩ := xbind h
          refine r_call (ix := 11) (as := []) (rest := [.ref 44]) (rv := some (.int q96.1)) (hp' := xW B q96.2) (pc := 96) rfl xr77 rfl rfl rfl (xkd H (by decide)) (Nat.le_of_ble_eq_true rfl) (Z77_11t H h96 (by omega)) (Nat.le_refl _) ?_
          refine q_lr (k := 1) (i := 0) (q := (.aload_n 0, 1, 0, 0, .null)) rfl (fun _ => rfl) l0 ?_
          refine r_gr (c := 47) H (pc := 100) rfl (by decide) (by decide) ?_
          refine q_li (k := 2) (i := 6) (q := (.iload 6, 2, 0, 0, .null)) rfl (fun _ => rfl) l6 ?_
          obtain ⟨c2, h⟩ := xif h
          refine q_al (n := 64) (v := (q96.2.1 47 (v6 : Int32).toNatClampNeg)) H (pc := 105) rfl (by decide) c2 rfl ?_
          refine q_li (k := 2) (i := 6) (q := (.iload 6, 2, 0, 0, .null)) rfl (fun _ => rfl) l6 ?_
          refine q_li (k := 2) (i := 4) (q := (.iload 4, 2, 0, 0, .null)) rfl (fun _ => rfl) l4 ?_
          refine r_s (fr' := (111, lv, [.int (v6 ^^^ v4), .int (q96.2.1 47 (v6 : Int32).toNatClampNeg), .int q96.1, .ref 44])) (hp' := xW B q96.2) (q := (.ixor, 1, 0, 0, .null)) rfl (fun _ => rfl) (Nat.le_refl _) ?_
          obtain ⟨q111, h111, h⟩ := xbind h
          refine r_callS (as := [.int (v6 ^^^ v4)]) (rest := [.int (q96.2.1 47 (v6 : Int32).toNatClampNeg), .int q96.1, .ref 44]) (rv := some (.int q111.1)) (hp' := xW B q111.2) (pc := 111) rfl xr280 rfl rfl rfl (Nat.le_of_ble_eq_true rfl) (Z280 H h111 (by omega)) (Nat.le_refl _) ?_
          obtain ⟨q114, h114, h⟩ := xbind h
          refine r_call (ix := 44) (as := [.int q96.1, .int (q96.2.1 47 (v6 : Int32).toNatClampNeg), .int q111.1]) (rest := []) (rv := none) (hp' := xW B q114.2) (pc := 114) rfl xr2 rfl rfl rfl (xkd H (by decide)) (Nat.le_of_ble_eq_true rfl) (Z2_44 H h114 (by omega)) (Nat.le_refl _) ?_
          refine q_lr (k := 1) (i := 0) (q := (.aload_n 0, 1, 0, 0, .null)) rfl (fun _ => rfl) l0 ?_
          refine q_lr (k := 1) (i := 1) (q := (.aload_n 1, 1, 0, 0, .null)) rfl (fun _ => rfl) l1 ?_
          refine q_li (k := 2) (i := 6) (q := (.iload 6, 2, 0, 0, .null)) rfl (fun _ => rfl) l6 ?_
          obtain ⟨q121, h121, h⟩ := xbind h
          refine r_call (ix := 44) (as := [.ref 11, .int v6]) (rest := []) (rv := none) (hp' := xW B q121.2) (pc := 121) rfl xr3 rfl rfl rfl (xkd H (by decide)) (Nat.le_of_ble_eq_true rfl) (Z3_44_11t H h121 (by omega)) (Nat.le_refl _) ?_
          exact T1_44_11t_124 H he F _ ih l0 l1 l2 l3 l4 l5 l6 h
def D1_44_11t (F : Nat) (v2 : Int32) (m : xS) : Option (Unit × xS) :=
  (D291_45 F (-1) m).bind fun q5 =>
    (D291_46 F (-1) q5.2).bind fun q13 =>
      (D291_47 F 0 q13.2).bind fun q21 =>
        (D87_11t F v2 3 q21.2).bind fun q27 =>
          (D87_11t F v2 0 q27.2).bind fun q38 =>
            if xib ((1 <<< (q27.1 &&& 31)) ||| (1 <<< (q38.1 &&& 31))) 64 = true then
              (D77_11t F (xu q38.2 47 (((1 <<< (q27.1 &&& 31)) ||| (1 <<< (q38.1 &&& 31))) : Int32).toNatClampNeg (1 <<< (q27.1 &&& 31)))).bind fun q57 =>
                D1_44_11t_67 F F v2 q27.1 ((1 <<< (q27.1 &&& 31)) ||| (1 <<< (q38.1 &&& 31))) (1 <<< (q57.1 &&& 31)) ((1 <<< (q27.1 &&& 31)) ||| (1 <<< (q38.1 &&& 31))) q57.2
            else none
set_option maxRecDepth 20000 in
theorem T1_44_11t {B : zHp} (H : yH0 B) {e : Nat} (he : 3 ≤ e + 1) (F : Nat) {v2 : Int32} {lv : List (Nat × Value)} {m : xS} {x : Unit × xS} (l0 : zld lv 0 = some (.ref 44)) (l1 : zld lv 1 = some (.ref 11)) (l2 : zld lv 2 = some (.int v2)) (h : D1_44_11t F v2 m = some x) : zR none e 7 none zc1 (0, lv, []) (xW B m) (none, xW B x.2) := by
  unfold D1_44_11t at h
  refine q_lr (k := 1) (i := 0) (q := (.aload_n 0, 1, 0, 0, .null)) rfl (fun _ => rfl) l0 ?_
  refine r_gr (c := 45) H (pc := 1) rfl (by decide) (by decide) ?_
  refine r_s (fr' := (5, lv, [.int (-1), .ref 45])) (hp' := xW B m) (q := (.iconst (-1), 1, 0, 0, .null)) rfl (fun _ => rfl) (Nat.le_refl _) ?_
  obtain ⟨q5, h5, h⟩ := xbind h
  refine r_callS (as := [.ref 45, .int (-1)]) (rest := []) (rv := none) (hp' := xW B q5.2) (pc := 5) rfl xr291 rfl rfl rfl (Nat.le_of_ble_eq_true rfl) (Z291_45 H h5 (by omega)) (Nat.le_refl _) ?_
  refine q_lr (k := 1) (i := 0) (q := (.aload_n 0, 1, 0, 0, .null)) rfl (fun _ => rfl) l0 ?_
  refine r_gr (c := 46) H (pc := 9) rfl (by decide) (by decide) ?_
  refine r_s (fr' := (13, lv, [.int (-1), .ref 46])) (hp' := xW B q5.2) (q := (.iconst (-1), 1, 0, 0, .null)) rfl (fun _ => rfl) (Nat.le_refl _) ?_
  obtain ⟨q13, h13, h⟩ := xbind h
  refine r_callS (as := [.ref 46, .int (-1)]) (rest := []) (rv := none) (hp' := xW B q13.2) (pc := 13) rfl xr291 rfl rfl rfl (Nat.le_of_ble_eq_true rfl) (Z291_46 H h13 (by omega)) (Nat.le_refl _) ?_
  refine q_lr (k := 1) (i := 0) (q := (.aload_n 0, 1, 0, 0, .null)) rfl (fun _ => rfl) l0 ?_
  refine r_gr (c := 47) H (pc := 17) rfl (by decide) (by decide) ?_
  refine r_s (fr' := (21, lv, [.int 0, .ref 47])) (hp' := xW B q13.2) (q := (.iconst 0, 1, 0, 0, .null)) rfl (fun _ => rfl) (Nat.le_refl _) ?_
  obtain ⟨q21, h21, h⟩ := xbind h
  refine r_callS (as := [.ref 47, .int 0]) (rest := []) (rv := none) (hp' := xW B q21.2) (pc := 21) rfl xr291 rfl rfl rfl (Nat.le_of_ble_eq_true rfl) (Z291_47 H h21 (by omega)) (Nat.le_refl _) ?_
  refine q_lr (k := 1) (i := 1) (q := (.aload_n 1, 1, 0, 0, .null)) rfl (fun _ => rfl) l1 ?_
  refine q_li (k := 1) (i := 2) (q := (.iload_n 2, 1, 0, 0, .null)) rfl (fun _ => rfl) l2 ?_
  refine r_s (fr' := (27, lv, [.int 3, .int v2, .ref 11])) (hp' := xW B q21.2) (q := (.iconst 3, 1, 0, 0, .null)) rfl (fun _ => rfl) (Nat.le_refl _) ?_
  obtain ⟨q27, h27, h⟩ := xbind h
  refine r_call (ix := 11) (as := [.int v2, .int 3]) (rest := []) (rv := some (.int q27.1)) (hp' := xW B q27.2) (pc := 27) rfl xr87 rfl rfl rfl (xkd H (by decide)) (Nat.le_of_ble_eq_true rfl) (Z87_11t H h27 (by omega)) (Nat.le_refl _) ?_
  refine q_si (k := 1) (i := 3) (q := (.istore_n 3, 1, 0, 0, .null)) rfl (fun _ => rfl) (by decide) ?_
  have l0_1 : zld (zs1 lv 3 (.int q27.1)) 0 = some (.ref 44) := x_o1 l0 rfl rfl
  have l1_1 : zld (zs1 lv 3 (.int q27.1)) 1 = some (.ref 11) := x_o1 l1 rfl rfl
  have l2_1 : zld (zs1 lv 3 (.int q27.1)) 2 = some (.int v2) := x_o1 l2 rfl rfl
  have l3_1 : zld (zs1 lv 3 (.int q27.1)) 3 = some (.int q27.1) := zs1_ld _ _ _
  generalize (zs1 lv 3 (.int q27.1)) = lv1 at *
  refine r_s (fr' := (32, lv1, [.int 1])) (hp' := xW B q27.2) (q := (.iconst 1, 1, 0, 0, .null)) rfl (fun _ => rfl) (Nat.le_refl _) ?_
  refine q_li (k := 1) (i := 3) (q := (.iload_n 3, 1, 0, 0, .null)) rfl (fun _ => rfl) l3_1 ?_
  refine r_s (fr' := (34, lv1, [.int (1 <<< (q27.1 &&& 31))])) (hp' := xW B q27.2) (q := (.ishl, 1, 0, 0, .null)) rfl (fun _ => rfl) (Nat.le_refl _) ?_
  refine r_s (fr' := (35, lv1, [.int 1, .int (1 <<< (q27.1 &&& 31))])) (hp' := xW B q27.2) (q := (.iconst 1, 1, 0, 0, .null)) rfl (fun _ => rfl) (Nat.le_refl _) ?_
  refine q_lr (k := 1) (i := 1) (q := (.aload_n 1, 1, 0, 0, .null)) rfl (fun _ => rfl) l1_1 ?_
  refine q_li (k := 1) (i := 2) (q := (.iload_n 2, 1, 0, 0, .null)) rfl (fun _ => rfl) l2_1 ?_
  refine r_s (fr' := (38, lv1, [.int 0, .int v2, .ref 11, .int 1, .int (1 <<< (q27.1 &&& 31))])) (hp' := xW B q27.2) (q := (.iconst 0, 1, 0, 0, .null)) rfl (fun _ => rfl) (Nat.le_refl _) ?_
  obtain ⟨q38, h38, h⟩ := xbind h
  refine r_call (ix := 11) (as := [.int v2, .int 0]) (rest := [.int 1, .int (1 <<< (q27.1 &&& 31))]) (rv := some (.int q38.1)) (hp' := xW B q38.2) (pc := 38) rfl xr87 rfl rfl rfl (xkd H (by decide)) (Nat.le_of_ble_eq_true rfl) (Z87_11t H h38 (by omega)) (Nat.le_refl _) ?_
  refine r_s (fr' := (42, lv1, [.int (1 <<< (q38.1 &&& 31)), .int (1 <<< (q27.1 &&& 31))])) (hp' := xW B q38.2) (q := (.ishl, 1, 0, 0, .null)) rfl (fun _ => rfl) (Nat.le_refl _) ?_
  refine r_s (fr' := (43, lv1, [.int ((1 <<< (q27.1 &&& 31)) ||| (1 <<< (q38.1 &&& 31)))])) (hp' := xW B q38.2) (q := (.ior, 1, 0, 0, .null)) rfl (fun _ => rfl) (Nat.le_refl _) ?_
  refine q_si (k := 2) (i := 4) (q := (.istore 4, 2, 0, 0, .null)) rfl (fun _ => rfl) (by decide) ?_
  have l0_2 : zld (zs1 lv1 4 (.int ((1 <<< (q27.1 &&& 31)) ||| (1 <<< (q38.1 &&& 31))))) 0 = some (.ref 44) := x_o1 l0_1 rfl rfl
  have l1_2 : zld (zs1 lv1 4 (.int ((1 <<< (q27.1 &&& 31)) ||| (1 <<< (q38.1 &&& 31))))) 1 = some (.ref 11) := x_o1 l1_1 rfl rfl
  have l2_2 : zld (zs1 lv1 4 (.int ((1 <<< (q27.1 &&& 31)) ||| (1 <<< (q38.1 &&& 31))))) 2 = some (.int v2) := x_o1 l2_1 rfl rfl
  have l3_2 : zld (zs1 lv1 4 (.int ((1 <<< (q27.1 &&& 31)) ||| (1 <<< (q38.1 &&& 31))))) 3 = some (.int q27.1) := x_o1 l3_1 rfl rfl
  have l4_2 : zld (zs1 lv1 4 (.int ((1 <<< (q27.1 &&& 31)) ||| (1 <<< (q38.1 &&& 31))))) 4 = some (.int ((1 <<< (q27.1 &&& 31)) ||| (1 <<< (q38.1 &&& 31)))) := zs1_ld _ _ _
  generalize (zs1 lv1 4 (.int ((1 <<< (q27.1 &&& 31)) ||| (1 <<< (q38.1 &&& 31))))) = lv2 at *
  refine q_lr (k := 1) (i := 0) (q := (.aload_n 0, 1, 0, 0, .null)) rfl (fun _ => rfl) l0_2 ?_
  refine r_gr (c := 47) H (pc := 46) rfl (by decide) (by decide) ?_
  refine q_li (k := 2) (i := 4) (q := (.iload 4, 2, 0, 0, .null)) rfl (fun _ => rfl) l4_2 ?_
  refine r_s (fr' := (52, lv2, [.int 1, .int ((1 <<< (q27.1 &&& 31)) ||| (1 <<< (q38.1 &&& 31))), .ref 47])) (hp' := xW B q38.2) (q := (.iconst 1, 1, 0, 0, .null)) rfl (fun _ => rfl) (Nat.le_refl _) ?_
  refine q_li (k := 1) (i := 3) (q := (.iload_n 3, 1, 0, 0, .null)) rfl (fun _ => rfl) l3_2 ?_
  refine r_s (fr' := (54, lv2, [.int (1 <<< (q27.1 &&& 31)), .int ((1 <<< (q27.1 &&& 31)) ||| (1 <<< (q38.1 &&& 31))), .ref 47])) (hp' := xW B q38.2) (q := (.ishl, 1, 0, 0, .null)) rfl (fun _ => rfl) (Nat.le_refl _) ?_
  obtain ⟨c3, h⟩ := xif h
  refine q_as (n := 64) (s2 := (xu q38.2 47 (((1 <<< (q27.1 &&& 31)) ||| (1 <<< (q38.1 &&& 31))) : Int32).toNatClampNeg (1 <<< (q27.1 &&& 31)))) H (pc := 54) rfl (by decide) c3 rfl ?_
  refine r_s (fr' := (56, lv2, [.int 1])) (hp' := xW B (xu q38.2 47 (((1 <<< (q27.1 &&& 31)) ||| (1 <<< (q38.1 &&& 31))) : Int32).toNatClampNeg (1 <<< (q27.1 &&& 31)))) (q := (.iconst 1, 1, 0, 0, .null)) rfl (fun _ => rfl) (Nat.le_refl _) ?_
  refine q_lr (k := 1) (i := 1) (q := (.aload_n 1, 1, 0, 0, .null)) rfl (fun _ => rfl) l1_2 ?_
  obtain ⟨q57, h57, h⟩ := xbind h
  refine r_call (ix := 11) (as := []) (rest := [.int 1]) (rv := some (.int q57.1)) (hp' := xW B q57.2) (pc := 57) rfl xr77 rfl rfl rfl (xkd H (by decide)) (Nat.le_of_ble_eq_true rfl) (Z77_11t H h57 (by omega)) (Nat.le_refl _) ?_
  refine r_s (fr' := (61, lv2, [.int (1 <<< (q57.1 &&& 31))])) (hp' := xW B q57.2) (q := (.ishl, 1, 0, 0, .null)) rfl (fun _ => rfl) (Nat.le_refl _) ?_
  refine q_si (k := 2) (i := 5) (q := (.istore 5, 2, 0, 0, .null)) rfl (fun _ => rfl) (by decide) ?_
  have l0_4 : zld (zs1 lv2 5 (.int (1 <<< (q57.1 &&& 31)))) 0 = some (.ref 44) := x_o1 l0_2 rfl rfl
  have l1_4 : zld (zs1 lv2 5 (.int (1 <<< (q57.1 &&& 31)))) 1 = some (.ref 11) := x_o1 l1_2 rfl rfl
  have l2_4 : zld (zs1 lv2 5 (.int (1 <<< (q57.1 &&& 31)))) 2 = some (.int v2) := x_o1 l2_2 rfl rfl
  have l3_4 : zld (zs1 lv2 5 (.int (1 <<< (q57.1 &&& 31)))) 3 = some (.int q27.1) := x_o1 l3_2 rfl rfl
  have l4_4 : zld (zs1 lv2 5 (.int (1 <<< (q57.1 &&& 31)))) 4 = some (.int ((1 <<< (q27.1 &&& 31)) ||| (1 <<< (q38.1 &&& 31)))) := x_o1 l4_2 rfl rfl
  have l5_4 : zld (zs1 lv2 5 (.int (1 <<< (q57.1 &&& 31)))) 5 = some (.int (1 <<< (q57.1 &&& 31))) := zs1_ld _ _ _
  generalize (zs1 lv2 5 (.int (1 <<< (q57.1 &&& 31)))) = lv4 at *
  refine q_li (k := 2) (i := 4) (q := (.iload 4, 2, 0, 0, .null)) rfl (fun _ => rfl) l4_4 ?_
  refine q_si (k := 2) (i := 6) (q := (.istore 6, 2, 0, 0, .null)) rfl (fun _ => rfl) (by decide) ?_
  have l0_5 : zld (zs1 lv4 6 (.int ((1 <<< (q27.1 &&& 31)) ||| (1 <<< (q38.1 &&& 31))))) 0 = some (.ref 44) := x_o1 l0_4 rfl rfl
  have l1_5 : zld (zs1 lv4 6 (.int ((1 <<< (q27.1 &&& 31)) ||| (1 <<< (q38.1 &&& 31))))) 1 = some (.ref 11) := x_o1 l1_4 rfl rfl
  have l2_5 : zld (zs1 lv4 6 (.int ((1 <<< (q27.1 &&& 31)) ||| (1 <<< (q38.1 &&& 31))))) 2 = some (.int v2) := x_o1 l2_4 rfl rfl
  have l3_5 : zld (zs1 lv4 6 (.int ((1 <<< (q27.1 &&& 31)) ||| (1 <<< (q38.1 &&& 31))))) 3 = some (.int q27.1) := x_o1 l3_4 rfl rfl
  have l4_5 : zld (zs1 lv4 6 (.int ((1 <<< (q27.1 &&& 31)) ||| (1 <<< (q38.1 &&& 31))))) 4 = some (.int ((1 <<< (q27.1 &&& 31)) ||| (1 <<< (q38.1 &&& 31)))) := x_o1 l4_4 rfl rfl
  have l5_5 : zld (zs1 lv4 6 (.int ((1 <<< (q27.1 &&& 31)) ||| (1 <<< (q38.1 &&& 31))))) 5 = some (.int (1 <<< (q57.1 &&& 31))) := x_o1 l5_4 rfl rfl
  have l6_5 : zld (zs1 lv4 6 (.int ((1 <<< (q27.1 &&& 31)) ||| (1 <<< (q38.1 &&& 31))))) 6 = some (.int ((1 <<< (q27.1 &&& 31)) ||| (1 <<< (q38.1 &&& 31)))) := zs1_ld _ _ _
  generalize (zs1 lv4 6 (.int ((1 <<< (q27.1 &&& 31)) ||| (1 <<< (q38.1 &&& 31))))) = lv5 at *
  exact T1_44_11t_67 H he F F l0_5 l1_5 l2_5 l3_5 l4_5 l5_5 l6_5 h
set_option maxRecDepth 20000 in
theorem Z1_44_11t {B : zHp} (H : yH0 B) {F : Nat} {a2 : Int32} {m : xS} {x : Unit × xS} (h : D1_44_11t F a2 m = some x) {d : Nat} (hd : 3 ≤ d) : zCan d 1 [.ref 44, .ref 11, .int a2] (xW B m) (none, xW B x.2) := by
  obtain ⟨e, rfl⟩ : ∃ e, d = e + 1 := ⟨d - 1, by omega⟩
  refine zCan_body (nL := 7) (rt := none) (cd := zc1) (xg1) ⟨Nat.le_of_ble_eq_true rfl, by decide⟩ (Nat.le_refl _) ?_
  exact T1_44_11t H hd F rfl rfl rfl h
/-- LentTools$Chains.canGet -/
def D4_44_11t_53 (F : Nat) (g3 : Int32 → Int32 → Int32 → xS → Option (Int32 × xS)) (v2 : Int32) (v3 : Int32) (v4 : Int32) (m : xS) : Option (Int32 × xS) :=
  g3 v2 v3 (v4 + Int32.ofInt 1) m
set_option maxRecDepth 20000 in
theorem T4_44_11t_53 {B : zHp} (H : yH0 B) {e : Nat} (he : 4 ≤ e + 1) (F : Nat) (g3 : Int32 → Int32 → Int32 → xS → Option (Int32 × xS)) (k3 : ∀ {v2 : Int32} {v3 : Int32} {v4 : Int32} {lv : List (Nat × Value)} {m : xS} {x : Int32 × xS}, zld lv 0 = some (.ref 44) → zld lv 1 = some (.ref 11) → zld lv 2 = some (.int v2) → zld lv 3 = some (.int v3) → zld lv 4 = some (.int v4) → g3 v2 v3 v4 m = some x → zR none e 5 (some .boolean) zc4 (3, lv, []) (xW B m) (some (.int x.1), xW B x.2)) {v2 : Int32} {v3 : Int32} {v4 : Int32} {lv : List (Nat × Value)} {m : xS} {x : Int32 × xS} (l0 : zld lv 0 = some (.ref 44)) (l1 : zld lv 1 = some (.ref 11)) (l2 : zld lv 2 = some (.int v2)) (l3 : zld lv 3 = some (.int v3)) (l4 : zld lv 4 = some (.int v4)) (h : D4_44_11t_53 F g3 v2 v3 v4 m = some x) : zR none e 5 (some .boolean) zc4 (53, lv, []) (xW B m) (some (.int x.1), xW B x.2) := by
  unfold D4_44_11t_53 at h
  refine q_inc (i := 4) (n := 1) (q := (.iinc 4 1, 3, 0, 0, .null)) rfl (fun _ => rfl) l4 (by decide) ?_
  have l0_1 : zld (zs1 lv 4 (.int (v4 + Int32.ofInt 1))) 0 = some (.ref 44) := x_o1 l0 rfl rfl
  have l1_1 : zld (zs1 lv 4 (.int (v4 + Int32.ofInt 1))) 1 = some (.ref 11) := x_o1 l1 rfl rfl
  have l2_1 : zld (zs1 lv 4 (.int (v4 + Int32.ofInt 1))) 2 = some (.int v2) := x_o1 l2 rfl rfl
  have l3_1 : zld (zs1 lv 4 (.int (v4 + Int32.ofInt 1))) 3 = some (.int v3) := x_o1 l3 rfl rfl
  have l4_1 : zld (zs1 lv 4 (.int (v4 + Int32.ofInt 1))) 4 = some (.int (v4 + Int32.ofInt 1)) := zs1_ld _ _ _
  generalize (zs1 lv 4 (.int (v4 + Int32.ofInt 1))) = lv1 at *
  refine r_s (fr' := (3, lv1, [])) (hp' := xW B m) (q := (.goto (-53), 3, 3, 0, .null)) rfl (fun _ => rfl) (Nat.le_refl _) ?_
  exact k3 l0_1 l1_1 l2_1 l3_1 l4_1 h
def D4_44_11t_3 (F : Nat) : Nat → Int32 → Int32 → Int32 → xS → Option (Int32 × xS)
  | 0, _, _, _, _ => none
  | f + 1, v2, v3, v4, m =>
    (D79_11t F m).bind fun q6 =>
      if zcmp .ge v4 q6.1 = true then
        some (0, q6.2)
      else
        (D87_11t F v4 1 q6.2).bind fun q16 =>
          if zcmp .ne q16.1 v3 = true then
            D4_44_11t_53 F (D4_44_11t_3 F f) v2 v3 v4 q16.2
          else
            (D87_11t F v4 0 q16.2).bind fun q27 =>
              if zcmp .eq q27.1 v2 = true then
                D4_44_11t_53 F (D4_44_11t_3 F f) v2 v3 v4 q27.2
              else
                (D1_44_11t F v4 q27.2).bind fun q38 =>
                  if xib v2 6 = true then
                    if zcmp .eq (q38.2.1 45 (v2 : Int32).toNatClampNeg) (-1) = true then
                      D4_44_11t_53 F (D4_44_11t_3 F f) v2 v3 v4 q38.2
                    else
                      some (1, q38.2)
                  else none
set_option maxRecDepth 20000 in
theorem T4_44_11t_3 {B : zHp} (H : yH0 B) {e : Nat} (he : 4 ≤ e + 1) (F : Nat) : ∀ (f : Nat) {v2 : Int32} {v3 : Int32} {v4 : Int32} {lv : List (Nat × Value)} {m : xS} {x : Int32 × xS}, zld lv 0 = some (.ref 44) → zld lv 1 = some (.ref 11) → zld lv 2 = some (.int v2) → zld lv 3 = some (.int v3) → zld lv 4 = some (.int v4) → D4_44_11t_3 F f v2 v3 v4 m = some x → zR none e 5 (some .boolean) zc4 (3, lv, []) (xW B m) (some (.int x.1), xW B x.2) := by
  intro f
  induction f with
  | zero => intro v2 v3 v4 lv m x l0 l1 l2 l3 l4 h; cases h
  | succ f ih =>
    intro v2 v3 v4 lv m x l0 l1 l2 l3 l4 h
    unfold D4_44_11t_3 at h
    refine q_li (k := 2) (i := 4) (q := (.iload 4, 2, 0, 0, .null)) rfl (fun _ => rfl) l4 ?_
    refine q_lr (k := 1) (i := 1) (q := (.aload_n 1, 1, 0, 0, .null)) rfl (fun _ => rfl) l1 ?_
    obtain ⟨q6, h6, h⟩ := xbind h
    refine r_call (ix := 11) (as := []) (rest := [.int v4]) (rv := some (.int q6.1)) (hp' := xW B q6.2) (pc := 6) rfl xr79 rfl rfl rfl (xkd H (by decide)) (Nat.le_of_ble_eq_true rfl) (Z79_11t H h6 (by omega)) (Nat.le_refl _) ?_
    refine r_ifc (len := 3) (a := 59) (b := 0) (v0 := .null) (cn := .ge) (off := 50) rfl (fun c => ?_) (fun c => ?_)
    · rw [if_pos c] at h
      refine r_s (fr' := (60, lv, [.int 0])) (hp' := xW B q6.2) (q := (.iconst 0, 1, 0, 0, .null)) rfl (fun _ => rfl) (Nat.le_refl _) ?_
      obtain rfl := Option.some.inj h
      exact q_ri (q := (.ireturn, 1, 0, 0, .null)) rfl (fun _ => rfl) rfl rfl
    · rw [if_neg (by rw [c]; decide)] at h
      refine q_lr (k := 1) (i := 1) (q := (.aload_n 1, 1, 0, 0, .null)) rfl (fun _ => rfl) l1 ?_
      refine q_li (k := 2) (i := 4) (q := (.iload 4, 2, 0, 0, .null)) rfl (fun _ => rfl) l4 ?_
      refine r_s (fr' := (16, lv, [.int 1, .int v4, .ref 11])) (hp' := xW B q6.2) (q := (.iconst 1, 1, 0, 0, .null)) rfl (fun _ => rfl) (Nat.le_refl _) ?_
      obtain ⟨q16, h16, h⟩ := xbind h
      refine r_call (ix := 11) (as := [.int v4, .int 1]) (rest := []) (rv := some (.int q16.1)) (hp' := xW B q16.2) (pc := 16) rfl xr87 rfl rfl rfl (xkd H (by decide)) (Nat.le_of_ble_eq_true rfl) (Z87_11t H h16 (by omega)) (Nat.le_refl _) ?_
      refine q_li (k := 1) (i := 3) (q := (.iload_n 3, 1, 0, 0, .null)) rfl (fun _ => rfl) l3 ?_
      refine r_ifc (len := 3) (a := 53) (b := 0) (v0 := .null) (cn := .ne) (off := 33) rfl (fun c => ?_) (fun c => ?_)
      · rw [if_pos c] at h
        exact T4_44_11t_53 H he F _ ih l0 l1 l2 l3 l4 h
      · rw [if_neg (by rw [c]; decide)] at h
        refine q_lr (k := 1) (i := 1) (q := (.aload_n 1, 1, 0, 0, .null)) rfl (fun _ => rfl) l1 ?_
        refine q_li (k := 2) (i := 4) (q := (.iload 4, 2, 0, 0, .null)) rfl (fun _ => rfl) l4 ?_
        refine r_s (fr' := (27, lv, [.int 0, .int v4, .ref 11])) (hp' := xW B q16.2) (q := (.iconst 0, 1, 0, 0, .null)) rfl (fun _ => rfl) (Nat.le_refl _) ?_
        obtain ⟨q27, h27, h⟩ := xbind h
        refine r_call (ix := 11) (as := [.int v4, .int 0]) (rest := []) (rv := some (.int q27.1)) (hp' := xW B q27.2) (pc := 27) rfl xr87 rfl rfl rfl (xkd H (by decide)) (Nat.le_of_ble_eq_true rfl) (Z87_11t H h27 (by omega)) (Nat.le_refl _) ?_
        refine q_li (k := 1) (i := 2) (q := (.iload_n 2, 1, 0, 0, .null)) rfl (fun _ => rfl) l2 ?_
        refine r_ifc (len := 3) (a := 53) (b := 0) (v0 := .null) (cn := .eq) (off := 22) rfl (fun c => ?_) (fun c => ?_)
        · rw [if_pos c] at h
          exact T4_44_11t_53 H he F _ ih l0 l1 l2 l3 l4 h
        · rw [if_neg (by rw [c]; decide)] at h
          refine q_lr (k := 1) (i := 0) (q := (.aload_n 0, 1, 0, 0, .null)) rfl (fun _ => rfl) l0 ?_
          refine q_lr (k := 1) (i := 1) (q := (.aload_n 1, 1, 0, 0, .null)) rfl (fun _ => rfl) l1 ?_
          refine q_li (k := 2) (i := 4) (q := (.iload 4, 2, 0, 0, .null)) rfl (fun _ => rfl) l4 ?_
          obtain ⟨q38, h38, h⟩ := xbind h
          refine r_call (ix := 44) (as := [.ref 11, .int v4]) (rest := []) (rv := none) (hp' := xW B q38.2) (pc := 38) rfl xr1 rfl rfl rfl (xkd H (by decide)) (Nat.le_of_ble_eq_true rfl) (Z1_44_11t H h38 (by omega)) (Nat.le_refl _) ?_
          refine q_lr (k := 1) (i := 0) (q := (.aload_n 0, 1, 0, 0, .null)) rfl (fun _ => rfl) l0 ?_
          refine r_gr (c := 45) H (pc := 42) rfl (by decide) (by decide) ?_
          refine q_li (k := 1) (i := 2) (q := (.iload_n 2, 1, 0, 0, .null)) rfl (fun _ => rfl) l2 ?_
          obtain ⟨c1, h⟩ := xif h
          refine q_al (n := 6) (v := (q38.2.1 45 (v2 : Int32).toNatClampNeg)) H (pc := 46) rfl (by decide) c1 rfl ?_
          refine r_s (fr' := (48, lv, [.int (-1), .int (q38.2.1 45 (v2 : Int32).toNatClampNeg)])) (hp' := xW B q38.2) (q := (.iconst (-1), 1, 0, 0, .null)) rfl (fun _ => rfl) (Nat.le_refl _) ?_
          refine r_ifc (len := 3) (a := 53) (b := 0) (v0 := .null) (cn := .eq) (off := 5) rfl (fun c => ?_) (fun c => ?_)
          · rw [if_pos c] at h
            exact T4_44_11t_53 H he F _ ih l0 l1 l2 l3 l4 h
          · rw [if_neg (by rw [c]; decide)] at h
            refine r_s (fr' := (52, lv, [.int 1])) (hp' := xW B q38.2) (q := (.iconst 1, 1, 0, 0, .null)) rfl (fun _ => rfl) (Nat.le_refl _) ?_
            obtain rfl := Option.some.inj h
            exact q_ri (q := (.ireturn, 1, 0, 0, .null)) rfl (fun _ => rfl) rfl rfl
def D4_44_11t (F : Nat) (v2 : Int32) (v3 : Int32) (m : xS) : Option (Int32 × xS) :=
  D4_44_11t_3 F F v2 v3 0 m
set_option maxRecDepth 20000 in
theorem T4_44_11t {B : zHp} (H : yH0 B) {e : Nat} (he : 4 ≤ e + 1) (F : Nat) {v2 : Int32} {v3 : Int32} {lv : List (Nat × Value)} {m : xS} {x : Int32 × xS} (l0 : zld lv 0 = some (.ref 44)) (l1 : zld lv 1 = some (.ref 11)) (l2 : zld lv 2 = some (.int v2)) (l3 : zld lv 3 = some (.int v3)) (h : D4_44_11t F v2 v3 m = some x) : zR none e 5 (some .boolean) zc4 (0, lv, []) (xW B m) (some (.int x.1), xW B x.2) := by
  unfold D4_44_11t at h
  refine r_s (fr' := (1, lv, [.int 0])) (hp' := xW B m) (q := (.iconst 0, 1, 0, 0, .null)) rfl (fun _ => rfl) (Nat.le_refl _) ?_
  refine q_si (k := 2) (i := 4) (q := (.istore 4, 2, 0, 0, .null)) rfl (fun _ => rfl) (by decide) ?_
  have l0_1 : zld (zs1 lv 4 (.int 0)) 0 = some (.ref 44) := x_o1 l0 rfl rfl
  have l1_1 : zld (zs1 lv 4 (.int 0)) 1 = some (.ref 11) := x_o1 l1 rfl rfl
  have l2_1 : zld (zs1 lv 4 (.int 0)) 2 = some (.int v2) := x_o1 l2 rfl rfl
  have l3_1 : zld (zs1 lv 4 (.int 0)) 3 = some (.int v3) := x_o1 l3 rfl rfl
  have l4_1 : zld (zs1 lv 4 (.int 0)) 4 = some (.int 0) := zs1_ld _ _ _
  generalize (zs1 lv 4 (.int 0)) = lv1 at *
  exact T4_44_11t_3 H he F F l0_1 l1_1 l2_1 l3_1 l4_1 h
set_option maxRecDepth 20000 in
theorem Z4_44_11t {B : zHp} (H : yH0 B) {F : Nat} {a2 : Int32} {a3 : Int32} {m : xS} {x : Int32 × xS} (h : D4_44_11t F a2 a3 m = some x) {d : Nat} (hd : 4 ≤ d) : zCan d 4 [.ref 44, .ref 11, .int a2, .int a3] (xW B m) (some (.int x.1), xW B x.2) := by
  obtain ⟨e, rfl⟩ : ∃ e, d = e + 1 := ⟨d - 1, by omega⟩
  refine zCan_body (nL := 5) (rt := (some .boolean)) (cd := zc4) (xg4) ⟨Nat.le_of_ble_eq_true rfl, by decide⟩ (Nat.le_refl _) ?_
  exact T4_44_11t H hd F rfl rfl rfl rfl h
/-- LentTools.isSafe -/
def D151_0_56 (F : Nat) (g2 : Int32 → Int32 → Int32 → xS → Option (Int32 × xS)) (v1 : Int32) (v2 : Int32) (v3 : Int32) (m : xS) : Option (Int32 × xS) :=
  g2 v1 v2 (v3 + Int32.ofInt 1) m
set_option maxRecDepth 20000 in
theorem T151_0_56 {B : zHp} (H : yH0 B) {e : Nat} (he : 5 ≤ e + 1) (F : Nat) (g2 : Int32 → Int32 → Int32 → xS → Option (Int32 × xS)) (k2 : ∀ {v1 : Int32} {v2 : Int32} {v3 : Int32} {lv : List (Nat × Value)} {m : xS} {x : Int32 × xS}, zld lv 0 = some (.ref 0) → zld lv 1 = some (.int v1) → zld lv 2 = some (.int v2) → zld lv 3 = some (.int v3) → g2 v1 v2 v3 m = some x → zR none e 4 (some .boolean) zc151 (2, lv, []) (xW B m) (some (.int x.1), xW B x.2)) {v1 : Int32} {v2 : Int32} {v3 : Int32} {lv : List (Nat × Value)} {m : xS} {x : Int32 × xS} (l0 : zld lv 0 = some (.ref 0)) (l1 : zld lv 1 = some (.int v1)) (l2 : zld lv 2 = some (.int v2)) (l3 : zld lv 3 = some (.int v3)) (h : D151_0_56 F g2 v1 v2 v3 m = some x) : zR none e 4 (some .boolean) zc151 (56, lv, []) (xW B m) (some (.int x.1), xW B x.2) := by
  unfold D151_0_56 at h
  refine q_inc (i := 3) (n := 1) (q := (.iinc 3 1, 3, 0, 0, .null)) rfl (fun _ => rfl) l3 (by decide) ?_
  have l0_1 : zld (zs1 lv 3 (.int (v3 + Int32.ofInt 1))) 0 = some (.ref 0) := x_o1 l0 rfl rfl
  have l1_1 : zld (zs1 lv 3 (.int (v3 + Int32.ofInt 1))) 1 = some (.int v1) := x_o1 l1 rfl rfl
  have l2_1 : zld (zs1 lv 3 (.int (v3 + Int32.ofInt 1))) 2 = some (.int v2) := x_o1 l2 rfl rfl
  have l3_1 : zld (zs1 lv 3 (.int (v3 + Int32.ofInt 1))) 3 = some (.int (v3 + Int32.ofInt 1)) := zs1_ld _ _ _
  generalize (zs1 lv 3 (.int (v3 + Int32.ofInt 1))) = lv1 at *
  refine r_s (fr' := (2, lv1, [])) (hp' := xW B m) (q := (.goto (-57), 3, 2, 0, .null)) rfl (fun _ => rfl) (Nat.le_refl _) ?_
  exact k2 l0_1 l1_1 l2_1 l3_1 h
def D151_0_2 (F : Nat) : Nat → Int32 → Int32 → Int32 → xS → Option (Int32 × xS)
  | 0, _, _, _, _ => none
  | f + 1, v1, v2, v3, m =>
    (D77_9 F m).bind fun q7 =>
      if zcmp .ge v3 q7.1 = true then
        some (1, q7.2)
      else
        if zcmp .eq v3 v1 = true then
          D151_0_56 F (D151_0_2 F f) v1 v2 v3 q7.2
        else
          (D70_11t_9 F q7.2).bind fun q26 =>
            (D105_11t F v1 v3 q26.2).bind fun q35 =>
              (D4_44_11t F v1 v2 q35.2).bind fun q48 =>
                if zcmp .ne q48.1 0 = true then
                  D151_0_56 F (D151_0_2 F f) v1 v2 v3 q48.2
                else
                  some (0, q48.2)
set_option maxRecDepth 20000 in
theorem T151_0_2 {B : zHp} (H : yH0 B) {e : Nat} (he : 5 ≤ e + 1) (F : Nat) : ∀ (f : Nat) {v1 : Int32} {v2 : Int32} {v3 : Int32} {lv : List (Nat × Value)} {m : xS} {x : Int32 × xS}, zld lv 0 = some (.ref 0) → zld lv 1 = some (.int v1) → zld lv 2 = some (.int v2) → zld lv 3 = some (.int v3) → D151_0_2 F f v1 v2 v3 m = some x → zR none e 4 (some .boolean) zc151 (2, lv, []) (xW B m) (some (.int x.1), xW B x.2) := by
  intro f
  induction f with
  | zero => intro v1 v2 v3 lv m x l0 l1 l2 l3 h; cases h
  | succ f ih =>
    intro v1 v2 v3 lv m x l0 l1 l2 l3 h
    unfold D151_0_2 at h
    refine q_li (k := 1) (i := 3) (q := (.iload_n 3, 1, 0, 0, .null)) rfl (fun _ => rfl) l3 ?_
    refine q_lr (k := 1) (i := 0) (q := (.aload_n 0, 1, 0, 0, .null)) rfl (fun _ => rfl) l0 ?_
    refine r_gr (c := 9) H (pc := 4) rfl (by decide) (by decide) ?_
    obtain ⟨q7, h7, h⟩ := xbind h
    refine r_call (ix := 9) (as := []) (rest := [.int v3]) (rv := some (.int q7.1)) (hp' := xW B q7.2) (pc := 7) rfl xr77 rfl rfl rfl (xkd H (by decide)) (Nat.le_of_ble_eq_true rfl) (Z77_9 H h7 (by omega)) (Nat.le_refl _) ?_
    refine r_ifc (len := 3) (a := 62) (b := 0) (v0 := .null) (cn := .ge) (off := 52) rfl (fun c => ?_) (fun c => ?_)
    · rw [if_pos c] at h
      refine r_s (fr' := (63, lv, [.int 1])) (hp' := xW B q7.2) (q := (.iconst 1, 1, 0, 0, .null)) rfl (fun _ => rfl) (Nat.le_refl _) ?_
      obtain rfl := Option.some.inj h
      exact q_ri (q := (.ireturn, 1, 0, 0, .null)) rfl (fun _ => rfl) rfl rfl
    · rw [if_neg (by rw [c]; decide)] at h
      refine q_li (k := 1) (i := 3) (q := (.iload_n 3, 1, 0, 0, .null)) rfl (fun _ => rfl) l3 ?_
      refine q_li (k := 1) (i := 1) (q := (.iload_n 1, 1, 0, 0, .null)) rfl (fun _ => rfl) l1 ?_
      refine r_ifc (len := 3) (a := 56) (b := 0) (v0 := .null) (cn := .eq) (off := 41) rfl (fun c => ?_) (fun c => ?_)
      · rw [if_pos c] at h
        exact T151_0_56 H he F _ ih l0 l1 l2 l3 h
      · rw [if_neg (by rw [c]; decide)] at h
        refine q_lr (k := 1) (i := 0) (q := (.aload_n 0, 1, 0, 0, .null)) rfl (fun _ => rfl) l0 ?_
        refine r_gr (c := 11) H (pc := 19) rfl (by decide) (by decide) ?_
        refine q_lr (k := 1) (i := 0) (q := (.aload_n 0, 1, 0, 0, .null)) rfl (fun _ => rfl) l0 ?_
        refine r_gr (c := 9) H (pc := 23) rfl (by decide) (by decide) ?_
        obtain ⟨q26, h26, h⟩ := xbind h
        refine r_call (ix := 11) (as := [.ref 9]) (rest := []) (rv := none) (hp' := xW B q26.2) (pc := 26) rfl xr70 rfl rfl rfl (xkd H (by decide)) (Nat.le_of_ble_eq_true rfl) (Z70_11t_9 H h26 (by omega)) (Nat.le_refl _) ?_
        refine q_lr (k := 1) (i := 0) (q := (.aload_n 0, 1, 0, 0, .null)) rfl (fun _ => rfl) l0 ?_
        refine r_gr (c := 11) H (pc := 30) rfl (by decide) (by decide) ?_
        refine q_li (k := 1) (i := 1) (q := (.iload_n 1, 1, 0, 0, .null)) rfl (fun _ => rfl) l1 ?_
        refine q_li (k := 1) (i := 3) (q := (.iload_n 3, 1, 0, 0, .null)) rfl (fun _ => rfl) l3 ?_
        obtain ⟨q35, h35, h⟩ := xbind h
        refine r_call (ix := 11) (as := [.int v1, .int v3]) (rest := []) (rv := none) (hp' := xW B q35.2) (pc := 35) rfl xr105 rfl rfl rfl (xkd H (by decide)) (Nat.le_of_ble_eq_true rfl) (Z105_11t H h35 (by omega)) (Nat.le_refl _) ?_
        refine q_lr (k := 1) (i := 0) (q := (.aload_n 0, 1, 0, 0, .null)) rfl (fun _ => rfl) l0 ?_
        refine r_gr (c := 44) H (pc := 39) rfl (by decide) (by decide) ?_
        refine q_lr (k := 1) (i := 0) (q := (.aload_n 0, 1, 0, 0, .null)) rfl (fun _ => rfl) l0 ?_
        refine r_gr (c := 11) H (pc := 43) rfl (by decide) (by decide) ?_
        refine q_li (k := 1) (i := 1) (q := (.iload_n 1, 1, 0, 0, .null)) rfl (fun _ => rfl) l1 ?_
        refine q_li (k := 1) (i := 2) (q := (.iload_n 2, 1, 0, 0, .null)) rfl (fun _ => rfl) l2 ?_
        obtain ⟨q48, h48, h⟩ := xbind h
        refine r_call (ix := 44) (as := [.ref 11, .int v1, .int v2]) (rest := []) (rv := some (.int q48.1)) (hp' := xW B q48.2) (pc := 48) rfl xr4 rfl rfl rfl (xkd H (by decide)) (Nat.le_of_ble_eq_true rfl) (Z4_44_11t H h48 (by omega)) (Nat.le_refl _) ?_
        refine r_if (len := 3) (a := 56) (b := 0) (v0 := .null) (cn := .ne) (off := 5) rfl (fun c => ?_) (fun c => ?_)
        · rw [if_pos c] at h
          exact T151_0_56 H he F _ ih l0 l1 l2 l3 h
        · rw [if_neg (by rw [c]; decide)] at h
          refine r_s (fr' := (55, lv, [.int 0])) (hp' := xW B q48.2) (q := (.iconst 0, 1, 0, 0, .null)) rfl (fun _ => rfl) (Nat.le_refl _) ?_
          obtain rfl := Option.some.inj h
          exact q_ri (q := (.ireturn, 1, 0, 0, .null)) rfl (fun _ => rfl) rfl rfl
def D151_0 (F : Nat) (v1 : Int32) (v2 : Int32) (m : xS) : Option (Int32 × xS) :=
  D151_0_2 F F v1 v2 0 m
set_option maxRecDepth 20000 in
theorem T151_0 {B : zHp} (H : yH0 B) {e : Nat} (he : 5 ≤ e + 1) (F : Nat) {v1 : Int32} {v2 : Int32} {lv : List (Nat × Value)} {m : xS} {x : Int32 × xS} (l0 : zld lv 0 = some (.ref 0)) (l1 : zld lv 1 = some (.int v1)) (l2 : zld lv 2 = some (.int v2)) (h : D151_0 F v1 v2 m = some x) : zR none e 4 (some .boolean) zc151 (0, lv, []) (xW B m) (some (.int x.1), xW B x.2) := by
  unfold D151_0 at h
  refine r_s (fr' := (1, lv, [.int 0])) (hp' := xW B m) (q := (.iconst 0, 1, 0, 0, .null)) rfl (fun _ => rfl) (Nat.le_refl _) ?_
  refine q_si (k := 1) (i := 3) (q := (.istore_n 3, 1, 0, 0, .null)) rfl (fun _ => rfl) (by decide) ?_
  have l0_1 : zld (zs1 lv 3 (.int 0)) 0 = some (.ref 0) := x_o1 l0 rfl rfl
  have l1_1 : zld (zs1 lv 3 (.int 0)) 1 = some (.int v1) := x_o1 l1 rfl rfl
  have l2_1 : zld (zs1 lv 3 (.int 0)) 2 = some (.int v2) := x_o1 l2 rfl rfl
  have l3_1 : zld (zs1 lv 3 (.int 0)) 3 = some (.int 0) := zs1_ld _ _ _
  generalize (zs1 lv 3 (.int 0)) = lv1 at *
  exact T151_0_2 H he F F l0_1 l1_1 l2_1 l3_1 h
set_option maxRecDepth 20000 in
theorem Z151_0 {B : zHp} (H : yH0 B) {F : Nat} {a1 : Int32} {a2 : Int32} {m : xS} {x : Int32 × xS} (h : D151_0 F a1 a2 m = some x) {d : Nat} (hd : 5 ≤ d) : zCan d 151 [.ref 0, .int a1, .int a2] (xW B m) (some (.int x.1), xW B x.2) := by
  obtain ⟨e, rfl⟩ : ∃ e, d = e + 1 := ⟨d - 1, by omega⟩
  refine zCan_body (nL := 4) (rt := (some .boolean)) (cd := zc151) (xg151) ⟨Nat.le_of_ble_eq_true rfl, by decide⟩ (Nat.le_refl _) ?_
  exact T151_0 H hd F rfl rfl rfl h
/-- LentTools.safe -/
def D150_0_19 (F : Nat) (v1 : Int32) (m : xS) : Option (Int32 × xS) :=
  some ((-1), m)
set_option maxRecDepth 20000 in
theorem T150_0_19 {B : zHp} (H : yH0 B) {e : Nat} (he : 6 ≤ e + 1) (F : Nat) {v1 : Int32} {lv : List (Nat × Value)} {m : xS} {x : Int32 × xS} (l0 : zld lv 0 = some (.ref 0)) (l1 : zld lv 1 = some (.int v1)) (h : D150_0_19 F v1 m = some x) : zR none e 4 (some .int) zc150 (19, lv, []) (xW B m) (some (.int x.1), xW B x.2) := by
  unfold D150_0_19 at h
  refine r_s (fr' := (20, lv, [.int (-1)])) (hp' := xW B m) (q := (.iconst (-1), 1, 0, 0, .null)) rfl (fun _ => rfl) (Nat.le_refl _) ?_
  obtain rfl := Option.some.inj h
  exact q_ri (q := (.ireturn, 1, 0, 0, .null)) rfl (fun _ => rfl) rfl rfl
def D150_0_51 (F : Nat) (g25 : Int32 → Int32 → Int32 → xS → Option (Int32 × xS)) (v1 : Int32) (v2 : Int32) (v3 : Int32) (m : xS) : Option (Int32 × xS) :=
  g25 v1 v2 (v3 + Int32.ofInt 1) m
set_option maxRecDepth 20000 in
theorem T150_0_51 {B : zHp} (H : yH0 B) {e : Nat} (he : 6 ≤ e + 1) (F : Nat) (g25 : Int32 → Int32 → Int32 → xS → Option (Int32 × xS)) (k25 : ∀ {v1 : Int32} {v2 : Int32} {v3 : Int32} {lv : List (Nat × Value)} {m : xS} {x : Int32 × xS}, zld lv 0 = some (.ref 0) → zld lv 1 = some (.int v1) → zld lv 2 = some (.int v2) → zld lv 3 = some (.int v3) → g25 v1 v2 v3 m = some x → zR none e 4 (some .int) zc150 (25, lv, []) (xW B m) (some (.int x.1), xW B x.2)) {v1 : Int32} {v2 : Int32} {v3 : Int32} {lv : List (Nat × Value)} {m : xS} {x : Int32 × xS} (l0 : zld lv 0 = some (.ref 0)) (l1 : zld lv 1 = some (.int v1)) (l2 : zld lv 2 = some (.int v2)) (l3 : zld lv 3 = some (.int v3)) (h : D150_0_51 F g25 v1 v2 v3 m = some x) : zR none e 4 (some .int) zc150 (51, lv, []) (xW B m) (some (.int x.1), xW B x.2) := by
  unfold D150_0_51 at h
  refine q_inc (i := 3) (n := 1) (q := (.iinc 3 1, 3, 0, 0, .null)) rfl (fun _ => rfl) l3 (by decide) ?_
  have l0_1 : zld (zs1 lv 3 (.int (v3 + Int32.ofInt 1))) 0 = some (.ref 0) := x_o1 l0 rfl rfl
  have l1_1 : zld (zs1 lv 3 (.int (v3 + Int32.ofInt 1))) 1 = some (.int v1) := x_o1 l1 rfl rfl
  have l2_1 : zld (zs1 lv 3 (.int (v3 + Int32.ofInt 1))) 2 = some (.int v2) := x_o1 l2 rfl rfl
  have l3_1 : zld (zs1 lv 3 (.int (v3 + Int32.ofInt 1))) 3 = some (.int (v3 + Int32.ofInt 1)) := zs1_ld _ _ _
  generalize (zs1 lv 3 (.int (v3 + Int32.ofInt 1))) = lv1 at *
  refine r_s (fr' := (25, lv1, [])) (hp' := xW B m) (q := (.goto (-29), 3, 25, 0, .null)) rfl (fun _ => rfl) (Nat.le_refl _) ?_
  exact k25 l0_1 l1_1 l2_1 l3_1 h
def D150_0_25 (F : Nat) : Nat → Int32 → Int32 → Int32 → xS → Option (Int32 × xS)
  | 0, _, _, _, _ => none
  | f + 1, v1, v2, v3, m =>
    (D77_9 F m).bind fun q30 =>
      if zcmp .ge v3 q30.1 = true then
        some (v2, q30.2)
      else
        (D151_0 F v3 v1 q30.2).bind fun q39 =>
          if zcmp .eq q39.1 0 = true then
            D150_0_51 F (D150_0_25 F f) v1 v2 v3 q39.2
          else
            D150_0_51 F (D150_0_25 F f) v1 (v2 ||| (1 <<< (v3 &&& 31))) v3 q39.2
set_option maxRecDepth 20000 in
theorem T150_0_25 {B : zHp} (H : yH0 B) {e : Nat} (he : 6 ≤ e + 1) (F : Nat) : ∀ (f : Nat) {v1 : Int32} {v2 : Int32} {v3 : Int32} {lv : List (Nat × Value)} {m : xS} {x : Int32 × xS}, zld lv 0 = some (.ref 0) → zld lv 1 = some (.int v1) → zld lv 2 = some (.int v2) → zld lv 3 = some (.int v3) → D150_0_25 F f v1 v2 v3 m = some x → zR none e 4 (some .int) zc150 (25, lv, []) (xW B m) (some (.int x.1), xW B x.2) := by
  intro f
  induction f with
  | zero => intro v1 v2 v3 lv m x l0 l1 l2 l3 h; cases h
  | succ f ih =>
    intro v1 v2 v3 lv m x l0 l1 l2 l3 h
    unfold D150_0_25 at h
    refine q_li (k := 1) (i := 3) (q := (.iload_n 3, 1, 0, 0, .null)) rfl (fun _ => rfl) l3 ?_
    refine q_lr (k := 1) (i := 0) (q := (.aload_n 0, 1, 0, 0, .null)) rfl (fun _ => rfl) l0 ?_
    refine r_gr (c := 9) H (pc := 27) rfl (by decide) (by decide) ?_
    obtain ⟨q30, h30, h⟩ := xbind h
    refine r_call (ix := 9) (as := []) (rest := [.int v3]) (rv := some (.int q30.1)) (hp' := xW B q30.2) (pc := 30) rfl xr77 rfl rfl rfl (xkd H (by decide)) (Nat.le_of_ble_eq_true rfl) (Z77_9 H h30 (by omega)) (Nat.le_refl _) ?_
    refine r_ifc (len := 3) (a := 57) (b := 0) (v0 := .null) (cn := .ge) (off := 24) rfl (fun c => ?_) (fun c => ?_)
    · rw [if_pos c] at h
      refine q_li (k := 1) (i := 2) (q := (.iload_n 2, 1, 0, 0, .null)) rfl (fun _ => rfl) l2 ?_
      obtain rfl := Option.some.inj h
      exact q_ri (q := (.ireturn, 1, 0, 0, .null)) rfl (fun _ => rfl) rfl rfl
    · rw [if_neg (by rw [c]; decide)] at h
      refine q_lr (k := 1) (i := 0) (q := (.aload_n 0, 1, 0, 0, .null)) rfl (fun _ => rfl) l0 ?_
      refine q_li (k := 1) (i := 3) (q := (.iload_n 3, 1, 0, 0, .null)) rfl (fun _ => rfl) l3 ?_
      refine q_li (k := 1) (i := 1) (q := (.iload_n 1, 1, 0, 0, .null)) rfl (fun _ => rfl) l1 ?_
      obtain ⟨q39, h39, h⟩ := xbind h
      refine r_call (ix := 0) (as := [.int v3, .int v1]) (rest := []) (rv := some (.int q39.1)) (hp' := xW B q39.2) (pc := 39) rfl xr151 rfl rfl rfl (xkd H (by decide)) (Nat.le_of_ble_eq_true rfl) (Z151_0 H h39 (by omega)) (Nat.le_refl _) ?_
      refine r_if (len := 3) (a := 51) (b := 0) (v0 := .null) (cn := .eq) (off := 9) rfl (fun c => ?_) (fun c => ?_)
      · rw [if_pos c] at h
        exact T150_0_51 H he F _ ih l0 l1 l2 l3 h
      · rw [if_neg (by rw [c]; decide)] at h
        refine q_li (k := 1) (i := 2) (q := (.iload_n 2, 1, 0, 0, .null)) rfl (fun _ => rfl) l2 ?_
        refine r_s (fr' := (47, lv, [.int 1, .int v2])) (hp' := xW B q39.2) (q := (.iconst 1, 1, 0, 0, .null)) rfl (fun _ => rfl) (Nat.le_refl _) ?_
        refine q_li (k := 1) (i := 3) (q := (.iload_n 3, 1, 0, 0, .null)) rfl (fun _ => rfl) l3 ?_
        refine r_s (fr' := (49, lv, [.int (1 <<< (v3 &&& 31)), .int v2])) (hp' := xW B q39.2) (q := (.ishl, 1, 0, 0, .null)) rfl (fun _ => rfl) (Nat.le_refl _) ?_
        refine r_s (fr' := (50, lv, [.int (v2 ||| (1 <<< (v3 &&& 31)))])) (hp' := xW B q39.2) (q := (.ior, 1, 0, 0, .null)) rfl (fun _ => rfl) (Nat.le_refl _) ?_
        refine q_si (k := 1) (i := 2) (q := (.istore_n 2, 1, 0, 0, .null)) rfl (fun _ => rfl) (by decide) ?_
        have l0_1 : zld (zs1 lv 2 (.int (v2 ||| (1 <<< (v3 &&& 31))))) 0 = some (.ref 0) := x_o1 l0 rfl rfl
        have l1_1 : zld (zs1 lv 2 (.int (v2 ||| (1 <<< (v3 &&& 31))))) 1 = some (.int v1) := x_o1 l1 rfl rfl
        have l2_1 : zld (zs1 lv 2 (.int (v2 ||| (1 <<< (v3 &&& 31))))) 2 = some (.int (v2 ||| (1 <<< (v3 &&& 31)))) := zs1_ld _ _ _
        have l3_1 : zld (zs1 lv 2 (.int (v2 ||| (1 <<< (v3 &&& 31))))) 3 = some (.int v3) := x_o1 l3 rfl rfl
        generalize (zs1 lv 2 (.int (v2 ||| (1 <<< (v3 &&& 31))))) = lv1 at *
        exact T150_0_51 H he F _ ih l0_1 l1_1 l2_1 l3_1 h
def D150_0 (F : Nat) (v1 : Int32) (m : xS) : Option (Int32 × xS) :=
  (D76_9 F m).bind fun q4 =>
    if zcmp .eq q4.1 0 = true then
      D150_0_19 F v1 q4.2
    else
      if zcmp .lt v1 0 = true then
        D150_0_19 F v1 q4.2
      else
        if zcmp .lt v1 5 = true then
          D150_0_25 F F v1 0 0 q4.2
        else
          D150_0_19 F v1 q4.2
set_option maxRecDepth 20000 in
theorem T150_0 {B : zHp} (H : yH0 B) {e : Nat} (he : 6 ≤ e + 1) (F : Nat) {v1 : Int32} {lv : List (Nat × Value)} {m : xS} {x : Int32 × xS} (l0 : zld lv 0 = some (.ref 0)) (l1 : zld lv 1 = some (.int v1)) (h : D150_0 F v1 m = some x) : zR none e 4 (some .int) zc150 (0, lv, []) (xW B m) (some (.int x.1), xW B x.2) := by
  unfold D150_0 at h
  refine q_lr (k := 1) (i := 0) (q := (.aload_n 0, 1, 0, 0, .null)) rfl (fun _ => rfl) l0 ?_
  refine r_gr (c := 9) H (pc := 1) rfl (by decide) (by decide) ?_
  obtain ⟨q4, h4, h⟩ := xbind h
  refine r_call (ix := 9) (as := []) (rest := []) (rv := some (.int q4.1)) (hp' := xW B q4.2) (pc := 4) rfl xr76 rfl rfl rfl (xkd H (by decide)) (Nat.le_of_ble_eq_true rfl) (Z76_9 H h4 (by omega)) (Nat.le_refl _) ?_
  refine r_if (len := 3) (a := 19) (b := 0) (v0 := .null) (cn := .eq) (off := 12) rfl (fun c => ?_) (fun c => ?_)
  · rw [if_pos c] at h
    exact T150_0_19 H he F l0 l1 h
  · rw [if_neg (by rw [c]; decide)] at h
    refine q_li (k := 1) (i := 1) (q := (.iload_n 1, 1, 0, 0, .null)) rfl (fun _ => rfl) l1 ?_
    refine r_if (len := 3) (a := 19) (b := 0) (v0 := .null) (cn := .lt) (off := 8) rfl (fun c => ?_) (fun c => ?_)
    · rw [if_pos c] at h
      exact T150_0_19 H he F l0 l1 h
    · rw [if_neg (by rw [c]; decide)] at h
      refine q_li (k := 1) (i := 1) (q := (.iload_n 1, 1, 0, 0, .null)) rfl (fun _ => rfl) l1 ?_
      refine r_s (fr' := (16, lv, [.int 5, .int v1])) (hp' := xW B q4.2) (q := (.iconst 5, 1, 0, 0, .null)) rfl (fun _ => rfl) (Nat.le_refl _) ?_
      refine r_ifc (len := 3) (a := 21) (b := 0) (v0 := .null) (cn := .lt) (off := 5) rfl (fun c => ?_) (fun c => ?_)
      · rw [if_pos c] at h
        refine r_s (fr' := (22, lv, [.int 0])) (hp' := xW B q4.2) (q := (.iconst 0, 1, 0, 0, .null)) rfl (fun _ => rfl) (Nat.le_refl _) ?_
        refine q_si (k := 1) (i := 2) (q := (.istore_n 2, 1, 0, 0, .null)) rfl (fun _ => rfl) (by decide) ?_
        have l0_1 : zld (zs1 lv 2 (.int 0)) 0 = some (.ref 0) := x_o1 l0 rfl rfl
        have l1_1 : zld (zs1 lv 2 (.int 0)) 1 = some (.int v1) := x_o1 l1 rfl rfl
        have l2_1 : zld (zs1 lv 2 (.int 0)) 2 = some (.int 0) := zs1_ld _ _ _
        generalize (zs1 lv 2 (.int 0)) = lv1 at *
        refine r_s (fr' := (24, lv1, [.int 0])) (hp' := xW B q4.2) (q := (.iconst 0, 1, 0, 0, .null)) rfl (fun _ => rfl) (Nat.le_refl _) ?_
        refine q_si (k := 1) (i := 3) (q := (.istore_n 3, 1, 0, 0, .null)) rfl (fun _ => rfl) (by decide) ?_
        have l0_2 : zld (zs1 lv1 3 (.int 0)) 0 = some (.ref 0) := x_o1 l0_1 rfl rfl
        have l1_2 : zld (zs1 lv1 3 (.int 0)) 1 = some (.int v1) := x_o1 l1_1 rfl rfl
        have l2_2 : zld (zs1 lv1 3 (.int 0)) 2 = some (.int 0) := x_o1 l2_1 rfl rfl
        have l3_2 : zld (zs1 lv1 3 (.int 0)) 3 = some (.int 0) := zs1_ld _ _ _
        generalize (zs1 lv1 3 (.int 0)) = lv2 at *
        exact T150_0_25 H he F F l0_2 l1_2 l2_2 l3_2 h
      · rw [if_neg (by rw [c]; decide)] at h
        exact T150_0_19 H he F l0 l1 h
set_option maxRecDepth 20000 in
theorem Z150_0 {B : zHp} (H : yH0 B) {F : Nat} {a1 : Int32} {m : xS} {x : Int32 × xS} (h : D150_0 F a1 m = some x) {d : Nat} (hd : 6 ≤ d) : zCan d 150 [.ref 0, .int a1] (xW B m) (some (.int x.1), xW B x.2) := by
  obtain ⟨e, rfl⟩ : ∃ e, d = e + 1 := ⟨d - 1, by omega⟩
  refine zCan_body (nL := 4) (rt := (some .int)) (cd := zc150) (xg150) ⟨Nat.le_of_ble_eq_true rfl, by decide⟩ (Nat.le_refl _) ?_
  exact T150_0 H hd F rfl rfl h
