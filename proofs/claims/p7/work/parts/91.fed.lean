/-! Methods as functions over the memory. -/
set_option maxRecDepth 4000 in
theorem xg122 : zg zms 122 = some (zm122.2.2.1, zm122.2.2.2.1, zc122) := rfl
theorem xr122 : zar 122 = (5, 10) := by decide +kernel
set_option maxRecDepth 4000 in
theorem xg123 : zg zms 123 = some (zm123.2.2.1, zm123.2.2.2.1, zc123) := rfl
theorem xr123 : zar 123 = (1, 10) := by decide +kernel
set_option maxRecDepth 4000 in
theorem xg124 : zg zms 124 = some (zm124.2.2.1, zm124.2.2.2.1, zc124) := rfl
theorem xr124 : zar 124 = (1, 10) := by decide +kernel
set_option maxRecDepth 4000 in
theorem xg160 : zg zms 160 = some (zm160.2.2.1, zm160.2.2.2.1, zc160) := rfl
theorem xr160 : zar 160 = (1, 11) := by decide +kernel
set_option maxRecDepth 4000 in
theorem xg161 : zg zms 161 = some (zm161.2.2.1, zm161.2.2.2.1, zc161) := rfl
theorem xr161 : zar 161 = (5, 11) := by decide +kernel
set_option maxRecDepth 4000 in
theorem xg162 : zg zms 162 = some (zm162.2.2.1, zm162.2.2.2.1, zc162) := rfl
theorem xr162 : zar 162 = (1, 11) := by decide +kernel
/-- LentToolsModel.four -/
def D160_3 (F : Nat) : Nat → Int32 → Int32 → xS → Option (Unit × xS)
  | 0, _, _, _ => none
  | f + 1, v1, v2, m =>
    if zcmp .lt v2 0 = true then
      some ((), m)
    else
      if xib (m.1 70 1) 400 = true then
        D160_3 F f v1 (v2 + Int32.ofInt (-8)) (xu (xu m 71 ((m.1 70 1) : Int32).toNatClampNeg (vp_nar .byte ((v1 >>> (v2 &&& 31)) : Int32).toInt8.toInt32)) 70 1 ((m.1 70 1) + 1))
      else none
set_option maxRecDepth 20000 in
theorem T160_3 {B : zHp} (H : yH0 B) {e : Nat} (he : 1 ≤ e + 1) (F : Nat) : ∀ (f : Nat) {v1 : Int32} {v2 : Int32} {lv : List (Nat × Value)} {m : xS} {x : Unit × xS}, zld lv 0 = some (.ref 70) → zld lv 1 = some (.int v1) → zld lv 2 = some (.int v2) → D160_3 F f v1 v2 m = some x → zR none e 3 none zc160 (3, lv, []) (xW B m) (none, xW B x.2) := by
  intro f
  induction f with
  | zero => intro v1 v2 lv m x l0 l1 l2 h; cases h
  | succ f ih =>
    intro v1 v2 lv m x l0 l1 l2 h
    unfold D160_3 at h
    refine q_li (k := 1) (i := 2) (q := (.iload_n 2, 1, 0, 0, .null)) rfl (fun _ => rfl) l2 ?_
    refine r_if (len := 3) (a := 36) (b := 0) (v0 := .null) (cn := .lt) (off := 32) rfl (fun c => ?_) (fun c => ?_)
    · rw [if_pos c] at h
      obtain rfl := Option.some.inj h
      exact r_ret (q := (.return_, 1, 0, 0, .null)) rfl rfl (fun _ => rfl)
    · rw [if_neg (by rw [c]; decide)] at h
      refine q_lr (k := 1) (i := 0) (q := (.aload_n 0, 1, 0, 0, .null)) rfl (fun _ => rfl) l0 ?_
      refine r_gr (c := 71) H (pc := 8) rfl (by decide) (by decide) ?_
      refine q_lr (k := 1) (i := 0) (q := (.aload_n 0, 1, 0, 0, .null)) rfl (fun _ => rfl) l0 ?_
      refine r_gi (v := (m.1 70 1)) H (pc := 12) (i := _) rfl (by decide) (by decide) rfl ?_
      refine q_li (k := 1) (i := 1) (q := (.iload_n 1, 1, 0, 0, .null)) rfl (fun _ => rfl) l1 ?_
      refine q_li (k := 1) (i := 2) (q := (.iload_n 2, 1, 0, 0, .null)) rfl (fun _ => rfl) l2 ?_
      refine r_s (fr' := (18, lv, [.int (v1 >>> (v2 &&& 31)), .int (m.1 70 1), .ref 71])) (hp' := xW B m) (q := (.ishr, 1, 0, 0, .null)) rfl (fun _ => rfl) (Nat.le_refl _) ?_
      refine r_s (fr' := (19, lv, [.int ((v1 >>> (v2 &&& 31)) : Int32).toInt8.toInt32, .int (m.1 70 1), .ref 71])) (hp' := xW B m) (q := (.i2b, 1, 0, 0, .null)) rfl (fun _ => rfl) (Nat.le_refl _) ?_
      obtain ⟨c1, h⟩ := xif h
      refine q_bs (n := 400) (s2 := (xu m 71 ((m.1 70 1) : Int32).toNatClampNeg (vp_nar .byte ((v1 >>> (v2 &&& 31)) : Int32).toInt8.toInt32))) H (pc := 19) rfl (by decide) c1 rfl ?_
      refine q_lr (k := 1) (i := 0) (q := (.aload_n 0, 1, 0, 0, .null)) rfl (fun _ => rfl) l0 ?_
      refine r_s (fr' := (22, lv, [.ref 70, .ref 70])) (hp' := xW B (xu m 71 ((m.1 70 1) : Int32).toNatClampNeg (vp_nar .byte ((v1 >>> (v2 &&& 31)) : Int32).toInt8.toInt32))) (q := (.dup, 1, 0, 0, .null)) rfl (fun _ => rfl) (Nat.le_refl _) ?_
      refine r_gi (v := (m.1 70 1)) H (pc := 22) (i := _) rfl (by decide) (by decide) rfl ?_
      refine r_s (fr' := (26, lv, [.int 1, .int (m.1 70 1), .ref 70])) (hp' := xW B (xu m 71 ((m.1 70 1) : Int32).toNatClampNeg (vp_nar .byte ((v1 >>> (v2 &&& 31)) : Int32).toInt8.toInt32))) (q := (.iconst 1, 1, 0, 0, .null)) rfl (fun _ => rfl) (Nat.le_refl _) ?_
      refine r_s (fr' := (27, lv, [.int ((m.1 70 1) + 1), .ref 70])) (hp' := xW B (xu m 71 ((m.1 70 1) : Int32).toNatClampNeg (vp_nar .byte ((v1 >>> (v2 &&& 31)) : Int32).toInt8.toInt32))) (q := (.iadd, 1, 0, 0, .null)) rfl (fun _ => rfl) (Nat.le_refl _) ?_
      refine r_pi (s2 := (xu (xu m 71 ((m.1 70 1) : Int32).toNatClampNeg (vp_nar .byte ((v1 >>> (v2 &&& 31)) : Int32).toInt8.toInt32)) 70 1 ((m.1 70 1) + 1))) H (pc := 27) rfl (by decide) rfl rfl ?_
      refine q_inc (i := 2) (n := (-8)) (q := (.iinc 2 (-8), 3, 0, 0, .null)) rfl (fun _ => rfl) l2 (by decide) ?_
      have l0_2 : zld (zs1 lv 2 (.int (v2 + Int32.ofInt (-8)))) 0 = some (.ref 70) := x_o1 l0 rfl rfl
      have l1_2 : zld (zs1 lv 2 (.int (v2 + Int32.ofInt (-8)))) 1 = some (.int v1) := x_o1 l1 rfl rfl
      have l2_2 : zld (zs1 lv 2 (.int (v2 + Int32.ofInt (-8)))) 2 = some (.int (v2 + Int32.ofInt (-8))) := zs1_ld _ _ _
      generalize (zs1 lv 2 (.int (v2 + Int32.ofInt (-8)))) = lv2 at *
      refine r_s (fr' := (3, lv2, [])) (hp' := xW B (xu (xu m 71 ((m.1 70 1) : Int32).toNatClampNeg (vp_nar .byte ((v1 >>> (v2 &&& 31)) : Int32).toInt8.toInt32)) 70 1 ((m.1 70 1) + 1))) (q := (.goto (-30), 3, 3, 0, .null)) rfl (fun _ => rfl) (Nat.le_refl _) ?_
      exact ih l0_2 l1_2 l2_2 h
def D160 (F : Nat) (v1 : Int32) (m : xS) : Option (Unit × xS) :=
  D160_3 F F v1 24 m
set_option maxRecDepth 20000 in
theorem T160 {B : zHp} (H : yH0 B) {e : Nat} (he : 1 ≤ e + 1) (F : Nat) {v1 : Int32} {lv : List (Nat × Value)} {m : xS} {x : Unit × xS} (l0 : zld lv 0 = some (.ref 70)) (l1 : zld lv 1 = some (.int v1)) (h : D160 F v1 m = some x) : zR none e 3 none zc160 (0, lv, []) (xW B m) (none, xW B x.2) := by
  unfold D160 at h
  refine r_s (fr' := (2, lv, [.int 24])) (hp' := xW B m) (q := (.bipush 24, 2, 0, 0, .null)) rfl (fun _ => rfl) (Nat.le_refl _) ?_
  refine q_si (k := 1) (i := 2) (q := (.istore_n 2, 1, 0, 0, .null)) rfl (fun _ => rfl) (by decide) ?_
  have l0_1 : zld (zs1 lv 2 (.int 24)) 0 = some (.ref 70) := x_o1 l0 rfl rfl
  have l1_1 : zld (zs1 lv 2 (.int 24)) 1 = some (.int v1) := x_o1 l1 rfl rfl
  have l2_1 : zld (zs1 lv 2 (.int 24)) 2 = some (.int 24) := zs1_ld _ _ _
  generalize (zs1 lv 2 (.int 24)) = lv1 at *
  exact T160_3 H he F F l0_1 l1_1 l2_1 h
set_option maxRecDepth 20000 in
theorem Z160 {B : zHp} (H : yH0 B) {F : Nat} {a1 : Int32} {m : xS} {x : Unit × xS} (h : D160 F a1 m = some x) {d : Nat} (hd : 1 ≤ d) : zCan d 160 [.ref 70, .int a1] (xW B m) (none, xW B x.2) := by
  obtain ⟨e, rfl⟩ : ∃ e, d = e + 1 := ⟨d - 1, by omega⟩
  refine zCan_body (nL := 3) (rt := none) (cd := zc160) (xg160) ⟨Nat.le_of_ble_eq_true rfl, by decide⟩ (Nat.le_refl _) ?_
  exact T160 H hd F rfl rfl h
/-- LentToolsModel.feed -/
def D161 (F : Nat) (v1 : Int32) (v2 : Int32) (v3 : Int32) (v4 : Int32) (v5 : Int32) (m : xS) : Option (Int32 × xS) :=
  if zcmp .le ((m.1 70 1) + 20) 400 = true then
    (D160 F v1 m).bind fun q17 =>
      (D160 F v2 q17.2).bind fun q22 =>
        (D160 F v3 q22.2).bind fun q27 =>
          (D160 F v4 q27.2).bind fun q33 =>
            (D160 F v5 q33.2).bind fun q39 =>
              some ((q39.2.1 70 1), q39.2)
  else
    some ((-1), m)
set_option maxRecDepth 20000 in
theorem T161 {B : zHp} (H : yH0 B) {e : Nat} (he : 2 ≤ e + 1) (F : Nat) {v1 : Int32} {v2 : Int32} {v3 : Int32} {v4 : Int32} {v5 : Int32} {lv : List (Nat × Value)} {m : xS} {x : Int32 × xS} (l0 : zld lv 0 = some (.ref 70)) (l1 : zld lv 1 = some (.int v1)) (l2 : zld lv 2 = some (.int v2)) (l3 : zld lv 3 = some (.int v3)) (l4 : zld lv 4 = some (.int v4)) (l5 : zld lv 5 = some (.int v5)) (h : D161 F v1 v2 v3 v4 v5 m = some x) : zR none e 6 (some .int) zc161 (0, lv, []) (xW B m) (some (.int x.1), xW B x.2) := by
  unfold D161 at h
  refine q_lr (k := 1) (i := 0) (q := (.aload_n 0, 1, 0, 0, .null)) rfl (fun _ => rfl) l0 ?_
  refine r_gi (v := (m.1 70 1)) H (pc := 1) (i := _) rfl (by decide) (by decide) rfl ?_
  refine r_s (fr' := (6, lv, [.int 20, .int (m.1 70 1)])) (hp' := xW B m) (q := (.bipush 20, 2, 0, 0, .null)) rfl (fun _ => rfl) (Nat.le_refl _) ?_
  refine r_s (fr' := (7, lv, [.int ((m.1 70 1) + 20)])) (hp' := xW B m) (q := (.iadd, 1, 0, 0, .null)) rfl (fun _ => rfl) (Nat.le_refl _) ?_
  refine r_s (fr' := (10, lv, [.int 400, .int ((m.1 70 1) + 20)])) (hp' := xW B m) (q := (.sipush 400, 3, 0, 0, .null)) rfl (fun _ => rfl) (Nat.le_refl _) ?_
  refine r_ifc (len := 3) (a := 15) (b := 0) (v0 := .null) (cn := .le) (off := 5) rfl (fun c => ?_) (fun c => ?_)
  · rw [if_pos c] at h
    refine q_lr (k := 1) (i := 0) (q := (.aload_n 0, 1, 0, 0, .null)) rfl (fun _ => rfl) l0 ?_
    refine q_li (k := 1) (i := 1) (q := (.iload_n 1, 1, 0, 0, .null)) rfl (fun _ => rfl) l1 ?_
    obtain ⟨q17, h17, h⟩ := xbind h
    refine r_call (ix := 70) (as := [.int v1]) (rest := []) (rv := none) (hp' := xW B q17.2) (pc := 17) rfl xr160 rfl rfl rfl (xkd H (by decide)) (Nat.le_of_ble_eq_true rfl) (Z160 H h17 (by omega)) (Nat.le_refl _) ?_
    refine q_lr (k := 1) (i := 0) (q := (.aload_n 0, 1, 0, 0, .null)) rfl (fun _ => rfl) l0 ?_
    refine q_li (k := 1) (i := 2) (q := (.iload_n 2, 1, 0, 0, .null)) rfl (fun _ => rfl) l2 ?_
    obtain ⟨q22, h22, h⟩ := xbind h
    refine r_call (ix := 70) (as := [.int v2]) (rest := []) (rv := none) (hp' := xW B q22.2) (pc := 22) rfl xr160 rfl rfl rfl (xkd H (by decide)) (Nat.le_of_ble_eq_true rfl) (Z160 H h22 (by omega)) (Nat.le_refl _) ?_
    refine q_lr (k := 1) (i := 0) (q := (.aload_n 0, 1, 0, 0, .null)) rfl (fun _ => rfl) l0 ?_
    refine q_li (k := 1) (i := 3) (q := (.iload_n 3, 1, 0, 0, .null)) rfl (fun _ => rfl) l3 ?_
    obtain ⟨q27, h27, h⟩ := xbind h
    refine r_call (ix := 70) (as := [.int v3]) (rest := []) (rv := none) (hp' := xW B q27.2) (pc := 27) rfl xr160 rfl rfl rfl (xkd H (by decide)) (Nat.le_of_ble_eq_true rfl) (Z160 H h27 (by omega)) (Nat.le_refl _) ?_
    refine q_lr (k := 1) (i := 0) (q := (.aload_n 0, 1, 0, 0, .null)) rfl (fun _ => rfl) l0 ?_
    refine q_li (k := 2) (i := 4) (q := (.iload 4, 2, 0, 0, .null)) rfl (fun _ => rfl) l4 ?_
    obtain ⟨q33, h33, h⟩ := xbind h
    refine r_call (ix := 70) (as := [.int v4]) (rest := []) (rv := none) (hp' := xW B q33.2) (pc := 33) rfl xr160 rfl rfl rfl (xkd H (by decide)) (Nat.le_of_ble_eq_true rfl) (Z160 H h33 (by omega)) (Nat.le_refl _) ?_
    refine q_lr (k := 1) (i := 0) (q := (.aload_n 0, 1, 0, 0, .null)) rfl (fun _ => rfl) l0 ?_
    refine q_li (k := 2) (i := 5) (q := (.iload 5, 2, 0, 0, .null)) rfl (fun _ => rfl) l5 ?_
    obtain ⟨q39, h39, h⟩ := xbind h
    refine r_call (ix := 70) (as := [.int v5]) (rest := []) (rv := none) (hp' := xW B q39.2) (pc := 39) rfl xr160 rfl rfl rfl (xkd H (by decide)) (Nat.le_of_ble_eq_true rfl) (Z160 H h39 (by omega)) (Nat.le_refl _) ?_
    refine q_lr (k := 1) (i := 0) (q := (.aload_n 0, 1, 0, 0, .null)) rfl (fun _ => rfl) l0 ?_
    refine r_gi (v := (q39.2.1 70 1)) H (pc := 43) (i := _) rfl (by decide) (by decide) rfl ?_
    obtain rfl := Option.some.inj h
    exact q_ri (q := (.ireturn, 1, 0, 0, .null)) rfl (fun _ => rfl) rfl rfl
  · rw [if_neg (by rw [c]; decide)] at h
    refine r_s (fr' := (14, lv, [.int (-1)])) (hp' := xW B m) (q := (.iconst (-1), 1, 0, 0, .null)) rfl (fun _ => rfl) (Nat.le_refl _) ?_
    obtain rfl := Option.some.inj h
    exact q_ri (q := (.ireturn, 1, 0, 0, .null)) rfl (fun _ => rfl) rfl rfl
set_option maxRecDepth 20000 in
theorem Z161 {B : zHp} (H : yH0 B) {F : Nat} {a1 : Int32} {a2 : Int32} {a3 : Int32} {a4 : Int32} {a5 : Int32} {m : xS} {x : Int32 × xS} (h : D161 F a1 a2 a3 a4 a5 m = some x) {d : Nat} (hd : 2 ≤ d) : zCan d 161 [.ref 70, .int a1, .int a2, .int a3, .int a4, .int a5] (xW B m) (some (.int x.1), xW B x.2) := by
  obtain ⟨e, rfl⟩ : ∃ e, d = e + 1 := ⟨d - 1, by omega⟩
  refine zCan_body (nL := 6) (rt := (some .int)) (cd := zc161) (xg161) ⟨Nat.le_of_ble_eq_true rfl, by decide⟩ (Nat.le_refl _) ?_
  exact T161 H hd F rfl rfl rfl rfl rfl rfl h
/-- LentToolsModel.end -/
def D162_12 (F : Nat) (v1 : Int32) (m : xS) : Option (Int32 × xS) :=
  some ((-1), m)
set_option maxRecDepth 20000 in
theorem T162_12 {B : zHp} (H : yH0 B) {e : Nat} (he : 1 ≤ e + 1) (F : Nat) {v1 : Int32} {lv : List (Nat × Value)} {m : xS} {x : Int32 × xS} (l0 : zld lv 0 = some (.ref 70)) (l1 : zld lv 1 = some (.int v1)) (h : D162_12 F v1 m = some x) : zR none e 2 (some .int) zc162 (12, lv, []) (xW B m) (some (.int x.1), xW B x.2) := by
  unfold D162_12 at h
  refine r_s (fr' := (13, lv, [.int (-1)])) (hp' := xW B m) (q := (.iconst (-1), 1, 0, 0, .null)) rfl (fun _ => rfl) (Nat.le_refl _) ?_
  obtain rfl := Option.some.inj h
  exact q_ri (q := (.ireturn, 1, 0, 0, .null)) rfl (fun _ => rfl) rfl rfl
def D162 (F : Nat) (v1 : Int32) (m : xS) : Option (Int32 × xS) :=
  if zcmp .lt v1 0 = true then
    D162_12 F v1 m
  else
    if zcmp .le v1 (m.1 70 1) = true then
      some (v1, (xu m 70 1 v1))
    else
      D162_12 F v1 m
set_option maxRecDepth 20000 in
theorem T162 {B : zHp} (H : yH0 B) {e : Nat} (he : 1 ≤ e + 1) (F : Nat) {v1 : Int32} {lv : List (Nat × Value)} {m : xS} {x : Int32 × xS} (l0 : zld lv 0 = some (.ref 70)) (l1 : zld lv 1 = some (.int v1)) (h : D162 F v1 m = some x) : zR none e 2 (some .int) zc162 (0, lv, []) (xW B m) (some (.int x.1), xW B x.2) := by
  unfold D162 at h
  refine q_li (k := 1) (i := 1) (q := (.iload_n 1, 1, 0, 0, .null)) rfl (fun _ => rfl) l1 ?_
  refine r_if (len := 3) (a := 12) (b := 0) (v0 := .null) (cn := .lt) (off := 11) rfl (fun c => ?_) (fun c => ?_)
  · rw [if_pos c] at h
    exact T162_12 H he F l0 l1 h
  · rw [if_neg (by rw [c]; decide)] at h
    refine q_li (k := 1) (i := 1) (q := (.iload_n 1, 1, 0, 0, .null)) rfl (fun _ => rfl) l1 ?_
    refine q_lr (k := 1) (i := 0) (q := (.aload_n 0, 1, 0, 0, .null)) rfl (fun _ => rfl) l0 ?_
    refine r_gi (v := (m.1 70 1)) H (pc := 6) (i := _) rfl (by decide) (by decide) rfl ?_
    refine r_ifc (len := 3) (a := 14) (b := 0) (v0 := .null) (cn := .le) (off := 5) rfl (fun c => ?_) (fun c => ?_)
    · rw [if_pos c] at h
      refine q_lr (k := 1) (i := 0) (q := (.aload_n 0, 1, 0, 0, .null)) rfl (fun _ => rfl) l0 ?_
      refine q_li (k := 1) (i := 1) (q := (.iload_n 1, 1, 0, 0, .null)) rfl (fun _ => rfl) l1 ?_
      refine r_pi (s2 := (xu m 70 1 v1)) H (pc := 16) rfl (by decide) rfl rfl ?_
      refine q_li (k := 1) (i := 1) (q := (.iload_n 1, 1, 0, 0, .null)) rfl (fun _ => rfl) l1 ?_
      obtain rfl := Option.some.inj h
      exact q_ri (q := (.ireturn, 1, 0, 0, .null)) rfl (fun _ => rfl) rfl rfl
    · rw [if_neg (by rw [c]; decide)] at h
      exact T162_12 H he F l0 l1 h
set_option maxRecDepth 20000 in
theorem Z162 {B : zHp} (H : yH0 B) {F : Nat} {a1 : Int32} {m : xS} {x : Int32 × xS} (h : D162 F a1 m = some x) {d : Nat} (hd : 1 ≤ d) : zCan d 162 [.ref 70, .int a1] (xW B m) (some (.int x.1), xW B x.2) := by
  obtain ⟨e, rfl⟩ : ∃ e, d = e + 1 := ⟨d - 1, by omega⟩
  refine zCan_body (nL := 2) (rt := (some .int)) (cd := zc162) (xg162) ⟨Nat.le_of_ble_eq_true rfl, by decide⟩ (Nat.le_refl _) ?_
  exact T162 H hd F rfl rfl h
/-- LentTools.putBytes -/
def D123_0_43 (F : Nat) (g3 : Int32 → Int32 → xS → Option (Unit × xS)) (v1 : Int32) (v2 : Int32) (m : xS) : Option (Unit × xS) :=
  g3 v1 (v2 + Int32.ofInt (-8)) m
set_option maxRecDepth 20000 in
theorem T123_0_43 {B : zHp} (H : yH0 B) {e : Nat} (he : 1 ≤ e + 1) (F : Nat) (g3 : Int32 → Int32 → xS → Option (Unit × xS)) (k3 : ∀ {v1 : Int32} {v2 : Int32} {lv : List (Nat × Value)} {m : xS} {x : Unit × xS}, zld lv 0 = some (.ref 0) → zld lv 1 = some (.int v1) → zld lv 2 = some (.int v2) → g3 v1 v2 m = some x → zR none e 3 none zc123 (3, lv, []) (xW B m) (none, xW B x.2)) {v1 : Int32} {v2 : Int32} {lv : List (Nat × Value)} {m : xS} {x : Unit × xS} (l0 : zld lv 0 = some (.ref 0)) (l1 : zld lv 1 = some (.int v1)) (l2 : zld lv 2 = some (.int v2)) (h : D123_0_43 F g3 v1 v2 m = some x) : zR none e 3 none zc123 (43, lv, []) (xW B m) (none, xW B x.2) := by
  unfold D123_0_43 at h
  refine q_inc (i := 2) (n := (-8)) (q := (.iinc 2 (-8), 3, 0, 0, .null)) rfl (fun _ => rfl) l2 (by decide) ?_
  have l0_1 : zld (zs1 lv 2 (.int (v2 + Int32.ofInt (-8)))) 0 = some (.ref 0) := x_o1 l0 rfl rfl
  have l1_1 : zld (zs1 lv 2 (.int (v2 + Int32.ofInt (-8)))) 1 = some (.int v1) := x_o1 l1 rfl rfl
  have l2_1 : zld (zs1 lv 2 (.int (v2 + Int32.ofInt (-8)))) 2 = some (.int (v2 + Int32.ofInt (-8))) := zs1_ld _ _ _
  generalize (zs1 lv 2 (.int (v2 + Int32.ofInt (-8)))) = lv1 at *
  refine r_s (fr' := (3, lv1, [])) (hp' := xW B m) (q := (.goto (-43), 3, 3, 0, .null)) rfl (fun _ => rfl) (Nat.le_refl _) ?_
  exact k3 l0_1 l1_1 l2_1 h
def D123_0_3 (F : Nat) : Nat → Int32 → Int32 → xS → Option (Unit × xS)
  | 0, _, _, _ => none
  | f + 1, v1, v2, m =>
    if zcmp .lt v2 0 = true then
      some ((), m)
    else
      if zcmp .ge (m.1 0 1) 400 = true then
        D123_0_43 F (D123_0_3 F f) v1 v2 m
      else
        if xib (m.1 0 1) 400 = true then
          D123_0_43 F (D123_0_3 F f) v1 v2 (xu (xu m 1 ((m.1 0 1) : Int32).toNatClampNeg (((v1).toUInt32 >>> ((v2 : Int32).toUInt32 &&& Int32.toUInt32 31)).toInt32 &&& 255)) 0 1 ((m.1 0 1) + 1))
        else none
set_option maxRecDepth 20000 in
theorem T123_0_3 {B : zHp} (H : yH0 B) {e : Nat} (he : 1 ≤ e + 1) (F : Nat) : ∀ (f : Nat) {v1 : Int32} {v2 : Int32} {lv : List (Nat × Value)} {m : xS} {x : Unit × xS}, zld lv 0 = some (.ref 0) → zld lv 1 = some (.int v1) → zld lv 2 = some (.int v2) → D123_0_3 F f v1 v2 m = some x → zR none e 3 none zc123 (3, lv, []) (xW B m) (none, xW B x.2) := by
  intro f
  induction f with
  | zero => intro v1 v2 lv m x l0 l1 l2 h; cases h
  | succ f ih =>
    intro v1 v2 lv m x l0 l1 l2 h
    unfold D123_0_3 at h
    refine q_li (k := 1) (i := 2) (q := (.iload_n 2, 1, 0, 0, .null)) rfl (fun _ => rfl) l2 ?_
    refine r_if (len := 3) (a := 49) (b := 0) (v0 := .null) (cn := .lt) (off := 45) rfl (fun c => ?_) (fun c => ?_)
    · rw [if_pos c] at h
      obtain rfl := Option.some.inj h
      exact r_ret (q := (.return_, 1, 0, 0, .null)) rfl rfl (fun _ => rfl)
    · rw [if_neg (by rw [c]; decide)] at h
      refine q_lr (k := 1) (i := 0) (q := (.aload_n 0, 1, 0, 0, .null)) rfl (fun _ => rfl) l0 ?_
      refine r_gi (v := (m.1 0 1)) H (pc := 8) (i := _) rfl (by decide) (by decide) rfl ?_
      refine r_s (fr' := (14, lv, [.int 400, .int (m.1 0 1)])) (hp' := xW B m) (q := (.sipush 400, 3, 0, 0, .null)) rfl (fun _ => rfl) (Nat.le_refl _) ?_
      refine r_ifc (len := 3) (a := 43) (b := 0) (v0 := .null) (cn := .ge) (off := 29) rfl (fun c => ?_) (fun c => ?_)
      · rw [if_pos c] at h
        exact T123_0_43 H he F _ ih l0 l1 l2 h
      · rw [if_neg (by rw [c]; decide)] at h
        refine q_lr (k := 1) (i := 0) (q := (.aload_n 0, 1, 0, 0, .null)) rfl (fun _ => rfl) l0 ?_
        refine r_gr (c := 1) H (pc := 18) rfl (by decide) (by decide) ?_
        refine q_lr (k := 1) (i := 0) (q := (.aload_n 0, 1, 0, 0, .null)) rfl (fun _ => rfl) l0 ?_
        refine r_gi (v := (m.1 0 1)) H (pc := 22) (i := _) rfl (by decide) (by decide) rfl ?_
        refine q_li (k := 1) (i := 1) (q := (.iload_n 1, 1, 0, 0, .null)) rfl (fun _ => rfl) l1 ?_
        refine q_li (k := 1) (i := 2) (q := (.iload_n 2, 1, 0, 0, .null)) rfl (fun _ => rfl) l2 ?_
        refine r_s (fr' := (28, lv, [.int ((v1).toUInt32 >>> ((v2 : Int32).toUInt32 &&& Int32.toUInt32 31)).toInt32, .int (m.1 0 1), .ref 1])) (hp' := xW B m) (q := (.iushr, 1, 0, 0, .null)) rfl (fun _ => rfl) (Nat.le_refl _) ?_
        refine r_s (fr' := (31, lv, [.int 255, .int ((v1).toUInt32 >>> ((v2 : Int32).toUInt32 &&& Int32.toUInt32 31)).toInt32, .int (m.1 0 1), .ref 1])) (hp' := xW B m) (q := (.sipush 255, 3, 0, 0, .null)) rfl (fun _ => rfl) (Nat.le_refl _) ?_
        refine r_s (fr' := (32, lv, [.int (((v1).toUInt32 >>> ((v2 : Int32).toUInt32 &&& Int32.toUInt32 31)).toInt32 &&& 255), .int (m.1 0 1), .ref 1])) (hp' := xW B m) (q := (.iand, 1, 0, 0, .null)) rfl (fun _ => rfl) (Nat.le_refl _) ?_
        obtain ⟨c1, h⟩ := xif h
        refine q_as (n := 400) (s2 := (xu m 1 ((m.1 0 1) : Int32).toNatClampNeg (((v1).toUInt32 >>> ((v2 : Int32).toUInt32 &&& Int32.toUInt32 31)).toInt32 &&& 255))) H (pc := 32) rfl (by decide) c1 rfl ?_
        refine q_lr (k := 1) (i := 0) (q := (.aload_n 0, 1, 0, 0, .null)) rfl (fun _ => rfl) l0 ?_
        refine r_s (fr' := (35, lv, [.ref 0, .ref 0])) (hp' := xW B (xu m 1 ((m.1 0 1) : Int32).toNatClampNeg (((v1).toUInt32 >>> ((v2 : Int32).toUInt32 &&& Int32.toUInt32 31)).toInt32 &&& 255))) (q := (.dup, 1, 0, 0, .null)) rfl (fun _ => rfl) (Nat.le_refl _) ?_
        refine r_gi (v := (m.1 0 1)) H (pc := 35) (i := _) rfl (by decide) (by decide) rfl ?_
        refine r_s (fr' := (39, lv, [.int 1, .int (m.1 0 1), .ref 0])) (hp' := xW B (xu m 1 ((m.1 0 1) : Int32).toNatClampNeg (((v1).toUInt32 >>> ((v2 : Int32).toUInt32 &&& Int32.toUInt32 31)).toInt32 &&& 255))) (q := (.iconst 1, 1, 0, 0, .null)) rfl (fun _ => rfl) (Nat.le_refl _) ?_
        refine r_s (fr' := (40, lv, [.int ((m.1 0 1) + 1), .ref 0])) (hp' := xW B (xu m 1 ((m.1 0 1) : Int32).toNatClampNeg (((v1).toUInt32 >>> ((v2 : Int32).toUInt32 &&& Int32.toUInt32 31)).toInt32 &&& 255))) (q := (.iadd, 1, 0, 0, .null)) rfl (fun _ => rfl) (Nat.le_refl _) ?_
        refine r_pi (s2 := (xu (xu m 1 ((m.1 0 1) : Int32).toNatClampNeg (((v1).toUInt32 >>> ((v2 : Int32).toUInt32 &&& Int32.toUInt32 31)).toInt32 &&& 255)) 0 1 ((m.1 0 1) + 1))) H (pc := 40) rfl (by decide) rfl rfl ?_
        exact T123_0_43 H he F _ ih l0 l1 l2 h
def D123_0 (F : Nat) (v1 : Int32) (m : xS) : Option (Unit × xS) :=
  D123_0_3 F F v1 24 m
set_option maxRecDepth 20000 in
theorem T123_0 {B : zHp} (H : yH0 B) {e : Nat} (he : 1 ≤ e + 1) (F : Nat) {v1 : Int32} {lv : List (Nat × Value)} {m : xS} {x : Unit × xS} (l0 : zld lv 0 = some (.ref 0)) (l1 : zld lv 1 = some (.int v1)) (h : D123_0 F v1 m = some x) : zR none e 3 none zc123 (0, lv, []) (xW B m) (none, xW B x.2) := by
  unfold D123_0 at h
  refine r_s (fr' := (2, lv, [.int 24])) (hp' := xW B m) (q := (.bipush 24, 2, 0, 0, .null)) rfl (fun _ => rfl) (Nat.le_refl _) ?_
  refine q_si (k := 1) (i := 2) (q := (.istore_n 2, 1, 0, 0, .null)) rfl (fun _ => rfl) (by decide) ?_
  have l0_1 : zld (zs1 lv 2 (.int 24)) 0 = some (.ref 0) := x_o1 l0 rfl rfl
  have l1_1 : zld (zs1 lv 2 (.int 24)) 1 = some (.int v1) := x_o1 l1 rfl rfl
  have l2_1 : zld (zs1 lv 2 (.int 24)) 2 = some (.int 24) := zs1_ld _ _ _
  generalize (zs1 lv 2 (.int 24)) = lv1 at *
  exact T123_0_3 H he F F l0_1 l1_1 l2_1 h
set_option maxRecDepth 20000 in
theorem Z123_0 {B : zHp} (H : yH0 B) {F : Nat} {a1 : Int32} {m : xS} {x : Unit × xS} (h : D123_0 F a1 m = some x) {d : Nat} (hd : 1 ≤ d) : zCan d 123 [.ref 0, .int a1] (xW B m) (none, xW B x.2) := by
  obtain ⟨e, rfl⟩ : ∃ e, d = e + 1 := ⟨d - 1, by omega⟩
  refine zCan_body (nL := 3) (rt := none) (cd := zc123) (xg123) ⟨Nat.le_of_ble_eq_true rfl, by decide⟩ (Nat.le_refl _) ?_
  exact T123_0 H hd F rfl rfl h
/-- LentTools.feed -/
def D122_0 (F : Nat) (v1 : Int32) (v2 : Int32) (v3 : Int32) (v4 : Int32) (v5 : Int32) (m : xS) : Option (Int32 × xS) :=
  if zcmp .le ((m.1 0 1) + 20) 400 = true then
    (D123_0 F v1 m).bind fun q17 =>
      (D123_0 F v2 q17.2).bind fun q22 =>
        (D123_0 F v3 q22.2).bind fun q27 =>
          (D123_0 F v4 q27.2).bind fun q33 =>
            (D123_0 F v5 q33.2).bind fun q39 =>
              some ((q39.2.1 0 1), q39.2)
  else
    some ((-1), m)
set_option maxRecDepth 20000 in
theorem T122_0 {B : zHp} (H : yH0 B) {e : Nat} (he : 2 ≤ e + 1) (F : Nat) {v1 : Int32} {v2 : Int32} {v3 : Int32} {v4 : Int32} {v5 : Int32} {lv : List (Nat × Value)} {m : xS} {x : Int32 × xS} (l0 : zld lv 0 = some (.ref 0)) (l1 : zld lv 1 = some (.int v1)) (l2 : zld lv 2 = some (.int v2)) (l3 : zld lv 3 = some (.int v3)) (l4 : zld lv 4 = some (.int v4)) (l5 : zld lv 5 = some (.int v5)) (h : D122_0 F v1 v2 v3 v4 v5 m = some x) : zR none e 6 (some .int) zc122 (0, lv, []) (xW B m) (some (.int x.1), xW B x.2) := by
  unfold D122_0 at h
  refine q_lr (k := 1) (i := 0) (q := (.aload_n 0, 1, 0, 0, .null)) rfl (fun _ => rfl) l0 ?_
  refine r_gi (v := (m.1 0 1)) H (pc := 1) (i := _) rfl (by decide) (by decide) rfl ?_
  refine r_s (fr' := (6, lv, [.int 20, .int (m.1 0 1)])) (hp' := xW B m) (q := (.bipush 20, 2, 0, 0, .null)) rfl (fun _ => rfl) (Nat.le_refl _) ?_
  refine r_s (fr' := (7, lv, [.int ((m.1 0 1) + 20)])) (hp' := xW B m) (q := (.iadd, 1, 0, 0, .null)) rfl (fun _ => rfl) (Nat.le_refl _) ?_
  refine r_s (fr' := (10, lv, [.int 400, .int ((m.1 0 1) + 20)])) (hp' := xW B m) (q := (.sipush 400, 3, 0, 0, .null)) rfl (fun _ => rfl) (Nat.le_refl _) ?_
  refine r_ifc (len := 3) (a := 15) (b := 0) (v0 := .null) (cn := .le) (off := 5) rfl (fun c => ?_) (fun c => ?_)
  · rw [if_pos c] at h
    refine q_lr (k := 1) (i := 0) (q := (.aload_n 0, 1, 0, 0, .null)) rfl (fun _ => rfl) l0 ?_
    refine q_li (k := 1) (i := 1) (q := (.iload_n 1, 1, 0, 0, .null)) rfl (fun _ => rfl) l1 ?_
    obtain ⟨q17, h17, h⟩ := xbind h
    refine r_call (ix := 0) (as := [.int v1]) (rest := []) (rv := none) (hp' := xW B q17.2) (pc := 17) rfl xr123 rfl rfl rfl (xkd H (by decide)) (Nat.le_of_ble_eq_true rfl) (Z123_0 H h17 (by omega)) (Nat.le_refl _) ?_
    refine q_lr (k := 1) (i := 0) (q := (.aload_n 0, 1, 0, 0, .null)) rfl (fun _ => rfl) l0 ?_
    refine q_li (k := 1) (i := 2) (q := (.iload_n 2, 1, 0, 0, .null)) rfl (fun _ => rfl) l2 ?_
    obtain ⟨q22, h22, h⟩ := xbind h
    refine r_call (ix := 0) (as := [.int v2]) (rest := []) (rv := none) (hp' := xW B q22.2) (pc := 22) rfl xr123 rfl rfl rfl (xkd H (by decide)) (Nat.le_of_ble_eq_true rfl) (Z123_0 H h22 (by omega)) (Nat.le_refl _) ?_
    refine q_lr (k := 1) (i := 0) (q := (.aload_n 0, 1, 0, 0, .null)) rfl (fun _ => rfl) l0 ?_
    refine q_li (k := 1) (i := 3) (q := (.iload_n 3, 1, 0, 0, .null)) rfl (fun _ => rfl) l3 ?_
    obtain ⟨q27, h27, h⟩ := xbind h
    refine r_call (ix := 0) (as := [.int v3]) (rest := []) (rv := none) (hp' := xW B q27.2) (pc := 27) rfl xr123 rfl rfl rfl (xkd H (by decide)) (Nat.le_of_ble_eq_true rfl) (Z123_0 H h27 (by omega)) (Nat.le_refl _) ?_
    refine q_lr (k := 1) (i := 0) (q := (.aload_n 0, 1, 0, 0, .null)) rfl (fun _ => rfl) l0 ?_
    refine q_li (k := 2) (i := 4) (q := (.iload 4, 2, 0, 0, .null)) rfl (fun _ => rfl) l4 ?_
    obtain ⟨q33, h33, h⟩ := xbind h
    refine r_call (ix := 0) (as := [.int v4]) (rest := []) (rv := none) (hp' := xW B q33.2) (pc := 33) rfl xr123 rfl rfl rfl (xkd H (by decide)) (Nat.le_of_ble_eq_true rfl) (Z123_0 H h33 (by omega)) (Nat.le_refl _) ?_
    refine q_lr (k := 1) (i := 0) (q := (.aload_n 0, 1, 0, 0, .null)) rfl (fun _ => rfl) l0 ?_
    refine q_li (k := 2) (i := 5) (q := (.iload 5, 2, 0, 0, .null)) rfl (fun _ => rfl) l5 ?_
    obtain ⟨q39, h39, h⟩ := xbind h
    refine r_call (ix := 0) (as := [.int v5]) (rest := []) (rv := none) (hp' := xW B q39.2) (pc := 39) rfl xr123 rfl rfl rfl (xkd H (by decide)) (Nat.le_of_ble_eq_true rfl) (Z123_0 H h39 (by omega)) (Nat.le_refl _) ?_
    refine q_lr (k := 1) (i := 0) (q := (.aload_n 0, 1, 0, 0, .null)) rfl (fun _ => rfl) l0 ?_
    refine r_gi (v := (q39.2.1 0 1)) H (pc := 43) (i := _) rfl (by decide) (by decide) rfl ?_
    obtain rfl := Option.some.inj h
    exact q_ri (q := (.ireturn, 1, 0, 0, .null)) rfl (fun _ => rfl) rfl rfl
  · rw [if_neg (by rw [c]; decide)] at h
    refine r_s (fr' := (14, lv, [.int (-1)])) (hp' := xW B m) (q := (.iconst (-1), 1, 0, 0, .null)) rfl (fun _ => rfl) (Nat.le_refl _) ?_
    obtain rfl := Option.some.inj h
    exact q_ri (q := (.ireturn, 1, 0, 0, .null)) rfl (fun _ => rfl) rfl rfl
set_option maxRecDepth 20000 in
theorem Z122_0 {B : zHp} (H : yH0 B) {F : Nat} {a1 : Int32} {a2 : Int32} {a3 : Int32} {a4 : Int32} {a5 : Int32} {m : xS} {x : Int32 × xS} (h : D122_0 F a1 a2 a3 a4 a5 m = some x) {d : Nat} (hd : 2 ≤ d) : zCan d 122 [.ref 0, .int a1, .int a2, .int a3, .int a4, .int a5] (xW B m) (some (.int x.1), xW B x.2) := by
  obtain ⟨e, rfl⟩ : ∃ e, d = e + 1 := ⟨d - 1, by omega⟩
  refine zCan_body (nL := 6) (rt := (some .int)) (cd := zc122) (xg122) ⟨Nat.le_of_ble_eq_true rfl, by decide⟩ (Nat.le_refl _) ?_
  exact T122_0 H hd F rfl rfl rfl rfl rfl rfl h
/-- LentTools.end -/
def D124_0_12 (F : Nat) (v1 : Int32) (m : xS) : Option (Int32 × xS) :=
  some ((-1), m)
set_option maxRecDepth 20000 in
theorem T124_0_12 {B : zHp} (H : yH0 B) {e : Nat} (he : 1 ≤ e + 1) (F : Nat) {v1 : Int32} {lv : List (Nat × Value)} {m : xS} {x : Int32 × xS} (l0 : zld lv 0 = some (.ref 0)) (l1 : zld lv 1 = some (.int v1)) (h : D124_0_12 F v1 m = some x) : zR none e 2 (some .int) zc124 (12, lv, []) (xW B m) (some (.int x.1), xW B x.2) := by
  unfold D124_0_12 at h
  refine r_s (fr' := (13, lv, [.int (-1)])) (hp' := xW B m) (q := (.iconst (-1), 1, 0, 0, .null)) rfl (fun _ => rfl) (Nat.le_refl _) ?_
  obtain rfl := Option.some.inj h
  exact q_ri (q := (.ireturn, 1, 0, 0, .null)) rfl (fun _ => rfl) rfl rfl
def D124_0 (F : Nat) (v1 : Int32) (m : xS) : Option (Int32 × xS) :=
  if zcmp .lt v1 0 = true then
    D124_0_12 F v1 m
  else
    if zcmp .le v1 (m.1 0 1) = true then
      some (v1, (xu m 0 1 v1))
    else
      D124_0_12 F v1 m
set_option maxRecDepth 20000 in
theorem T124_0 {B : zHp} (H : yH0 B) {e : Nat} (he : 1 ≤ e + 1) (F : Nat) {v1 : Int32} {lv : List (Nat × Value)} {m : xS} {x : Int32 × xS} (l0 : zld lv 0 = some (.ref 0)) (l1 : zld lv 1 = some (.int v1)) (h : D124_0 F v1 m = some x) : zR none e 2 (some .int) zc124 (0, lv, []) (xW B m) (some (.int x.1), xW B x.2) := by
  unfold D124_0 at h
  refine q_li (k := 1) (i := 1) (q := (.iload_n 1, 1, 0, 0, .null)) rfl (fun _ => rfl) l1 ?_
  refine r_if (len := 3) (a := 12) (b := 0) (v0 := .null) (cn := .lt) (off := 11) rfl (fun c => ?_) (fun c => ?_)
  · rw [if_pos c] at h
    exact T124_0_12 H he F l0 l1 h
  · rw [if_neg (by rw [c]; decide)] at h
    refine q_li (k := 1) (i := 1) (q := (.iload_n 1, 1, 0, 0, .null)) rfl (fun _ => rfl) l1 ?_
    refine q_lr (k := 1) (i := 0) (q := (.aload_n 0, 1, 0, 0, .null)) rfl (fun _ => rfl) l0 ?_
    refine r_gi (v := (m.1 0 1)) H (pc := 6) (i := _) rfl (by decide) (by decide) rfl ?_
    refine r_ifc (len := 3) (a := 14) (b := 0) (v0 := .null) (cn := .le) (off := 5) rfl (fun c => ?_) (fun c => ?_)
    · rw [if_pos c] at h
      refine q_lr (k := 1) (i := 0) (q := (.aload_n 0, 1, 0, 0, .null)) rfl (fun _ => rfl) l0 ?_
      refine q_li (k := 1) (i := 1) (q := (.iload_n 1, 1, 0, 0, .null)) rfl (fun _ => rfl) l1 ?_
      refine r_pi (s2 := (xu m 0 1 v1)) H (pc := 16) rfl (by decide) rfl rfl ?_
      refine q_li (k := 1) (i := 1) (q := (.iload_n 1, 1, 0, 0, .null)) rfl (fun _ => rfl) l1 ?_
      obtain rfl := Option.some.inj h
      exact q_ri (q := (.ireturn, 1, 0, 0, .null)) rfl (fun _ => rfl) rfl rfl
    · rw [if_neg (by rw [c]; decide)] at h
      exact T124_0_12 H he F l0 l1 h
set_option maxRecDepth 20000 in
theorem Z124_0 {B : zHp} (H : yH0 B) {F : Nat} {a1 : Int32} {m : xS} {x : Int32 × xS} (h : D124_0 F a1 m = some x) {d : Nat} (hd : 1 ≤ d) : zCan d 124 [.ref 0, .int a1] (xW B m) (some (.int x.1), xW B x.2) := by
  obtain ⟨e, rfl⟩ : ∃ e, d = e + 1 := ⟨d - 1, by omega⟩
  refine zCan_body (nL := 2) (rt := (some .int)) (cd := zc124) (xg124) ⟨Nat.le_of_ble_eq_true rfl, by decide⟩ (Nat.le_refl _) ?_
  exact T124_0 H hd F rfl rfl h
