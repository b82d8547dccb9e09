/-! Methods as functions over the memory. -/
set_option maxRecDepth 4000 in
theorem xg249 : zg zms 249 = some (zm249.2.2.1, zm249.2.2.2.1, zc249) := rfl
theorem xr249 : zar 249 = (4, 11) := by decide +kernel
set_option maxRecDepth 4000 in
theorem xg250 : zg zms 250 = some (zm250.2.2.1, zm250.2.2.2.1, zc250) := rfl
theorem xr250 : zar 250 = (3, 11) := by decide +kernel
set_option maxRecDepth 4000 in
theorem xg251 : zg zms 251 = some (zm251.2.2.1, zm251.2.2.2.1, zc251) := rfl
theorem xr251 : zar 251 = (3, 11) := by decide +kernel
set_option maxRecDepth 4000 in
theorem xg252 : zg zms 252 = some (zm252.2.2.1, zm252.2.2.2.1, zc252) := rfl
theorem xr252 : zar 252 = (4, 11) := by decide +kernel
set_option maxRecDepth 4000 in
theorem xg253 : zg zms 253 = some (zm253.2.2.1, zm253.2.2.2.1, zc253) := rfl
theorem xr253 : zar 253 = (1, 11) := by decide +kernel
set_option maxRecDepth 4000 in
theorem xg254 : zg zms 254 = some (zm254.2.2.1, zm254.2.2.2.1, zc254) := rfl
theorem xr254 : zar 254 = (2, 11) := by decide +kernel
set_option maxRecDepth 4000 in
theorem xg255 : zg zms 255 = some (zm255.2.2.1, zm255.2.2.2.1, zc255) := rfl
theorem xr255 : zar 255 = (1, 11) := by decide +kernel
set_option maxRecDepth 4000 in
theorem xg256 : zg zms 256 = some (zm256.2.2.1, zm256.2.2.2.1, zc256) := rfl
theorem xr256 : zar 256 = (1, 11) := by decide +kernel
set_option maxRecDepth 4000 in
theorem xg257 : zg zms 257 = some (zm257.2.2.1, zm257.2.2.2.1, zc257) := rfl
theorem xr257 : zar 257 = (1, 11) := by decide +kernel
set_option maxRecDepth 4000 in
theorem xg258 : zg zms 258 = some (zm258.2.2.1, zm258.2.2.2.1, zc258) := rfl
theorem xr258 : zar 258 = (1, 11) := by decide +kernel
set_option maxRecDepth 4000 in
theorem xg261 : zg zms 261 = some (zm261.2.2.1, zm261.2.2.2.1, zc261) := rfl
theorem xr261 : zar 261 = (2, 11) := by decide +kernel
set_option maxRecDepth 4000 in
theorem xg262 : zg zms 262 = some (zm262.2.2.1, zm262.2.2.2.1, zc262) := rfl
theorem xr262 : zar 262 = (1, 11) := by decide +kernel
set_option maxRecDepth 4000 in
theorem xg270 : zg zms 270 = some (zm270.2.2.1, zm270.2.2.2.1, zc270) := rfl
theorem xr270 : zar 270 = (2, 11) := by decide +kernel
set_option maxRecDepth 4000 in
theorem xg271 : zg zms 271 = some (zm271.2.2.1, zm271.2.2.2.1, zc271) := rfl
theorem xr271 : zar 271 = (2, 11) := by decide +kernel
set_option maxRecDepth 4000 in
theorem xg272 : zg zms 272 = some (zm272.2.2.1, zm272.2.2.2.1, zc272) := rfl
theorem xr272 : zar 272 = (1, 11) := by decide +kernel
/-- LentToolsModel.isChain -/
def D249_25 (F : Nat) (v1 : Int32) (v2 : Int32) (v3 : Int32) (v4 : Int32) (m : xS) : Option (Int32 × xS) :=
  some (0, m)
set_option maxRecDepth 20000 in
theorem T249_25 {B : zHp} (H : yH0 B) {e : Nat} (he : 4 ≤ e + 1) (F : Nat) {v1 : Int32} {v2 : Int32} {v3 : Int32} {v4 : Int32} {lv : List (Nat × Value)} {m : xS} {x : Int32 × xS} (l0 : zld lv 0 = some (.ref 70)) (l1 : zld lv 1 = some (.int v1)) (l2 : zld lv 2 = some (.int v2)) (l3 : zld lv 3 = some (.int v3)) (l4 : zld lv 4 = some (.int v4)) (h : D249_25 F v1 v2 v3 v4 m = some x) : zR none e 5 (some .boolean) zc249 (25, lv, []) (xW B m) (some (.int x.1), xW B x.2) := by
  unfold D249_25 at h
  refine r_s (fr' := (26, lv, [.int 0])) (hp' := xW B m) (q := (.iconst 0, 1, 0, 0, .null)) rfl (fun _ => rfl) (Nat.le_refl _) ?_
  obtain rfl := Option.some.inj h
  exact q_ri (q := (.ireturn, 1, 0, 0, .null)) rfl (fun _ => rfl) rfl rfl
def D249_59 (F : Nat) (v1 : Int32) (v2 : Int32) (v3 : Int32) (v4 : Int32) (m : xS) : Option (Int32 × xS) :=
  some (0, m)
set_option maxRecDepth 20000 in
theorem T249_59 {B : zHp} (H : yH0 B) {e : Nat} (he : 4 ≤ e + 1) (F : Nat) {v1 : Int32} {v2 : Int32} {v3 : Int32} {v4 : Int32} {lv : List (Nat × Value)} {m : xS} {x : Int32 × xS} (l0 : zld lv 0 = some (.ref 70)) (l1 : zld lv 1 = some (.int v1)) (l2 : zld lv 2 = some (.int v2)) (l3 : zld lv 3 = some (.int v3)) (l4 : zld lv 4 = some (.int v4)) (h : D249_59 F v1 v2 v3 v4 m = some x) : zR none e 5 (some .boolean) zc249 (59, lv, []) (xW B m) (some (.int x.1), xW B x.2) := by
  unfold D249_59 at h
  refine r_s (fr' := (60, lv, [.int 0])) (hp' := xW B m) (q := (.iconst 0, 1, 0, 0, .null)) rfl (fun _ => rfl) (Nat.le_refl _) ?_
  obtain rfl := Option.some.inj h
  exact q_ri (q := (.ireturn, 1, 0, 0, .null)) rfl (fun _ => rfl) rfl rfl
def D249 (F : Nat) (v1 : Int32) (v2 : Int32) (v3 : Int32) (v4 : Int32) (m : xS) : Option (Int32 × xS) :=
  (D236 F v3 v4 (v4 - 1) m).bind fun q8 =>
    if zcmp .ne q8.1 v2 = true then
      D249_25 F v1 v2 v3 v4 q8.2
    else
      (D237 F v3 v4 q8.2).bind fun q19 =>
        if zcmp .ne q19.1 0 = true then
          (D208 F v1 0 q19.2).bind fun q34 =>
            (D238 F v3 v4 q34.1 q34.2).bind fun q37 =>
              if zcmp .ne q37.1 0 = true then
                D249_59 F v1 v2 v3 v4 q37.2
              else
                (D208 F v1 3 q37.2).bind fun q50 =>
                  (D238 F v3 v4 q50.1 q50.2).bind fun q53 =>
                    if zcmp .eq q53.1 0 = true then
                      (D208 F v1 3 q53.2).bind fun q65 =>
                        (D239 F q65.1 v3 v4 q65.2).bind fun q71 =>
                          if xbo q71.1 = true then
                            some (q71.1, q71.2)
                          else none
                    else
                      D249_59 F v1 v2 v3 v4 q53.2
        else
          D249_25 F v1 v2 v3 v4 q19.2
set_option maxRecDepth 20000 in
theorem T249 {B : zHp} (H : yH0 B) {e : Nat} (he : 4 ≤ e + 1) (F : Nat) {v1 : Int32} {v2 : Int32} {v3 : Int32} {v4 : Int32} {lv : List (Nat × Value)} {m : xS} {x : Int32 × xS} (l0 : zld lv 0 = some (.ref 70)) (l1 : zld lv 1 = some (.int v1)) (l2 : zld lv 2 = some (.int v2)) (l3 : zld lv 3 = some (.int v3)) (l4 : zld lv 4 = some (.int v4)) (h : D249 F v1 v2 v3 v4 m = some x) : zR none e 5 (some .boolean) zc249 (0, lv, []) (xW B m) (some (.int x.1), xW B x.2) := by
  unfold D249 at h
  refine q_lr (k := 1) (i := 0) (q := (.aload_n 0, 1, 0, 0, .null)) rfl (fun _ => rfl) l0 ?_
  refine q_li (k := 1) (i := 3) (q := (.iload_n 3, 1, 0, 0, .null)) rfl (fun _ => rfl) l3 ?_
  refine q_li (k := 2) (i := 4) (q := (.iload 4, 2, 0, 0, .null)) rfl (fun _ => rfl) l4 ?_
  refine q_li (k := 2) (i := 4) (q := (.iload 4, 2, 0, 0, .null)) rfl (fun _ => rfl) l4 ?_
  refine r_s (fr' := (7, lv, [.int 1, .int v4, .int v4, .int v3, .ref 70])) (hp' := xW B m) (q := (.iconst 1, 1, 0, 0, .null)) rfl (fun _ => rfl) (Nat.le_refl _) ?_
  refine r_s (fr' := (8, lv, [.int (v4 - 1), .int v4, .int v3, .ref 70])) (hp' := xW B m) (q := (.isub, 1, 0, 0, .null)) rfl (fun _ => rfl) (Nat.le_refl _) ?_
  obtain ⟨q8, h8, h⟩ := xbind h
  refine r_call (ix := 70) (as := [.int v3, .int v4, .int (v4 - 1)]) (rest := []) (rv := some (.int q8.1)) (hp' := xW B q8.2) (pc := 8) rfl xr236 rfl rfl rfl (xkd H (by decide)) (Nat.le_of_ble_eq_true rfl) (Z236 H h8 (by omega)) (Nat.le_refl _) ?_
  refine q_li (k := 1) (i := 2) (q := (.iload_n 2, 1, 0, 0, .null)) rfl (fun _ => rfl) l2 ?_
  refine r_ifc (len := 3) (a := 25) (b := 0) (v0 := .null) (cn := .ne) (off := 13) rfl (fun c => ?_) (fun c => ?_)
  · rw [if_pos c] at h
    exact T249_25 H he F l0 l1 l2 l3 l4 h
  · rw [if_neg (by rw [c]; decide)] at h
    refine q_lr (k := 1) (i := 0) (q := (.aload_n 0, 1, 0, 0, .null)) rfl (fun _ => rfl) l0 ?_
    refine q_li (k := 1) (i := 3) (q := (.iload_n 3, 1, 0, 0, .null)) rfl (fun _ => rfl) l3 ?_
    refine q_li (k := 2) (i := 4) (q := (.iload 4, 2, 0, 0, .null)) rfl (fun _ => rfl) l4 ?_
    obtain ⟨q19, h19, h⟩ := xbind h
    refine r_call (ix := 70) (as := [.int v3, .int v4]) (rest := []) (rv := some (.int q19.1)) (hp' := xW B q19.2) (pc := 19) rfl xr237 rfl rfl rfl (xkd H (by decide)) (Nat.le_of_ble_eq_true rfl) (Z237 H h19 (by omega)) (Nat.le_refl _) ?_
    refine r_if (len := 3) (a := 27) (b := 0) (v0 := .null) (cn := .ne) (off := 5) rfl (fun c => ?_) (fun c => ?_)
    · rw [if_pos c] at h
      refine q_lr (k := 1) (i := 0) (q := (.aload_n 0, 1, 0, 0, .null)) rfl (fun _ => rfl) l0 ?_
      refine q_li (k := 1) (i := 3) (q := (.iload_n 3, 1, 0, 0, .null)) rfl (fun _ => rfl) l3 ?_
      refine q_li (k := 2) (i := 4) (q := (.iload 4, 2, 0, 0, .null)) rfl (fun _ => rfl) l4 ?_
      refine q_lr (k := 1) (i := 0) (q := (.aload_n 0, 1, 0, 0, .null)) rfl (fun _ => rfl) l0 ?_
      refine q_li (k := 1) (i := 1) (q := (.iload_n 1, 1, 0, 0, .null)) rfl (fun _ => rfl) l1 ?_
      refine r_s (fr' := (34, lv, [.int 0, .int v1, .ref 70, .int v4, .int v3, .ref 70])) (hp' := xW B q19.2) (q := (.iconst 0, 1, 0, 0, .null)) rfl (fun _ => rfl) (Nat.le_refl _) ?_
      obtain ⟨q34, h34, h⟩ := xbind h
      refine r_call (ix := 70) (as := [.int v1, .int 0]) (rest := [.int v4, .int v3, .ref 70]) (rv := some (.int q34.1)) (hp' := xW B q34.2) (pc := 34) rfl xr208 rfl rfl rfl (xkd H (by decide)) (Nat.le_of_ble_eq_true rfl) (Z208 H h34 (by omega)) (Nat.le_refl _) ?_
      obtain ⟨q37, h37, h⟩ := xbind h
      refine r_call (ix := 70) (as := [.int v3, .int v4, .int q34.1]) (rest := []) (rv := some (.int q37.1)) (hp' := xW B q37.2) (pc := 37) rfl xr238 rfl rfl rfl (xkd H (by decide)) (Nat.le_of_ble_eq_true rfl) (Z238 H h37 (by omega)) (Nat.le_refl _) ?_
      refine r_if (len := 3) (a := 59) (b := 0) (v0 := .null) (cn := .ne) (off := 19) rfl (fun c => ?_) (fun c => ?_)
      · rw [if_pos c] at h
        exact T249_59 H he F l0 l1 l2 l3 l4 h
      · rw [if_neg (by rw [c]; decide)] at h
        refine q_lr (k := 1) (i := 0) (q := (.aload_n 0, 1, 0, 0, .null)) rfl (fun _ => rfl) l0 ?_
        refine q_li (k := 1) (i := 3) (q := (.iload_n 3, 1, 0, 0, .null)) rfl (fun _ => rfl) l3 ?_
        refine q_li (k := 2) (i := 4) (q := (.iload 4, 2, 0, 0, .null)) rfl (fun _ => rfl) l4 ?_
        refine q_lr (k := 1) (i := 0) (q := (.aload_n 0, 1, 0, 0, .null)) rfl (fun _ => rfl) l0 ?_
        refine q_li (k := 1) (i := 1) (q := (.iload_n 1, 1, 0, 0, .null)) rfl (fun _ => rfl) l1 ?_
        refine r_s (fr' := (50, lv, [.int 3, .int v1, .ref 70, .int v4, .int v3, .ref 70])) (hp' := xW B q37.2) (q := (.iconst 3, 1, 0, 0, .null)) rfl (fun _ => rfl) (Nat.le_refl _) ?_
        obtain ⟨q50, h50, h⟩ := xbind h
        refine r_call (ix := 70) (as := [.int v1, .int 3]) (rest := [.int v4, .int v3, .ref 70]) (rv := some (.int q50.1)) (hp' := xW B q50.2) (pc := 50) rfl xr208 rfl rfl rfl (xkd H (by decide)) (Nat.le_of_ble_eq_true rfl) (Z208 H h50 (by omega)) (Nat.le_refl _) ?_
        obtain ⟨q53, h53, h⟩ := xbind h
        refine r_call (ix := 70) (as := [.int v3, .int v4, .int q50.1]) (rest := []) (rv := some (.int q53.1)) (hp' := xW B q53.2) (pc := 53) rfl xr238 rfl rfl rfl (xkd H (by decide)) (Nat.le_of_ble_eq_true rfl) (Z238 H h53 (by omega)) (Nat.le_refl _) ?_
        refine r_if (len := 3) (a := 61) (b := 0) (v0 := .null) (cn := .eq) (off := 5) rfl (fun c => ?_) (fun c => ?_)
        · rw [if_pos c] at h
          refine q_lr (k := 1) (i := 0) (q := (.aload_n 0, 1, 0, 0, .null)) rfl (fun _ => rfl) l0 ?_
          refine q_lr (k := 1) (i := 0) (q := (.aload_n 0, 1, 0, 0, .null)) rfl (fun _ => rfl) l0 ?_
          refine q_li (k := 1) (i := 1) (q := (.iload_n 1, 1, 0, 0, .null)) rfl (fun _ => rfl) l1 ?_
          refine r_s (fr' := (65, lv, [.int 3, .int v1, .ref 70, .ref 70])) (hp' := xW B q53.2) (q := (.iconst 3, 1, 0, 0, .null)) rfl (fun _ => rfl) (Nat.le_refl _) ?_
          obtain ⟨q65, h65, h⟩ := xbind h
          refine r_call (ix := 70) (as := [.int v1, .int 3]) (rest := [.ref 70]) (rv := some (.int q65.1)) (hp' := xW B q65.2) (pc := 65) rfl xr208 rfl rfl rfl (xkd H (by decide)) (Nat.le_of_ble_eq_true rfl) (Z208 H h65 (by omega)) (Nat.le_refl _) ?_
          refine q_li (k := 1) (i := 3) (q := (.iload_n 3, 1, 0, 0, .null)) rfl (fun _ => rfl) l3 ?_
          refine q_li (k := 2) (i := 4) (q := (.iload 4, 2, 0, 0, .null)) rfl (fun _ => rfl) l4 ?_
          obtain ⟨q71, h71, h⟩ := xbind h
          refine r_call (ix := 70) (as := [.int q65.1, .int v3, .int v4]) (rest := []) (rv := some (.int q71.1)) (hp' := xW B q71.2) (pc := 71) rfl xr239 rfl rfl rfl (xkd H (by decide)) (Nat.le_of_ble_eq_true rfl) (Z239 H h71 (by omega)) (Nat.le_refl _) ?_
          obtain ⟨c1, h⟩ := xif h
          obtain rfl := Option.some.inj h
          exact q_ri (q := (.ireturn, 1, 0, 0, .null)) rfl (fun _ => rfl) rfl (xbo_ok c1)
        · rw [if_neg (by rw [c]; decide)] at h
          exact T249_59 H he F l0 l1 l2 l3 l4 h
    · rw [if_neg (by rw [c]; decide)] at h
      exact T249_25 H he F l0 l1 l2 l3 l4 h
set_option maxRecDepth 20000 in
theorem Z249 {B : zHp} (H : yH0 B) {F : Nat} {a1 : Int32} {a2 : Int32} {a3 : Int32} {a4 : Int32} {m : xS} {x : Int32 × xS} (h : D249 F a1 a2 a3 a4 m = some x) {d : Nat} (hd : 4 ≤ d) : zCan d 249 [.ref 70, .int a1, .int a2, .int a3, .int a4] (xW B m) (some (.int x.1), xW B x.2) := by
  obtain ⟨e, rfl⟩ : ∃ e, d = e + 1 := ⟨d - 1, by omega⟩
  refine zCan_body (nL := 5) (rt := (some .boolean)) (cd := zc249) (xg249) ⟨Nat.le_of_ble_eq_true rfl, by decide⟩ (Nat.le_refl _) ?_
  exact T249 H hd F rfl rfl rfl rfl rfl h
/-- LentToolsModel.hasChain -/
def D250_3 (F : Nat) : Nat → Int32 → Int32 → Int32 → Int32 → xS → Option (Int32 × xS)
  | 0, _, _, _, _, _ => none
  | f + 1, v1, v2, v3, v4, m =>
    (D235 F (m.1 80 0) v3 m).bind fun q12 =>
      if zcmp .ge v4 q12.1 = true then
        some (0, q12.2)
      else
        (D249 F v1 v2 v4 v3 q12.2).bind fun q24 =>
          if zcmp .ne q24.1 0 = true then
            some (1, (xu q24.2 70 27 v4))
          else
            D250_3 F f v1 v2 v3 (v4 + Int32.ofInt 1) q24.2
set_option maxRecDepth 20000 in
theorem T250_3 {B : zHp} (H : yH0 B) {e : Nat} (he : 5 ≤ e + 1) (F : Nat) : ∀ (f : Nat) {v1 : Int32} {v2 : Int32} {v3 : Int32} {v4 : Int32} {lv : List (Nat × Value)} {m : xS} {x : Int32 × xS}, zld lv 0 = some (.ref 70) → zld lv 1 = some (.int v1) → zld lv 2 = some (.int v2) → zld lv 3 = some (.int v3) → zld lv 4 = some (.int v4) → D250_3 F f v1 v2 v3 v4 m = some x → zR none e 5 (some .boolean) zc250 (3, lv, []) (xW B m) (some (.int x.1), xW B x.2) := by
  intro f
  induction f with
  | zero => intro v1 v2 v3 v4 lv m x l0 l1 l2 l3 l4 h; cases h
  | succ f ih =>
    intro v1 v2 v3 v4 lv m x l0 l1 l2 l3 l4 h
    unfold D250_3 at h
    refine q_li (k := 2) (i := 4) (q := (.iload 4, 2, 0, 0, .null)) rfl (fun _ => rfl) l4 ?_
    refine q_lr (k := 1) (i := 0) (q := (.aload_n 0, 1, 0, 0, .null)) rfl (fun _ => rfl) l0 ?_
    refine r_gr (c := 80) H (pc := 6) rfl (by decide) (by decide) ?_
    refine r_s (fr' := (10, lv, [.int 0, .ref 80, .int v4])) (hp' := xW B m) (q := (.iconst 0, 1, 0, 0, .null)) rfl (fun _ => rfl) (Nat.le_refl _) ?_
    refine q_al (n := 148) (v := (m.1 80 0)) H (pc := 10) rfl (by decide) (by decide) rfl ?_
    refine q_li (k := 1) (i := 3) (q := (.iload_n 3, 1, 0, 0, .null)) rfl (fun _ => rfl) l3 ?_
    obtain ⟨q12, h12, h⟩ := xbind h
    refine r_callS (as := [.int (m.1 80 0), .int v3]) (rest := [.int v4]) (rv := some (.int q12.1)) (hp' := xW B q12.2) (pc := 12) rfl xr235 rfl rfl rfl (Nat.le_of_ble_eq_true rfl) (Z235 H h12 (by omega)) (Nat.le_refl _) ?_
    refine r_ifc (len := 3) (a := 47) (b := 0) (v0 := .null) (cn := .ge) (off := 32) rfl (fun c => ?_) (fun c => ?_)
    · rw [if_pos c] at h
      refine r_s (fr' := (48, lv, [.int 0])) (hp' := xW B q12.2) (q := (.iconst 0, 1, 0, 0, .null)) rfl (fun _ => rfl) (Nat.le_refl _) ?_
      obtain rfl := Option.some.inj h
      exact q_ri (q := (.ireturn, 1, 0, 0, .null)) rfl (fun _ => rfl) rfl rfl
    · rw [if_neg (by rw [c]; decide)] at h
      refine q_lr (k := 1) (i := 0) (q := (.aload_n 0, 1, 0, 0, .null)) rfl (fun _ => rfl) l0 ?_
      refine q_li (k := 1) (i := 1) (q := (.iload_n 1, 1, 0, 0, .null)) rfl (fun _ => rfl) l1 ?_
      refine q_li (k := 1) (i := 2) (q := (.iload_n 2, 1, 0, 0, .null)) rfl (fun _ => rfl) l2 ?_
      refine q_li (k := 2) (i := 4) (q := (.iload 4, 2, 0, 0, .null)) rfl (fun _ => rfl) l4 ?_
      refine q_li (k := 1) (i := 3) (q := (.iload_n 3, 1, 0, 0, .null)) rfl (fun _ => rfl) l3 ?_
      obtain ⟨q24, h24, h⟩ := xbind h
      refine r_call (ix := 70) (as := [.int v1, .int v2, .int v4, .int v3]) (rest := []) (rv := some (.int q24.1)) (hp' := xW B q24.2) (pc := 24) rfl xr249 rfl rfl rfl (xkd H (by decide)) (Nat.le_of_ble_eq_true rfl) (Z249 H h24 (by omega)) (Nat.le_refl _) ?_
      refine r_if (len := 3) (a := 33) (b := 0) (v0 := .null) (cn := .ne) (off := 6) rfl (fun c => ?_) (fun c => ?_)
      · rw [if_pos c] at h
        refine q_lr (k := 1) (i := 0) (q := (.aload_n 0, 1, 0, 0, .null)) rfl (fun _ => rfl) l0 ?_
        refine q_li (k := 2) (i := 4) (q := (.iload 4, 2, 0, 0, .null)) rfl (fun _ => rfl) l4 ?_
        refine r_pi (s2 := (xu q24.2 70 27 v4)) H (pc := 36) rfl (by decide) rfl rfl ?_
        refine r_s (fr' := (40, lv, [.int 1])) (hp' := xW B (xu q24.2 70 27 v4)) (q := (.iconst 1, 1, 0, 0, .null)) rfl (fun _ => rfl) (Nat.le_refl _) ?_
        obtain rfl := Option.some.inj h
        exact q_ri (q := (.ireturn, 1, 0, 0, .null)) rfl (fun _ => rfl) rfl rfl
      · rw [if_neg (by rw [c]; decide)] at h
        refine r_s (fr' := (41, lv, [])) (hp' := xW B q24.2) (q := (.goto 11, 3, 41, 0, .null)) rfl (fun _ => rfl) (Nat.le_refl _) ?_
        refine q_inc (i := 4) (n := 1) (q := (.iinc 4 1, 3, 0, 0, .null)) rfl (fun _ => rfl) l4 (by decide) ?_
        have l0_1 : zld (zs1 lv 4 (.int (v4 + Int32.ofInt 1))) 0 = some (.ref 70) := x_o1 l0 rfl rfl
        have l1_1 : zld (zs1 lv 4 (.int (v4 + Int32.ofInt 1))) 1 = some (.int v1) := x_o1 l1 rfl rfl
        have l2_1 : zld (zs1 lv 4 (.int (v4 + Int32.ofInt 1))) 2 = some (.int v2) := x_o1 l2 rfl rfl
        have l3_1 : zld (zs1 lv 4 (.int (v4 + Int32.ofInt 1))) 3 = some (.int v3) := x_o1 l3 rfl rfl
        have l4_1 : zld (zs1 lv 4 (.int (v4 + Int32.ofInt 1))) 4 = some (.int (v4 + Int32.ofInt 1)) := zs1_ld _ _ _
        generalize (zs1 lv 4 (.int (v4 + Int32.ofInt 1))) = lv1 at *
        refine r_s (fr' := (3, lv1, [])) (hp' := xW B q24.2) (q := (.goto (-41), 3, 3, 0, .null)) rfl (fun _ => rfl) (Nat.le_refl _) ?_
        exact ih l0_1 l1_1 l2_1 l3_1 l4_1 h
def D250 (F : Nat) (v1 : Int32) (v2 : Int32) (v3 : Int32) (m : xS) : Option (Int32 × xS) :=
  D250_3 F F v1 v2 v3 0 m
set_option maxRecDepth 20000 in
theorem T250 {B : zHp} (H : yH0 B) {e : Nat} (he : 5 ≤ e + 1) (F : Nat) {v1 : Int32} {v2 : Int32} {v3 : Int32} {lv : List (Nat × Value)} {m : xS} {x : Int32 × xS} (l0 : zld lv 0 = some (.ref 70)) (l1 : zld lv 1 = some (.int v1)) (l2 : zld lv 2 = some (.int v2)) (l3 : zld lv 3 = some (.int v3)) (h : D250 F v1 v2 v3 m = some x) : zR none e 5 (some .boolean) zc250 (0, lv, []) (xW B m) (some (.int x.1), xW B x.2) := by
  unfold D250 at h
  refine r_s (fr' := (1, lv, [.int 0])) (hp' := xW B m) (q := (.iconst 0, 1, 0, 0, .null)) rfl (fun _ => rfl) (Nat.le_refl _) ?_
  refine q_si (k := 2) (i := 4) (q := (.istore 4, 2, 0, 0, .null)) rfl (fun _ => rfl) (by decide) ?_
  have l0_1 : zld (zs1 lv 4 (.int 0)) 0 = some (.ref 70) := x_o1 l0 rfl rfl
  have l1_1 : zld (zs1 lv 4 (.int 0)) 1 = some (.int v1) := x_o1 l1 rfl rfl
  have l2_1 : zld (zs1 lv 4 (.int 0)) 2 = some (.int v2) := x_o1 l2 rfl rfl
  have l3_1 : zld (zs1 lv 4 (.int 0)) 3 = some (.int v3) := x_o1 l3 rfl rfl
  have l4_1 : zld (zs1 lv 4 (.int 0)) 4 = some (.int 0) := zs1_ld _ _ _
  generalize (zs1 lv 4 (.int 0)) = lv1 at *
  exact T250_3 H he F F l0_1 l1_1 l2_1 l3_1 l4_1 h
set_option maxRecDepth 20000 in
theorem Z250 {B : zHp} (H : yH0 B) {F : Nat} {a1 : Int32} {a2 : Int32} {a3 : Int32} {m : xS} {x : Int32 × xS} (h : D250 F a1 a2 a3 m = some x) {d : Nat} (hd : 5 ≤ d) : zCan d 250 [.ref 70, .int a1, .int a2, .int a3] (xW B m) (some (.int x.1), xW B x.2) := by
  obtain ⟨e, rfl⟩ : ∃ e, d = e + 1 := ⟨d - 1, by omega⟩
  refine zCan_body (nL := 5) (rt := (some .boolean)) (cd := zc250) (xg250) ⟨Nat.le_of_ble_eq_true rfl, by decide⟩ (Nat.le_refl _) ?_
  exact T250 H hd F rfl rfl rfl rfl h
/-- LentToolsModel.chainOf -/
def D251_60 (F : Nat) (g37 : Int32 → Int32 → Int32 → Int32 → Int32 → xS → Option (Int32 × xS)) (v1 : Int32) (v2 : Int32) (v3 : Int32) (v4 : Int32) (v5 : Int32) (w0 : Int32) (m : xS) : Option (Int32 × xS) :=
  (D250 F v1 v2 w0 m).bind fun q67 =>
    if zcmp .eq q67.1 0 = true then
      g37 v1 v2 v3 v4 (v5 + Int32.ofInt 1) q67.2
    else
      some (w0, q67.2)
set_option maxRecDepth 20000 in
theorem T251_60 {B : zHp} (H : yH0 B) {e : Nat} (he : 6 ≤ e + 1) (F : Nat) (g37 : Int32 → Int32 → Int32 → Int32 → Int32 → xS → Option (Int32 × xS)) (k37 : ∀ {v1 : Int32} {v2 : Int32} {v3 : Int32} {v4 : Int32} {v5 : Int32} {lv : List (Nat × Value)} {m : xS} {x : Int32 × xS}, zld lv 0 = some (.ref 70) → zld lv 1 = some (.int v1) → zld lv 2 = some (.int v2) → zld lv 3 = some (.int v3) → zld lv 4 = some (.int v4) → zld lv 5 = some (.int v5) → g37 v1 v2 v3 v4 v5 m = some x → zR none e 7 (some .int) zc251 (37, lv, []) (xW B m) (some (.int x.1), xW B x.2)) {v1 : Int32} {v2 : Int32} {v3 : Int32} {v4 : Int32} {v5 : Int32} {w0 : Int32} {lv : List (Nat × Value)} {m : xS} {x : Int32 × xS} (l0 : zld lv 0 = some (.ref 70)) (l1 : zld lv 1 = some (.int v1)) (l2 : zld lv 2 = some (.int v2)) (l3 : zld lv 3 = some (.int v3)) (l4 : zld lv 4 = some (.int v4)) (l5 : zld lv 5 = some (.int v5)) (h : D251_60 F g37 v1 v2 v3 v4 v5 w0 m = some x) : zR none e 7 (some .int) zc251 (60, lv, [.int w0]) (xW B m) (some (.int x.1), xW B x.2) := by
  unfold D251_60 at h
  refine q_si (k := 2) (i := 6) (q := (.istore 6, 2, 0, 0, .null)) rfl (fun _ => rfl) (by decide) ?_
  have l0_1 : zld (zs1 lv 6 (.int w0)) 0 = some (.ref 70) := x_o1 l0 rfl rfl
  have l1_1 : zld (zs1 lv 6 (.int w0)) 1 = some (.int v1) := x_o1 l1 rfl rfl
  have l2_1 : zld (zs1 lv 6 (.int w0)) 2 = some (.int v2) := x_o1 l2 rfl rfl
  have l3_1 : zld (zs1 lv 6 (.int w0)) 3 = some (.int v3) := x_o1 l3 rfl rfl
  have l4_1 : zld (zs1 lv 6 (.int w0)) 4 = some (.int v4) := x_o1 l4 rfl rfl
  have l5_1 : zld (zs1 lv 6 (.int w0)) 5 = some (.int v5) := x_o1 l5 rfl rfl
  have l6_1 : zld (zs1 lv 6 (.int w0)) 6 = some (.int w0) := zs1_ld _ _ _
  generalize (zs1 lv 6 (.int w0)) = lv1 at *
  refine q_lr (k := 1) (i := 0) (q := (.aload_n 0, 1, 0, 0, .null)) rfl (fun _ => rfl) l0_1 ?_
  refine q_li (k := 1) (i := 1) (q := (.iload_n 1, 1, 0, 0, .null)) rfl (fun _ => rfl) l1_1 ?_
  refine q_li (k := 1) (i := 2) (q := (.iload_n 2, 1, 0, 0, .null)) rfl (fun _ => rfl) l2_1 ?_
  refine q_li (k := 2) (i := 6) (q := (.iload 6, 2, 0, 0, .null)) rfl (fun _ => rfl) l6_1 ?_
  obtain ⟨q67, h67, h⟩ := xbind h
  refine r_call (ix := 70) (as := [.int v1, .int v2, .int w0]) (rest := []) (rv := some (.int q67.1)) (hp' := xW B q67.2) (pc := 67) rfl xr250 rfl rfl rfl (xkd H (by decide)) (Nat.le_of_ble_eq_true rfl) (Z250 H h67 (by omega)) (Nat.le_refl _) ?_
  refine r_if (len := 3) (a := 76) (b := 0) (v0 := .null) (cn := .eq) (off := 6) rfl (fun c => ?_) (fun c => ?_)
  · rw [if_pos c] at h
    refine q_inc (i := 5) (n := 1) (q := (.iinc 5 1, 3, 0, 0, .null)) rfl (fun _ => rfl) l5_1 (by decide) ?_
    have l0_2 : zld (zs1 lv1 5 (.int (v5 + Int32.ofInt 1))) 0 = some (.ref 70) := x_o1 l0_1 rfl rfl
    have l1_2 : zld (zs1 lv1 5 (.int (v5 + Int32.ofInt 1))) 1 = some (.int v1) := x_o1 l1_1 rfl rfl
    have l2_2 : zld (zs1 lv1 5 (.int (v5 + Int32.ofInt 1))) 2 = some (.int v2) := x_o1 l2_1 rfl rfl
    have l3_2 : zld (zs1 lv1 5 (.int (v5 + Int32.ofInt 1))) 3 = some (.int v3) := x_o1 l3_1 rfl rfl
    have l4_2 : zld (zs1 lv1 5 (.int (v5 + Int32.ofInt 1))) 4 = some (.int v4) := x_o1 l4_1 rfl rfl
    have l5_2 : zld (zs1 lv1 5 (.int (v5 + Int32.ofInt 1))) 5 = some (.int (v5 + Int32.ofInt 1)) := zs1_ld _ _ _
    have l6_2 : zld (zs1 lv1 5 (.int (v5 + Int32.ofInt 1))) 6 = some (.int w0) := x_o1 l6_1 rfl rfl
    generalize (zs1 lv1 5 (.int (v5 + Int32.ofInt 1))) = lv2 at *
    refine r_s (fr' := (37, lv2, [])) (hp' := xW B q67.2) (q := (.goto (-42), 3, 37, 0, .null)) rfl (fun _ => rfl) (Nat.le_refl _) ?_
    exact k37 l0_2 l1_2 l2_2 l3_2 l4_2 l5_2 h
  · rw [if_neg (by rw [c]; decide)] at h
    refine q_li (k := 2) (i := 6) (q := (.iload 6, 2, 0, 0, .null)) rfl (fun _ => rfl) l6_1 ?_
    obtain rfl := Option.some.inj h
    exact q_ri (q := (.ireturn, 1, 0, 0, .null)) rfl (fun _ => rfl) rfl rfl
def D251_37 (F : Nat) : Nat → Int32 → Int32 → Int32 → Int32 → Int32 → xS → Option (Int32 × xS)
  | 0, _, _, _, _, _, _ => none
  | f + 1, v1, v2, v3, v4, v5, m =>
    if zcmp .gt v5 v4 = true then
      some ((-1), m)
    else
      if zcmp .eq v3 0 = true then
        D251_60 F (D251_37 F f) v1 v2 v3 v4 v5 v5 m
      else
        D251_60 F (D251_37 F f) v1 v2 v3 v4 v5 ((v4 + 1) - v5) m
set_option maxRecDepth 20000 in
theorem T251_37 {B : zHp} (H : yH0 B) {e : Nat} (he : 6 ≤ e + 1) (F : Nat) : ∀ (f : Nat) {v1 : Int32} {v2 : Int32} {v3 : Int32} {v4 : Int32} {v5 : Int32} {lv : List (Nat × Value)} {m : xS} {x : Int32 × xS}, zld lv 0 = some (.ref 70) → zld lv 1 = some (.int v1) → zld lv 2 = some (.int v2) → zld lv 3 = some (.int v3) → zld lv 4 = some (.int v4) → zld lv 5 = some (.int v5) → D251_37 F f v1 v2 v3 v4 v5 m = some x → zR none e 7 (some .int) zc251 (37, lv, []) (xW B m) (some (.int x.1), xW B x.2) := by
  intro f
  induction f with
  | zero => intro v1 v2 v3 v4 v5 lv m x l0 l1 l2 l3 l4 l5 h; cases h
  | succ f ih =>
    intro v1 v2 v3 v4 v5 lv m x l0 l1 l2 l3 l4 l5 h
    unfold D251_37 at h
    refine q_li (k := 2) (i := 5) (q := (.iload 5, 2, 0, 0, .null)) rfl (fun _ => rfl) l5 ?_
    refine q_li (k := 2) (i := 4) (q := (.iload 4, 2, 0, 0, .null)) rfl (fun _ => rfl) l4 ?_
    refine r_ifc (len := 3) (a := 82) (b := 0) (v0 := .null) (cn := .gt) (off := 41) rfl (fun c => ?_) (fun c => ?_)
    · rw [if_pos c] at h
      refine r_s (fr' := (83, lv, [.int (-1)])) (hp' := xW B m) (q := (.iconst (-1), 1, 0, 0, .null)) rfl (fun _ => rfl) (Nat.le_refl _) ?_
      obtain rfl := Option.some.inj h
      exact q_ri (q := (.ireturn, 1, 0, 0, .null)) rfl (fun _ => rfl) rfl rfl
    · rw [if_neg (by rw [c]; decide)] at h
      refine q_li (k := 1) (i := 3) (q := (.iload_n 3, 1, 0, 0, .null)) rfl (fun _ => rfl) l3 ?_
      refine r_if (len := 3) (a := 58) (b := 0) (v0 := .null) (cn := .eq) (off := 13) rfl (fun c => ?_) (fun c => ?_)
      · rw [if_pos c] at h
        refine q_li (k := 2) (i := 5) (q := (.iload 5, 2, 0, 0, .null)) rfl (fun _ => rfl) l5 ?_
        exact T251_60 H he F _ ih l0 l1 l2 l3 l4 l5 h
      · rw [if_neg (by rw [c]; decide)] at h
        refine q_li (k := 2) (i := 4) (q := (.iload 4, 2, 0, 0, .null)) rfl (fun _ => rfl) l4 ?_
        refine r_s (fr' := (51, lv, [.int 1, .int v4])) (hp' := xW B m) (q := (.iconst 1, 1, 0, 0, .null)) rfl (fun _ => rfl) (Nat.le_refl _) ?_
        refine r_s (fr' := (52, lv, [.int (v4 + 1)])) (hp' := xW B m) (q := (.iadd, 1, 0, 0, .null)) rfl (fun _ => rfl) (Nat.le_refl _) ?_
        refine q_li (k := 2) (i := 5) (q := (.iload 5, 2, 0, 0, .null)) rfl (fun _ => rfl) l5 ?_
        refine r_s (fr' := (55, lv, [.int ((v4 + 1) - v5)])) (hp' := xW B m) (q := (.isub, 1, 0, 0, .null)) rfl (fun _ => rfl) (Nat.le_refl _) ?_
        refine r_s (fr' := (60, lv, [.int ((v4 + 1) - v5)])) (hp' := xW B m) (q := (.goto 5, 3, 60, 0, .null)) rfl (fun _ => rfl) (Nat.le_refl _) ?_
        exact T251_60 H he F _ ih l0 l1 l2 l3 l4 l5 h
def D251 (F : Nat) (v1 : Int32) (v2 : Int32) (v3 : Int32) (m : xS) : Option (Int32 × xS) :=
  (D208 F v1 3 m).bind fun q3 =>
    if zcmp .ne q3.1 v2 = true then
      (D208 F v1 0 q3.2).bind fun q15 =>
        if zcmp .ne q15.1 v2 = true then
          D251_37 F F v1 v2 v3 ((q15.2.1 80 0) - 1) 1 q15.2
        else
          some ((-1), q15.2)
    else
      some (0, q3.2)
set_option maxRecDepth 20000 in
theorem T251 {B : zHp} (H : yH0 B) {e : Nat} (he : 6 ≤ e + 1) (F : Nat) {v1 : Int32} {v2 : Int32} {v3 : Int32} {lv : List (Nat × Value)} {m : xS} {x : Int32 × xS} (l0 : zld lv 0 = some (.ref 70)) (l1 : zld lv 1 = some (.int v1)) (l2 : zld lv 2 = some (.int v2)) (l3 : zld lv 3 = some (.int v3)) (h : D251 F v1 v2 v3 m = some x) : zR none e 7 (some .int) zc251 (0, lv, []) (xW B m) (some (.int x.1), xW B x.2) := by
  unfold D251 at h
  refine q_lr (k := 1) (i := 0) (q := (.aload_n 0, 1, 0, 0, .null)) rfl (fun _ => rfl) l0 ?_
  refine q_li (k := 1) (i := 1) (q := (.iload_n 1, 1, 0, 0, .null)) rfl (fun _ => rfl) l1 ?_
  refine r_s (fr' := (3, lv, [.int 3, .int v1, .ref 70])) (hp' := xW B m) (q := (.iconst 3, 1, 0, 0, .null)) rfl (fun _ => rfl) (Nat.le_refl _) ?_
  obtain ⟨q3, h3, h⟩ := xbind h
  refine r_call (ix := 70) (as := [.int v1, .int 3]) (rest := []) (rv := some (.int q3.1)) (hp' := xW B q3.2) (pc := 3) rfl xr208 rfl rfl rfl (xkd H (by decide)) (Nat.le_of_ble_eq_true rfl) (Z208 H h3 (by omega)) (Nat.le_refl _) ?_
  refine q_li (k := 1) (i := 2) (q := (.iload_n 2, 1, 0, 0, .null)) rfl (fun _ => rfl) l2 ?_
  refine r_ifc (len := 3) (a := 12) (b := 0) (v0 := .null) (cn := .ne) (off := 5) rfl (fun c => ?_) (fun c => ?_)
  · rw [if_pos c] at h
    refine q_lr (k := 1) (i := 0) (q := (.aload_n 0, 1, 0, 0, .null)) rfl (fun _ => rfl) l0 ?_
    refine q_li (k := 1) (i := 1) (q := (.iload_n 1, 1, 0, 0, .null)) rfl (fun _ => rfl) l1 ?_
    refine r_s (fr' := (15, lv, [.int 0, .int v1, .ref 70])) (hp' := xW B q3.2) (q := (.iconst 0, 1, 0, 0, .null)) rfl (fun _ => rfl) (Nat.le_refl _) ?_
    obtain ⟨q15, h15, h⟩ := xbind h
    refine r_call (ix := 70) (as := [.int v1, .int 0]) (rest := []) (rv := some (.int q15.1)) (hp' := xW B q15.2) (pc := 15) rfl xr208 rfl rfl rfl (xkd H (by decide)) (Nat.le_of_ble_eq_true rfl) (Z208 H h15 (by omega)) (Nat.le_refl _) ?_
    refine q_li (k := 1) (i := 2) (q := (.iload_n 2, 1, 0, 0, .null)) rfl (fun _ => rfl) l2 ?_
    refine r_ifc (len := 3) (a := 24) (b := 0) (v0 := .null) (cn := .ne) (off := 5) rfl (fun c => ?_) (fun c => ?_)
    · rw [if_pos c] at h
      refine q_lr (k := 1) (i := 0) (q := (.aload_n 0, 1, 0, 0, .null)) rfl (fun _ => rfl) l0 ?_
      refine r_gr (c := 80) H (pc := 25) rfl (by decide) (by decide) ?_
      refine r_s (fr' := (29, lv, [.int 0, .ref 80])) (hp' := xW B q15.2) (q := (.iconst 0, 1, 0, 0, .null)) rfl (fun _ => rfl) (Nat.le_refl _) ?_
      refine q_al (n := 148) (v := (q15.2.1 80 0)) H (pc := 29) rfl (by decide) (by decide) rfl ?_
      refine r_s (fr' := (31, lv, [.int 1, .int (q15.2.1 80 0)])) (hp' := xW B q15.2) (q := (.iconst 1, 1, 0, 0, .null)) rfl (fun _ => rfl) (Nat.le_refl _) ?_
      refine r_s (fr' := (32, lv, [.int ((q15.2.1 80 0) - 1)])) (hp' := xW B q15.2) (q := (.isub, 1, 0, 0, .null)) rfl (fun _ => rfl) (Nat.le_refl _) ?_
      refine q_si (k := 2) (i := 4) (q := (.istore 4, 2, 0, 0, .null)) rfl (fun _ => rfl) (by decide) ?_
      have l0_1 : zld (zs1 lv 4 (.int ((q15.2.1 80 0) - 1))) 0 = some (.ref 70) := x_o1 l0 rfl rfl
      have l1_1 : zld (zs1 lv 4 (.int ((q15.2.1 80 0) - 1))) 1 = some (.int v1) := x_o1 l1 rfl rfl
      have l2_1 : zld (zs1 lv 4 (.int ((q15.2.1 80 0) - 1))) 2 = some (.int v2) := x_o1 l2 rfl rfl
      have l3_1 : zld (zs1 lv 4 (.int ((q15.2.1 80 0) - 1))) 3 = some (.int v3) := x_o1 l3 rfl rfl
      have l4_1 : zld (zs1 lv 4 (.int ((q15.2.1 80 0) - 1))) 4 = some (.int ((q15.2.1 80 0) - 1)) := zs1_ld _ _ _
      generalize (zs1 lv 4 (.int ((q15.2.1 80 0) - 1))) = lv1 at *
      refine r_s (fr' := (35, lv1, [.int 1])) (hp' := xW B q15.2) (q := (.iconst 1, 1, 0, 0, .null)) rfl (fun _ => rfl) (Nat.le_refl _) ?_
      refine q_si (k := 2) (i := 5) (q := (.istore 5, 2, 0, 0, .null)) rfl (fun _ => rfl) (by decide) ?_
      have l0_2 : zld (zs1 lv1 5 (.int 1)) 0 = some (.ref 70) := x_o1 l0_1 rfl rfl
      have l1_2 : zld (zs1 lv1 5 (.int 1)) 1 = some (.int v1) := x_o1 l1_1 rfl rfl
      have l2_2 : zld (zs1 lv1 5 (.int 1)) 2 = some (.int v2) := x_o1 l2_1 rfl rfl
      have l3_2 : zld (zs1 lv1 5 (.int 1)) 3 = some (.int v3) := x_o1 l3_1 rfl rfl
      have l4_2 : zld (zs1 lv1 5 (.int 1)) 4 = some (.int ((q15.2.1 80 0) - 1)) := x_o1 l4_1 rfl rfl
      have l5_2 : zld (zs1 lv1 5 (.int 1)) 5 = some (.int 1) := zs1_ld _ _ _
      generalize (zs1 lv1 5 (.int 1)) = lv2 at *
      exact T251_37 H he F F l0_2 l1_2 l2_2 l3_2 l4_2 l5_2 h
    · rw [if_neg (by rw [c]; decide)] at h
      refine r_s (fr' := (23, lv, [.int (-1)])) (hp' := xW B q15.2) (q := (.iconst (-1), 1, 0, 0, .null)) rfl (fun _ => rfl) (Nat.le_refl _) ?_
      obtain rfl := Option.some.inj h
      exact q_ri (q := (.ireturn, 1, 0, 0, .null)) rfl (fun _ => rfl) rfl rfl
  · rw [if_neg (by rw [c]; decide)] at h
    refine r_s (fr' := (11, lv, [.int 0])) (hp' := xW B q3.2) (q := (.iconst 0, 1, 0, 0, .null)) rfl (fun _ => rfl) (Nat.le_refl _) ?_
    obtain rfl := Option.some.inj h
    exact q_ri (q := (.ireturn, 1, 0, 0, .null)) rfl (fun _ => rfl) rfl rfl
set_option maxRecDepth 20000 in
theorem Z251 {B : zHp} (H : yH0 B) {F : Nat} {a1 : Int32} {a2 : Int32} {a3 : Int32} {m : xS} {x : Int32 × xS} (h : D251 F a1 a2 a3 m = some x) {d : Nat} (hd : 6 ≤ d) : zCan d 251 [.ref 70, .int a1, .int a2, .int a3] (xW B m) (some (.int x.1), xW B x.2) := by
  obtain ⟨e, rfl⟩ : ∃ e, d = e + 1 := ⟨d - 1, by omega⟩
  refine zCan_body (nL := 7) (rt := (some .int)) (cd := zc251) (xg251) ⟨Nat.le_of_ble_eq_true rfl, by decide⟩ (Nat.le_refl _) ?_
  exact T251 H hd F rfl rfl rfl rfl h
/-- LentToolsModel.chain -/
def D252_29 (F : Nat) (v1 : Int32) (v2 : Int32) (v3 : Int32) (v4 : Int32) (m : xS) : Option (Int32 × xS) :=
  some ((-3), m)
set_option maxRecDepth 20000 in
theorem T252_29 {B : zHp} (H : yH0 B) {e : Nat} (he : 7 ≤ e + 1) (F : Nat) {v1 : Int32} {v2 : Int32} {v3 : Int32} {v4 : Int32} {lv : List (Nat × Value)} {m : xS} {x : Int32 × xS} (l0 : zld lv 0 = some (.ref 70)) (l1 : zld lv 1 = some (.int v1)) (l2 : zld lv 2 = some (.int v2)) (l3 : zld lv 3 = some (.int v3)) (l4 : zld lv 4 = some (.int v4)) (h : D252_29 F v1 v2 v3 v4 m = some x) : zR none e 6 (some .int) zc252 (29, lv, []) (xW B m) (some (.int x.1), xW B x.2) := by
  unfold D252_29 at h
  refine r_s (fr' := (31, lv, [.int (-3)])) (hp' := xW B m) (q := (.bipush (-3), 2, 0, 0, .null)) rfl (fun _ => rfl) (Nat.le_refl _) ?_
  obtain rfl := Option.some.inj h
  exact q_ri (q := (.ireturn, 1, 0, 0, .null)) rfl (fun _ => rfl) rfl rfl
def D252_60 (F : Nat) (v1 : Int32) (v2 : Int32) (v3 : Int32) (v4 : Int32) (m : xS) : Option (Int32 × xS) :=
  some ((-2), m)
set_option maxRecDepth 20000 in
theorem T252_60 {B : zHp} (H : yH0 B) {e : Nat} (he : 7 ≤ e + 1) (F : Nat) {v1 : Int32} {v2 : Int32} {v3 : Int32} {v4 : Int32} {lv : List (Nat × Value)} {m : xS} {x : Int32 × xS} (l0 : zld lv 0 = some (.ref 70)) (l1 : zld lv 1 = some (.int v1)) (l2 : zld lv 2 = some (.int v2)) (l3 : zld lv 3 = some (.int v3)) (l4 : zld lv 4 = some (.int v4)) (h : D252_60 F v1 v2 v3 v4 m = some x) : zR none e 6 (some .int) zc252 (60, lv, []) (xW B m) (some (.int x.1), xW B x.2) := by
  unfold D252_60 at h
  refine r_s (fr' := (62, lv, [.int (-2)])) (hp' := xW B m) (q := (.bipush (-2), 2, 0, 0, .null)) rfl (fun _ => rfl) (Nat.le_refl _) ?_
  obtain rfl := Option.some.inj h
  exact q_ri (q := (.ireturn, 1, 0, 0, .null)) rfl (fun _ => rfl) rfl rfl
def D252 (F : Nat) (v1 : Int32) (v2 : Int32) (v3 : Int32) (v4 : Int32) (m : xS) : Option (Int32 × xS) :=
  (D206 F v1 m).bind fun q2 =>
    if zcmp .eq q2.1 0 = true then
      D252_29 F v1 v2 v3 v4 q2.2
    else
      (D205 F v2 q2.2).bind fun q10 =>
        if zcmp .eq q10.1 0 = true then
          D252_29 F v1 v2 v3 v4 q10.2
        else
          (D158 F (v4 : Int32).toInt64 0 6 q10.2).bind fun q23 =>
            if zcmp .ne q23.1 0 = true then
              (D208 F v1 0 q23.2).bind fun q35 =>
                if zcmp .ne q35.1 v2 = true then
                  (D251 F v1 v2 v3 q35.2).bind fun q67 =>
                    if zcmp .ge q67.1 0 = true then
                      if zcmp .ge v4 2 = true then
                        if zcmp .ge (v4 - 2) q67.1 = true then
                          some ((-2), q67.2)
                        else
                          (D236 F (q67.2.1 70 27) q67.1 (v4 - 2) q67.2).bind fun q124 =>
                            some (q124.1, q124.2)
                      else
                        if zcmp .ne v4 0 = true then
                          (D214 F v1 q67.1 q67.2).bind fun q100 =>
                            some (q100.1, q100.2)
                        else
                          some (q67.1, q67.2)
                    else
                      some ((-2), q67.2)
                else
                  if zcmp .ge v4 2 = true then
                    D252_60 F v1 v2 v3 v4 q35.2
                  else
                    (D212 F v1 q35.2).bind fun q50 =>
                      if zcmp .eq q50.1 0 = true then
                        D252_60 F v1 v2 v3 v4 q50.2
                      else
                        some (0, q50.2)
            else
              D252_29 F v1 v2 v3 v4 q23.2
set_option maxRecDepth 20000 in
theorem T252 {B : zHp} (H : yH0 B) {e : Nat} (he : 7 ≤ e + 1) (F : Nat) {v1 : Int32} {v2 : Int32} {v3 : Int32} {v4 : Int32} {lv : List (Nat × Value)} {m : xS} {x : Int32 × xS} (l0 : zld lv 0 = some (.ref 70)) (l1 : zld lv 1 = some (.int v1)) (l2 : zld lv 2 = some (.int v2)) (l3 : zld lv 3 = some (.int v3)) (l4 : zld lv 4 = some (.int v4)) (h : D252 F v1 v2 v3 v4 m = some x) : zR none e 6 (some .int) zc252 (0, lv, []) (xW B m) (some (.int x.1), xW B x.2) := by
  unfold D252 at h
  refine q_lr (k := 1) (i := 0) (q := (.aload_n 0, 1, 0, 0, .null)) rfl (fun _ => rfl) l0 ?_
  refine q_li (k := 1) (i := 1) (q := (.iload_n 1, 1, 0, 0, .null)) rfl (fun _ => rfl) l1 ?_
  obtain ⟨q2, h2, h⟩ := xbind h
  refine r_call (ix := 70) (as := [.int v1]) (rest := []) (rv := some (.int q2.1)) (hp' := xW B q2.2) (pc := 2) rfl xr206 rfl rfl rfl (xkd H (by decide)) (Nat.le_of_ble_eq_true rfl) (Z206 H h2 (by omega)) (Nat.le_refl _) ?_
  refine r_if (len := 3) (a := 29) (b := 0) (v0 := .null) (cn := .eq) (off := 24) rfl (fun c => ?_) (fun c => ?_)
  · rw [if_pos c] at h
    exact T252_29 H he F l0 l1 l2 l3 l4 h
  · rw [if_neg (by rw [c]; decide)] at h
    refine q_lr (k := 1) (i := 0) (q := (.aload_n 0, 1, 0, 0, .null)) rfl (fun _ => rfl) l0 ?_
    refine q_li (k := 1) (i := 2) (q := (.iload_n 2, 1, 0, 0, .null)) rfl (fun _ => rfl) l2 ?_
    obtain ⟨q10, h10, h⟩ := xbind h
    refine r_call (ix := 70) (as := [.int v2]) (rest := []) (rv := some (.int q10.1)) (hp' := xW B q10.2) (pc := 10) rfl xr205 rfl rfl rfl (xkd H (by decide)) (Nat.le_of_ble_eq_true rfl) (Z205 H h10 (by omega)) (Nat.le_refl _) ?_
    refine r_if (len := 3) (a := 29) (b := 0) (v0 := .null) (cn := .eq) (off := 16) rfl (fun c => ?_) (fun c => ?_)
    · rw [if_pos c] at h
      exact T252_29 H he F l0 l1 l2 l3 l4 h
    · rw [if_neg (by rw [c]; decide)] at h
      refine q_li (k := 2) (i := 4) (q := (.iload 4, 2, 0, 0, .null)) rfl (fun _ => rfl) l4 ?_
      refine r_s (fr' := (19, lv, [.long (v4 : Int32).toInt64])) (hp' := xW B q10.2) (q := (.i2l, 1, 0, 0, .null)) rfl (fun _ => rfl) (Nat.le_refl _) ?_
      refine r_s (fr' := (20, lv, [.long 0, .long (v4 : Int32).toInt64])) (hp' := xW B q10.2) (q := (.lconst 0, 1, 0, 0, .null)) rfl (fun _ => rfl) (Nat.le_refl _) ?_
      refine r_s (fr' := (23, lv, [.long 6, .long 0, .long (v4 : Int32).toInt64])) (hp' := xW B q10.2) (q := (.ldc2_w 413, 3, 0, 0, .long 6)) rfl (fun _ => rfl) (Nat.le_refl _) ?_
      obtain ⟨q23, h23, h⟩ := xbind h
      refine r_callS (as := [.long (v4 : Int32).toInt64, .long 0, .long 6]) (rest := []) (rv := some (.int q23.1)) (hp' := xW B q23.2) (pc := 23) rfl xr158 rfl rfl rfl (Nat.le_of_ble_eq_true rfl) (Z158 H h23 (by omega)) (Nat.le_refl _) ?_
      refine r_if (len := 3) (a := 32) (b := 0) (v0 := .null) (cn := .ne) (off := 6) rfl (fun c => ?_) (fun c => ?_)
      · rw [if_pos c] at h
        refine q_lr (k := 1) (i := 0) (q := (.aload_n 0, 1, 0, 0, .null)) rfl (fun _ => rfl) l0 ?_
        refine q_li (k := 1) (i := 1) (q := (.iload_n 1, 1, 0, 0, .null)) rfl (fun _ => rfl) l1 ?_
        refine r_s (fr' := (35, lv, [.int 0, .int v1, .ref 70])) (hp' := xW B q23.2) (q := (.iconst 0, 1, 0, 0, .null)) rfl (fun _ => rfl) (Nat.le_refl _) ?_
        obtain ⟨q35, h35, h⟩ := xbind h
        refine r_call (ix := 70) (as := [.int v1, .int 0]) (rest := []) (rv := some (.int q35.1)) (hp' := xW B q35.2) (pc := 35) rfl xr208 rfl rfl rfl (xkd H (by decide)) (Nat.le_of_ble_eq_true rfl) (Z208 H h35 (by omega)) (Nat.le_refl _) ?_
        refine q_li (k := 1) (i := 2) (q := (.iload_n 2, 1, 0, 0, .null)) rfl (fun _ => rfl) l2 ?_
        refine r_ifc (len := 3) (a := 63) (b := 0) (v0 := .null) (cn := .ne) (off := 24) rfl (fun c => ?_) (fun c => ?_)
        · rw [if_pos c] at h
          refine q_lr (k := 1) (i := 0) (q := (.aload_n 0, 1, 0, 0, .null)) rfl (fun _ => rfl) l0 ?_
          refine q_li (k := 1) (i := 1) (q := (.iload_n 1, 1, 0, 0, .null)) rfl (fun _ => rfl) l1 ?_
          refine q_li (k := 1) (i := 2) (q := (.iload_n 2, 1, 0, 0, .null)) rfl (fun _ => rfl) l2 ?_
          refine q_li (k := 1) (i := 3) (q := (.iload_n 3, 1, 0, 0, .null)) rfl (fun _ => rfl) l3 ?_
          obtain ⟨q67, h67, h⟩ := xbind h
          refine r_call (ix := 70) (as := [.int v1, .int v2, .int v3]) (rest := []) (rv := some (.int q67.1)) (hp' := xW B q67.2) (pc := 67) rfl xr251 rfl rfl rfl (xkd H (by decide)) (Nat.le_of_ble_eq_true rfl) (Z251 H h67 (by omega)) (Nat.le_refl _) ?_
          refine q_si (k := 2) (i := 5) (q := (.istore 5, 2, 0, 0, .null)) rfl (fun _ => rfl) (by decide) ?_
          have l0_1 : zld (zs1 lv 5 (.int q67.1)) 0 = some (.ref 70) := x_o1 l0 rfl rfl
          have l1_1 : zld (zs1 lv 5 (.int q67.1)) 1 = some (.int v1) := x_o1 l1 rfl rfl
          have l2_1 : zld (zs1 lv 5 (.int q67.1)) 2 = some (.int v2) := x_o1 l2 rfl rfl
          have l3_1 : zld (zs1 lv 5 (.int q67.1)) 3 = some (.int v3) := x_o1 l3 rfl rfl
          have l4_1 : zld (zs1 lv 5 (.int q67.1)) 4 = some (.int v4) := x_o1 l4 rfl rfl
          have l5_1 : zld (zs1 lv 5 (.int q67.1)) 5 = some (.int q67.1) := zs1_ld _ _ _
          generalize (zs1 lv 5 (.int q67.1)) = lv1 at *
          refine q_li (k := 2) (i := 5) (q := (.iload 5, 2, 0, 0, .null)) rfl (fun _ => rfl) l5_1 ?_
          refine r_if (len := 3) (a := 80) (b := 0) (v0 := .null) (cn := .ge) (off := 6) rfl (fun c => ?_) (fun c => ?_)
          · rw [if_pos c] at h
            refine q_li (k := 2) (i := 4) (q := (.iload 4, 2, 0, 0, .null)) rfl (fun _ => rfl) l4_1 ?_
            refine r_s (fr' := (83, lv1, [.int 2, .int v4])) (hp' := xW B q67.2) (q := (.iconst 2, 1, 0, 0, .null)) rfl (fun _ => rfl) (Nat.le_refl _) ?_
            refine r_ifc (len := 3) (a := 104) (b := 0) (v0 := .null) (cn := .ge) (off := 21) rfl (fun c => ?_) (fun c => ?_)
            · rw [if_pos c] at h
              refine q_li (k := 2) (i := 4) (q := (.iload 4, 2, 0, 0, .null)) rfl (fun _ => rfl) l4_1 ?_
              refine r_s (fr' := (107, lv1, [.int 2, .int v4])) (hp' := xW B q67.2) (q := (.iconst 2, 1, 0, 0, .null)) rfl (fun _ => rfl) (Nat.le_refl _) ?_
              refine r_s (fr' := (108, lv1, [.int (v4 - 2)])) (hp' := xW B q67.2) (q := (.isub, 1, 0, 0, .null)) rfl (fun _ => rfl) (Nat.le_refl _) ?_
              refine q_li (k := 2) (i := 5) (q := (.iload 5, 2, 0, 0, .null)) rfl (fun _ => rfl) l5_1 ?_
              refine r_ifc (len := 3) (a := 130) (b := 0) (v0 := .null) (cn := .ge) (off := 20) rfl (fun c => ?_) (fun c => ?_)
              · rw [if_pos c] at h
                refine r_s (fr' := (132, lv1, [.int (-2)])) (hp' := xW B q67.2) (q := (.bipush (-2), 2, 0, 0, .null)) rfl (fun _ => rfl) (Nat.le_refl _) ?_
                obtain rfl := Option.some.inj h
                exact q_ri (q := (.ireturn, 1, 0, 0, .null)) rfl (fun _ => rfl) rfl rfl
              · rw [if_neg (by rw [c]; decide)] at h
                refine q_lr (k := 1) (i := 0) (q := (.aload_n 0, 1, 0, 0, .null)) rfl (fun _ => rfl) l0_1 ?_
                refine q_lr (k := 1) (i := 0) (q := (.aload_n 0, 1, 0, 0, .null)) rfl (fun _ => rfl) l0_1 ?_
                refine r_gi (v := (q67.2.1 70 27)) H (pc := 115) (i := _) rfl (by decide) (by decide) rfl ?_
                refine q_li (k := 2) (i := 5) (q := (.iload 5, 2, 0, 0, .null)) rfl (fun _ => rfl) l5_1 ?_
                refine q_li (k := 2) (i := 4) (q := (.iload 4, 2, 0, 0, .null)) rfl (fun _ => rfl) l4_1 ?_
                refine r_s (fr' := (123, lv1, [.int 2, .int v4, .int q67.1, .int (q67.2.1 70 27), .ref 70])) (hp' := xW B q67.2) (q := (.iconst 2, 1, 0, 0, .null)) rfl (fun _ => rfl) (Nat.le_refl _) ?_
                refine r_s (fr' := (124, lv1, [.int (v4 - 2), .int q67.1, .int (q67.2.1 70 27), .ref 70])) (hp' := xW B q67.2) (q := (.isub, 1, 0, 0, .null)) rfl (fun _ => rfl) (Nat.le_refl _) ?_
                obtain ⟨q124, h124, h⟩ := xbind h
                refine r_call (ix := 70) (as := [.int (q67.2.1 70 27), .int q67.1, .int (v4 - 2)]) (rest := []) (rv := some (.int q124.1)) (hp' := xW B q124.2) (pc := 124) rfl xr236 rfl rfl rfl (xkd H (by decide)) (Nat.le_of_ble_eq_true rfl) (Z236 H h124 (by omega)) (Nat.le_refl _) ?_
                refine r_s (fr' := (132, lv1, [.int q124.1])) (hp' := xW B q124.2) (q := (.goto 5, 3, 132, 0, .null)) rfl (fun _ => rfl) (Nat.le_refl _) ?_
                obtain rfl := Option.some.inj h
                exact q_ri (q := (.ireturn, 1, 0, 0, .null)) rfl (fun _ => rfl) rfl rfl
            · rw [if_neg (by rw [c]; decide)] at h
              refine q_li (k := 2) (i := 4) (q := (.iload 4, 2, 0, 0, .null)) rfl (fun _ => rfl) l4_1 ?_
              refine r_if (len := 3) (a := 96) (b := 0) (v0 := .null) (cn := .ne) (off := 8) rfl (fun c => ?_) (fun c => ?_)
              · rw [if_pos c] at h
                refine q_lr (k := 1) (i := 0) (q := (.aload_n 0, 1, 0, 0, .null)) rfl (fun _ => rfl) l0_1 ?_
                refine q_li (k := 1) (i := 1) (q := (.iload_n 1, 1, 0, 0, .null)) rfl (fun _ => rfl) l1_1 ?_
                refine q_li (k := 2) (i := 5) (q := (.iload 5, 2, 0, 0, .null)) rfl (fun _ => rfl) l5_1 ?_
                obtain ⟨q100, h100, h⟩ := xbind h
                refine r_call (ix := 70) (as := [.int v1, .int q67.1]) (rest := []) (rv := some (.int q100.1)) (hp' := xW B q100.2) (pc := 100) rfl xr214 rfl rfl rfl (xkd H (by decide)) (Nat.le_of_ble_eq_true rfl) (Z214 H h100 (by omega)) (Nat.le_refl _) ?_
                obtain rfl := Option.some.inj h
                exact q_ri (q := (.ireturn, 1, 0, 0, .null)) rfl (fun _ => rfl) rfl rfl
              · rw [if_neg (by rw [c]; decide)] at h
                refine q_li (k := 2) (i := 5) (q := (.iload 5, 2, 0, 0, .null)) rfl (fun _ => rfl) l5_1 ?_
                refine r_s (fr' := (103, lv1, [.int q67.1])) (hp' := xW B q67.2) (q := (.goto 10, 3, 103, 0, .null)) rfl (fun _ => rfl) (Nat.le_refl _) ?_
                obtain rfl := Option.some.inj h
                exact q_ri (q := (.ireturn, 1, 0, 0, .null)) rfl (fun _ => rfl) rfl rfl
          · rw [if_neg (by rw [c]; decide)] at h
            refine r_s (fr' := (79, lv1, [.int (-2)])) (hp' := xW B q67.2) (q := (.bipush (-2), 2, 0, 0, .null)) rfl (fun _ => rfl) (Nat.le_refl _) ?_
            obtain rfl := Option.some.inj h
            exact q_ri (q := (.ireturn, 1, 0, 0, .null)) rfl (fun _ => rfl) rfl rfl
        · rw [if_neg (by rw [c]; decide)] at h
          refine q_li (k := 2) (i := 4) (q := (.iload 4, 2, 0, 0, .null)) rfl (fun _ => rfl) l4 ?_
          refine r_s (fr' := (45, lv, [.int 2, .int v4])) (hp' := xW B q35.2) (q := (.iconst 2, 1, 0, 0, .null)) rfl (fun _ => rfl) (Nat.le_refl _) ?_
          refine r_ifc (len := 3) (a := 60) (b := 0) (v0 := .null) (cn := .ge) (off := 15) rfl (fun c => ?_) (fun c => ?_)
          · rw [if_pos c] at h
            exact T252_60 H he F l0 l1 l2 l3 l4 h
          · rw [if_neg (by rw [c]; decide)] at h
            refine q_lr (k := 1) (i := 0) (q := (.aload_n 0, 1, 0, 0, .null)) rfl (fun _ => rfl) l0 ?_
            refine q_li (k := 1) (i := 1) (q := (.iload_n 1, 1, 0, 0, .null)) rfl (fun _ => rfl) l1 ?_
            obtain ⟨q50, h50, h⟩ := xbind h
            refine r_call (ix := 70) (as := [.int v1]) (rest := []) (rv := some (.int q50.1)) (hp' := xW B q50.2) (pc := 50) rfl xr212 rfl rfl rfl (xkd H (by decide)) (Nat.le_of_ble_eq_true rfl) (Z212 H h50 (by omega)) (Nat.le_refl _) ?_
            refine r_if (len := 3) (a := 60) (b := 0) (v0 := .null) (cn := .eq) (off := 7) rfl (fun c => ?_) (fun c => ?_)
            · rw [if_pos c] at h
              exact T252_60 H he F l0 l1 l2 l3 l4 h
            · rw [if_neg (by rw [c]; decide)] at h
              refine r_s (fr' := (57, lv, [.int 0])) (hp' := xW B q50.2) (q := (.iconst 0, 1, 0, 0, .null)) rfl (fun _ => rfl) (Nat.le_refl _) ?_
              refine r_s (fr' := (62, lv, [.int 0])) (hp' := xW B q50.2) (q := (.goto 5, 3, 62, 0, .null)) rfl (fun _ => rfl) (Nat.le_refl _) ?_
              obtain rfl := Option.some.inj h
              exact q_ri (q := (.ireturn, 1, 0, 0, .null)) rfl (fun _ => rfl) rfl rfl
      · rw [if_neg (by rw [c]; decide)] at h
        exact T252_29 H he F l0 l1 l2 l3 l4 h
set_option maxRecDepth 20000 in
theorem Z252 {B : zHp} (H : yH0 B) {F : Nat} {a1 : Int32} {a2 : Int32} {a3 : Int32} {a4 : Int32} {m : xS} {x : Int32 × xS} (h : D252 F a1 a2 a3 a4 m = some x) {d : Nat} (hd : 7 ≤ d) : zCan d 252 [.ref 70, .int a1, .int a2, .int a3, .int a4] (xW B m) (some (.int x.1), xW B x.2) := by
  obtain ⟨e, rfl⟩ : ∃ e, d = e + 1 := ⟨d - 1, by omega⟩
  refine zCan_body (nL := 6) (rt := (some .int)) (cd := zc252) (xg252) ⟨Nat.le_of_ble_eq_true rfl, by decide⟩ (Nat.le_refl _) ?_
  exact T252 H hd F rfl rfl rfl rfl rfl h
/-- LentToolsModel.fillsSuits -/
def D253_118 (F : Nat) (g2 : Int32 → Int32 → xS → Option (Unit × xS)) (g14 : Int32 → Int32 → Int32 → xS → Option (Unit × xS)) (v1 : Int32) (v2 : Int32) (v3 : Int32) (v4 : Int32) (v5 : Int32) (w0 : Int32) (w1 : Int32) (m : xS) : Option (Unit × xS) :=
  if xib w1 36 = true then
    g14 v1 v2 (v3 + Int32.ofInt 1) (xu m 82 (w1 : Int32).toNatClampNeg (vp_nar .boolean w0))
  else none
set_option maxRecDepth 20000 in
theorem T253_118 {B : zHp} (H : yH0 B) {e : Nat} (he : 7 ≤ e + 1) (F : Nat) (g2 : Int32 → Int32 → xS → Option (Unit × xS)) (g14 : Int32 → Int32 → Int32 → xS → Option (Unit × xS)) (k2 : ∀ {v1 : Int32} {v2 : Int32} {lv : List (Nat × Value)} {m : xS} {x : Unit × xS}, zld lv 0 = some (.ref 70) → zld lv 1 = some (.int v1) → zld lv 2 = some (.int v2) → g2 v1 v2 m = some x → zR none e 6 none zc253 (2, lv, []) (xW B m) (none, xW B x.2)) (k14 : ∀ {v1 : Int32} {v2 : Int32} {v3 : Int32} {lv : List (Nat × Value)} {m : xS} {x : Unit × xS}, zld lv 0 = some (.ref 70) → zld lv 1 = some (.int v1) → zld lv 2 = some (.int v2) → zld lv 3 = some (.int v3) → g14 v1 v2 v3 m = some x → zR none e 6 none zc253 (14, lv, []) (xW B m) (none, xW B x.2)) {v1 : Int32} {v2 : Int32} {v3 : Int32} {v4 : Int32} {v5 : Int32} {w0 : Int32} {w1 : Int32} {lv : List (Nat × Value)} {m : xS} {x : Unit × xS} (l0 : zld lv 0 = some (.ref 70)) (l1 : zld lv 1 = some (.int v1)) (l2 : zld lv 2 = some (.int v2)) (l3 : zld lv 3 = some (.int v3)) (l4 : zld lv 4 = some (.int v4)) (l5 : zld lv 5 = some (.int v5)) (h : D253_118 F g2 g14 v1 v2 v3 v4 v5 w0 w1 m = some x) : zR none e 6 none zc253 (118, lv, [.int w0, .int w1, .ref 82]) (xW B m) (none, xW B x.2) := by
  unfold D253_118 at h
  obtain ⟨c1, h⟩ := xif h
  refine q_bs2 (n := 36) (s2 := (xu m 82 (w1 : Int32).toNatClampNeg (vp_nar .boolean w0))) H (pc := 118) rfl (by decide) c1 rfl ?_
  refine q_inc (i := 3) (n := 1) (q := (.iinc 3 1, 3, 0, 0, .null)) rfl (fun _ => rfl) l3 (by decide) ?_
  have l0_2 : zld (zs1 lv 3 (.int (v3 + Int32.ofInt 1))) 0 = some (.ref 70) := x_o1 l0 rfl rfl
  have l1_2 : zld (zs1 lv 3 (.int (v3 + Int32.ofInt 1))) 1 = some (.int v1) := x_o1 l1 rfl rfl
  have l2_2 : zld (zs1 lv 3 (.int (v3 + Int32.ofInt 1))) 2 = some (.int v2) := x_o1 l2 rfl rfl
  have l3_2 : zld (zs1 lv 3 (.int (v3 + Int32.ofInt 1))) 3 = some (.int (v3 + Int32.ofInt 1)) := zs1_ld _ _ _
  have l4_2 : zld (zs1 lv 3 (.int (v3 + Int32.ofInt 1))) 4 = some (.int v4) := x_o1 l4 rfl rfl
  have l5_2 : zld (zs1 lv 3 (.int (v3 + Int32.ofInt 1))) 5 = some (.int v5) := x_o1 l5 rfl rfl
  generalize (zs1 lv 3 (.int (v3 + Int32.ofInt 1))) = lv2 at *
  refine r_s (fr' := (14, lv2, [])) (hp' := xW B (xu m 82 (w1 : Int32).toNatClampNeg (vp_nar .boolean w0))) (q := (.goto (-108), 3, 14, 0, .null)) rfl (fun _ => rfl) (Nat.le_refl _) ?_
  exact k14 l0_2 l1_2 l2_2 l3_2 h
def D253_117 (F : Nat) (g2 : Int32 → Int32 → xS → Option (Unit × xS)) (g14 : Int32 → Int32 → Int32 → xS → Option (Unit × xS)) (v1 : Int32) (v2 : Int32) (v3 : Int32) (v4 : Int32) (v5 : Int32) (w0 : Int32) (m : xS) : Option (Unit × xS) :=
  D253_118 F g2 g14 v1 v2 v3 v4 v5 0 w0 m
set_option maxRecDepth 20000 in
theorem T253_117 {B : zHp} (H : yH0 B) {e : Nat} (he : 7 ≤ e + 1) (F : Nat) (g2 : Int32 → Int32 → xS → Option (Unit × xS)) (g14 : Int32 → Int32 → Int32 → xS → Option (Unit × xS)) (k2 : ∀ {v1 : Int32} {v2 : Int32} {lv : List (Nat × Value)} {m : xS} {x : Unit × xS}, zld lv 0 = some (.ref 70) → zld lv 1 = some (.int v1) → zld lv 2 = some (.int v2) → g2 v1 v2 m = some x → zR none e 6 none zc253 (2, lv, []) (xW B m) (none, xW B x.2)) (k14 : ∀ {v1 : Int32} {v2 : Int32} {v3 : Int32} {lv : List (Nat × Value)} {m : xS} {x : Unit × xS}, zld lv 0 = some (.ref 70) → zld lv 1 = some (.int v1) → zld lv 2 = some (.int v2) → zld lv 3 = some (.int v3) → g14 v1 v2 v3 m = some x → zR none e 6 none zc253 (14, lv, []) (xW B m) (none, xW B x.2)) {v1 : Int32} {v2 : Int32} {v3 : Int32} {v4 : Int32} {v5 : Int32} {w0 : Int32} {lv : List (Nat × Value)} {m : xS} {x : Unit × xS} (l0 : zld lv 0 = some (.ref 70)) (l1 : zld lv 1 = some (.int v1)) (l2 : zld lv 2 = some (.int v2)) (l3 : zld lv 3 = some (.int v3)) (l4 : zld lv 4 = some (.int v4)) (l5 : zld lv 5 = some (.int v5)) (h : D253_117 F g2 g14 v1 v2 v3 v4 v5 w0 m = some x) : zR none e 6 none zc253 (117, lv, [.int w0, .ref 82]) (xW B m) (none, xW B x.2) := by
  unfold D253_117 at h
  refine r_s (fr' := (118, lv, [.int 0, .int w0, .ref 82])) (hp' := xW B m) (q := (.iconst 0, 1, 0, 0, .null)) rfl (fun _ => rfl) (Nat.le_refl _) ?_
  exact T253_118 H he F _ _ k2 k14 l0 l1 l2 l3 l4 l5 h
def D253_80 (F : Nat) (g2 : Int32 → Int32 → xS → Option (Unit × xS)) (g14 : Int32 → Int32 → Int32 → xS → Option (Unit × xS)) (v1 : Int32) (v2 : Int32) (v3 : Int32) (v4 : Int32) (w0 : Int32) (m : xS) : Option (Unit × xS) :=
  if zcmp .lt w0 0 = true then
    D253_117 F g2 g14 v1 v2 v3 v4 w0 ((6 * v2) + v3) m
  else
    (D214 F v2 w0 m).bind fun q101 =>
      (D209 F v3 2 q101.2).bind fun q107 =>
        if zcmp .lt q101.1 q107.1 = true then
          D253_117 F g2 g14 v1 v2 v3 v4 w0 ((6 * v2) + v3) q107.2
        else
          D253_118 F g2 g14 v1 v2 v3 v4 w0 1 ((6 * v2) + v3) q107.2
set_option maxRecDepth 20000 in
theorem T253_80 {B : zHp} (H : yH0 B) {e : Nat} (he : 7 ≤ e + 1) (F : Nat) (g2 : Int32 → Int32 → xS → Option (Unit × xS)) (g14 : Int32 → Int32 → Int32 → xS → Option (Unit × xS)) (k2 : ∀ {v1 : Int32} {v2 : Int32} {lv : List (Nat × Value)} {m : xS} {x : Unit × xS}, zld lv 0 = some (.ref 70) → zld lv 1 = some (.int v1) → zld lv 2 = some (.int v2) → g2 v1 v2 m = some x → zR none e 6 none zc253 (2, lv, []) (xW B m) (none, xW B x.2)) (k14 : ∀ {v1 : Int32} {v2 : Int32} {v3 : Int32} {lv : List (Nat × Value)} {m : xS} {x : Unit × xS}, zld lv 0 = some (.ref 70) → zld lv 1 = some (.int v1) → zld lv 2 = some (.int v2) → zld lv 3 = some (.int v3) → g14 v1 v2 v3 m = some x → zR none e 6 none zc253 (14, lv, []) (xW B m) (none, xW B x.2)) {v1 : Int32} {v2 : Int32} {v3 : Int32} {v4 : Int32} {w0 : Int32} {lv : List (Nat × Value)} {m : xS} {x : Unit × xS} (l0 : zld lv 0 = some (.ref 70)) (l1 : zld lv 1 = some (.int v1)) (l2 : zld lv 2 = some (.int v2)) (l3 : zld lv 3 = some (.int v3)) (l4 : zld lv 4 = some (.int v4)) (h : D253_80 F g2 g14 v1 v2 v3 v4 w0 m = some x) : zR none e 6 none zc253 (80, lv, [.int w0]) (xW B m) (none, xW B x.2) := by
  unfold D253_80 at h
  refine q_si (k := 2) (i := 5) (q := (.istore 5, 2, 0, 0, .null)) rfl (fun _ => rfl) (by decide) ?_
  have l0_1 : zld (zs1 lv 5 (.int w0)) 0 = some (.ref 70) := x_o1 l0 rfl rfl
  have l1_1 : zld (zs1 lv 5 (.int w0)) 1 = some (.int v1) := x_o1 l1 rfl rfl
  have l2_1 : zld (zs1 lv 5 (.int w0)) 2 = some (.int v2) := x_o1 l2 rfl rfl
  have l3_1 : zld (zs1 lv 5 (.int w0)) 3 = some (.int v3) := x_o1 l3 rfl rfl
  have l4_1 : zld (zs1 lv 5 (.int w0)) 4 = some (.int v4) := x_o1 l4 rfl rfl
  have l5_1 : zld (zs1 lv 5 (.int w0)) 5 = some (.int w0) := zs1_ld _ _ _
  generalize (zs1 lv 5 (.int w0)) = lv1 at *
  refine q_lr (k := 1) (i := 0) (q := (.aload_n 0, 1, 0, 0, .null)) rfl (fun _ => rfl) l0_1 ?_
  refine r_gr (c := 82) H (pc := 83) rfl (by decide) (by decide) ?_
  refine r_s (fr' := (88, lv1, [.int 6, .ref 82])) (hp' := xW B m) (q := (.bipush 6, 2, 0, 0, .null)) rfl (fun _ => rfl) (Nat.le_refl _) ?_
  refine q_li (k := 1) (i := 2) (q := (.iload_n 2, 1, 0, 0, .null)) rfl (fun _ => rfl) l2_1 ?_
  refine r_s (fr' := (90, lv1, [.int (6 * v2), .ref 82])) (hp' := xW B m) (q := (.imul, 1, 0, 0, .null)) rfl (fun _ => rfl) (Nat.le_refl _) ?_
  refine q_li (k := 1) (i := 3) (q := (.iload_n 3, 1, 0, 0, .null)) rfl (fun _ => rfl) l3_1 ?_
  refine r_s (fr' := (92, lv1, [.int ((6 * v2) + v3), .ref 82])) (hp' := xW B m) (q := (.iadd, 1, 0, 0, .null)) rfl (fun _ => rfl) (Nat.le_refl _) ?_
  refine q_li (k := 2) (i := 5) (q := (.iload 5, 2, 0, 0, .null)) rfl (fun _ => rfl) l5_1 ?_
  refine r_if (len := 3) (a := 117) (b := 0) (v0 := .null) (cn := .lt) (off := 23) rfl (fun c => ?_) (fun c => ?_)
  · rw [if_pos c] at h
    exact T253_117 H he F _ _ k2 k14 l0_1 l1_1 l2_1 l3_1 l4_1 l5_1 h
  · rw [if_neg (by rw [c]; decide)] at h
    refine q_lr (k := 1) (i := 0) (q := (.aload_n 0, 1, 0, 0, .null)) rfl (fun _ => rfl) l0_1 ?_
    refine q_li (k := 1) (i := 2) (q := (.iload_n 2, 1, 0, 0, .null)) rfl (fun _ => rfl) l2_1 ?_
    refine q_li (k := 2) (i := 5) (q := (.iload 5, 2, 0, 0, .null)) rfl (fun _ => rfl) l5_1 ?_
    obtain ⟨q101, h101, h⟩ := xbind h
    refine r_call (ix := 70) (as := [.int v2, .int w0]) (rest := [.int ((6 * v2) + v3), .ref 82]) (rv := some (.int q101.1)) (hp' := xW B q101.2) (pc := 101) rfl xr214 rfl rfl rfl (xkd H (by decide)) (Nat.le_of_ble_eq_true rfl) (Z214 H h101 (by omega)) (Nat.le_refl _) ?_
    refine q_lr (k := 1) (i := 0) (q := (.aload_n 0, 1, 0, 0, .null)) rfl (fun _ => rfl) l0_1 ?_
    refine q_li (k := 1) (i := 3) (q := (.iload_n 3, 1, 0, 0, .null)) rfl (fun _ => rfl) l3_1 ?_
    refine r_s (fr' := (107, lv1, [.int 2, .int v3, .ref 70, .int q101.1, .int ((6 * v2) + v3), .ref 82])) (hp' := xW B q101.2) (q := (.iconst 2, 1, 0, 0, .null)) rfl (fun _ => rfl) (Nat.le_refl _) ?_
    obtain ⟨q107, h107, h⟩ := xbind h
    refine r_call (ix := 70) (as := [.int v3, .int 2]) (rest := [.int q101.1, .int ((6 * v2) + v3), .ref 82]) (rv := some (.int q107.1)) (hp' := xW B q107.2) (pc := 107) rfl xr209 rfl rfl rfl (xkd H (by decide)) (Nat.le_of_ble_eq_true rfl) (Z209 H h107 (by omega)) (Nat.le_refl _) ?_
    refine r_ifc (len := 3) (a := 117) (b := 0) (v0 := .null) (cn := .lt) (off := 7) rfl (fun c => ?_) (fun c => ?_)
    · rw [if_pos c] at h
      exact T253_117 H he F _ _ k2 k14 l0_1 l1_1 l2_1 l3_1 l4_1 l5_1 h
    · rw [if_neg (by rw [c]; decide)] at h
      refine r_s (fr' := (114, lv1, [.int 1, .int ((6 * v2) + v3), .ref 82])) (hp' := xW B q107.2) (q := (.iconst 1, 1, 0, 0, .null)) rfl (fun _ => rfl) (Nat.le_refl _) ?_
      refine r_s (fr' := (118, lv1, [.int 1, .int ((6 * v2) + v3), .ref 82])) (hp' := xW B q107.2) (q := (.goto 4, 3, 118, 0, .null)) rfl (fun _ => rfl) (Nat.le_refl _) ?_
      exact T253_118 H he F _ _ k2 k14 l0_1 l1_1 l2_1 l3_1 l4_1 l5_1 h
def D253_57 (F : Nat) (g2 : Int32 → Int32 → xS → Option (Unit × xS)) (g14 : Int32 → Int32 → Int32 → xS → Option (Unit × xS)) (v1 : Int32) (v2 : Int32) (v3 : Int32) (w0 : Int32) (m : xS) : Option (Unit × xS) :=
  if zcmp .eq w0 0 = true then
    D253_80 F g2 g14 v1 v2 v3 w0 (-1) m
  else
    (D209 F v3 0 m).bind fun q69 =>
      (D251 F v2 q69.1 1 q69.2).bind fun q73 =>
        D253_80 F g2 g14 v1 v2 v3 w0 q73.1 q73.2
set_option maxRecDepth 20000 in
theorem T253_57 {B : zHp} (H : yH0 B) {e : Nat} (he : 7 ≤ e + 1) (F : Nat) (g2 : Int32 → Int32 → xS → Option (Unit × xS)) (g14 : Int32 → Int32 → Int32 → xS → Option (Unit × xS)) (k2 : ∀ {v1 : Int32} {v2 : Int32} {lv : List (Nat × Value)} {m : xS} {x : Unit × xS}, zld lv 0 = some (.ref 70) → zld lv 1 = some (.int v1) → zld lv 2 = some (.int v2) → g2 v1 v2 m = some x → zR none e 6 none zc253 (2, lv, []) (xW B m) (none, xW B x.2)) (k14 : ∀ {v1 : Int32} {v2 : Int32} {v3 : Int32} {lv : List (Nat × Value)} {m : xS} {x : Unit × xS}, zld lv 0 = some (.ref 70) → zld lv 1 = some (.int v1) → zld lv 2 = some (.int v2) → zld lv 3 = some (.int v3) → g14 v1 v2 v3 m = some x → zR none e 6 none zc253 (14, lv, []) (xW B m) (none, xW B x.2)) {v1 : Int32} {v2 : Int32} {v3 : Int32} {w0 : Int32} {lv : List (Nat × Value)} {m : xS} {x : Unit × xS} (l0 : zld lv 0 = some (.ref 70)) (l1 : zld lv 1 = some (.int v1)) (l2 : zld lv 2 = some (.int v2)) (l3 : zld lv 3 = some (.int v3)) (h : D253_57 F g2 g14 v1 v2 v3 w0 m = some x) : zR none e 6 none zc253 (57, lv, [.int w0]) (xW B m) (none, xW B x.2) := by
  unfold D253_57 at h
  refine q_si (k := 2) (i := 4) (q := (.istore 4, 2, 0, 0, .null)) rfl (fun _ => rfl) (by decide) ?_
  have l0_1 : zld (zs1 lv 4 (.int w0)) 0 = some (.ref 70) := x_o1 l0 rfl rfl
  have l1_1 : zld (zs1 lv 4 (.int w0)) 1 = some (.int v1) := x_o1 l1 rfl rfl
  have l2_1 : zld (zs1 lv 4 (.int w0)) 2 = some (.int v2) := x_o1 l2 rfl rfl
  have l3_1 : zld (zs1 lv 4 (.int w0)) 3 = some (.int v3) := x_o1 l3 rfl rfl
  have l4_1 : zld (zs1 lv 4 (.int w0)) 4 = some (.int w0) := zs1_ld _ _ _
  generalize (zs1 lv 4 (.int w0)) = lv1 at *
  refine q_li (k := 2) (i := 4) (q := (.iload 4, 2, 0, 0, .null)) rfl (fun _ => rfl) l4_1 ?_
  refine r_if (len := 3) (a := 79) (b := 0) (v0 := .null) (cn := .eq) (off := 18) rfl (fun c => ?_) (fun c => ?_)
  · rw [if_pos c] at h
    refine r_s (fr' := (80, lv1, [.int (-1)])) (hp' := xW B m) (q := (.iconst (-1), 1, 0, 0, .null)) rfl (fun _ => rfl) (Nat.le_refl _) ?_
    exact T253_80 H he F _ _ k2 k14 l0_1 l1_1 l2_1 l3_1 l4_1 h
  · rw [if_neg (by rw [c]; decide)] at h
    refine q_lr (k := 1) (i := 0) (q := (.aload_n 0, 1, 0, 0, .null)) rfl (fun _ => rfl) l0_1 ?_
    refine q_li (k := 1) (i := 2) (q := (.iload_n 2, 1, 0, 0, .null)) rfl (fun _ => rfl) l2_1 ?_
    refine q_lr (k := 1) (i := 0) (q := (.aload_n 0, 1, 0, 0, .null)) rfl (fun _ => rfl) l0_1 ?_
    refine q_li (k := 1) (i := 3) (q := (.iload_n 3, 1, 0, 0, .null)) rfl (fun _ => rfl) l3_1 ?_
    refine r_s (fr' := (69, lv1, [.int 0, .int v3, .ref 70, .int v2, .ref 70])) (hp' := xW B m) (q := (.iconst 0, 1, 0, 0, .null)) rfl (fun _ => rfl) (Nat.le_refl _) ?_
    obtain ⟨q69, h69, h⟩ := xbind h
    refine r_call (ix := 70) (as := [.int v3, .int 0]) (rest := [.int v2, .ref 70]) (rv := some (.int q69.1)) (hp' := xW B q69.2) (pc := 69) rfl xr209 rfl rfl rfl (xkd H (by decide)) (Nat.le_of_ble_eq_true rfl) (Z209 H h69 (by omega)) (Nat.le_refl _) ?_
    refine r_s (fr' := (73, lv1, [.int 1, .int q69.1, .int v2, .ref 70])) (hp' := xW B q69.2) (q := (.iconst 1, 1, 0, 0, .null)) rfl (fun _ => rfl) (Nat.le_refl _) ?_
    obtain ⟨q73, h73, h⟩ := xbind h
    refine r_call (ix := 70) (as := [.int v2, .int q69.1, .int 1]) (rest := []) (rv := some (.int q73.1)) (hp' := xW B q73.2) (pc := 73) rfl xr251 rfl rfl rfl (xkd H (by decide)) (Nat.le_of_ble_eq_true rfl) (Z251 H h73 (by omega)) (Nat.le_refl _) ?_
    refine r_s (fr' := (80, lv1, [.int q73.1])) (hp' := xW B q73.2) (q := (.goto 4, 3, 80, 0, .null)) rfl (fun _ => rfl) (Nat.le_refl _) ?_
    exact T253_80 H he F _ _ k2 k14 l0_1 l1_1 l2_1 l3_1 l4_1 h
def D253_56 (F : Nat) (g2 : Int32 → Int32 → xS → Option (Unit × xS)) (g14 : Int32 → Int32 → Int32 → xS → Option (Unit × xS)) (v1 : Int32) (v2 : Int32) (v3 : Int32) (m : xS) : Option (Unit × xS) :=
  D253_57 F g2 g14 v1 v2 v3 0 m
set_option maxRecDepth 20000 in
theorem T253_56 {B : zHp} (H : yH0 B) {e : Nat} (he : 7 ≤ e + 1) (F : Nat) (g2 : Int32 → Int32 → xS → Option (Unit × xS)) (g14 : Int32 → Int32 → Int32 → xS → Option (Unit × xS)) (k2 : ∀ {v1 : Int32} {v2 : Int32} {lv : List (Nat × Value)} {m : xS} {x : Unit × xS}, zld lv 0 = some (.ref 70) → zld lv 1 = some (.int v1) → zld lv 2 = some (.int v2) → g2 v1 v2 m = some x → zR none e 6 none zc253 (2, lv, []) (xW B m) (none, xW B x.2)) (k14 : ∀ {v1 : Int32} {v2 : Int32} {v3 : Int32} {lv : List (Nat × Value)} {m : xS} {x : Unit × xS}, zld lv 0 = some (.ref 70) → zld lv 1 = some (.int v1) → zld lv 2 = some (.int v2) → zld lv 3 = some (.int v3) → g14 v1 v2 v3 m = some x → zR none e 6 none zc253 (14, lv, []) (xW B m) (none, xW B x.2)) {v1 : Int32} {v2 : Int32} {v3 : Int32} {lv : List (Nat × Value)} {m : xS} {x : Unit × xS} (l0 : zld lv 0 = some (.ref 70)) (l1 : zld lv 1 = some (.int v1)) (l2 : zld lv 2 = some (.int v2)) (l3 : zld lv 3 = some (.int v3)) (h : D253_56 F g2 g14 v1 v2 v3 m = some x) : zR none e 6 none zc253 (56, lv, []) (xW B m) (none, xW B x.2) := by
  unfold D253_56 at h
  refine r_s (fr' := (57, lv, [.int 0])) (hp' := xW B m) (q := (.iconst 0, 1, 0, 0, .null)) rfl (fun _ => rfl) (Nat.le_refl _) ?_
  exact T253_57 H he F _ _ k2 k14 l0 l1 l2 l3 h
def D253_14 (F : Nat) (g2 : Int32 → Int32 → xS → Option (Unit × xS)) : Nat → Int32 → Int32 → Int32 → xS → Option (Unit × xS)
  | 0, _, _, _, _ => none
  | f + 1, v1, v2, v3, m =>
    if zcmp .ge v3 (m.1 80 3) = true then
      g2 v1 (v2 + Int32.ofInt 1) m
    else
      if zcmp .eq v2 v1 = true then
        D253_56 F g2 (D253_14 F g2 f) v1 v2 v3 m
      else
        (D215 F v3 m).bind fun q31 =>
          if zcmp .ne q31.1 0 = true then
            D253_56 F g2 (D253_14 F g2 f) v1 v2 v3 q31.2
          else
            (D208 F v2 1 q31.2).bind fun q40 =>
              (D209 F v3 1 q40.2).bind fun q46 =>
                if zcmp .ne q40.1 q46.1 = true then
                  D253_56 F g2 (D253_14 F g2 f) v1 v2 v3 q46.2
                else
                  D253_57 F g2 (D253_14 F g2 f) v1 v2 v3 1 q46.2
set_option maxRecDepth 20000 in
theorem T253_14 {B : zHp} (H : yH0 B) {e : Nat} (he : 7 ≤ e + 1) (F : Nat) (g2 : Int32 → Int32 → xS → Option (Unit × xS)) (k2 : ∀ {v1 : Int32} {v2 : Int32} {lv : List (Nat × Value)} {m : xS} {x : Unit × xS}, zld lv 0 = some (.ref 70) → zld lv 1 = some (.int v1) → zld lv 2 = some (.int v2) → g2 v1 v2 m = some x → zR none e 6 none zc253 (2, lv, []) (xW B m) (none, xW B x.2)) : ∀ (f : Nat) {v1 : Int32} {v2 : Int32} {v3 : Int32} {lv : List (Nat × Value)} {m : xS} {x : Unit × xS}, zld lv 0 = some (.ref 70) → zld lv 1 = some (.int v1) → zld lv 2 = some (.int v2) → zld lv 3 = some (.int v3) → D253_14 F g2 f v1 v2 v3 m = some x → zR none e 6 none zc253 (14, lv, []) (xW B m) (none, xW B x.2) := by
  intro f
  induction f with
  | zero => intro v1 v2 v3 lv m x l0 l1 l2 l3 h; cases h
  | succ f ih =>
    intro v1 v2 v3 lv m x l0 l1 l2 l3 h
    unfold D253_14 at h
    refine q_li (k := 1) (i := 3) (q := (.iload_n 3, 1, 0, 0, .null)) rfl (fun _ => rfl) l3 ?_
    refine q_lr (k := 1) (i := 0) (q := (.aload_n 0, 1, 0, 0, .null)) rfl (fun _ => rfl) l0 ?_
    refine r_gr (c := 80) H (pc := 16) rfl (by decide) (by decide) ?_
    refine r_s (fr' := (20, lv, [.int 3, .ref 80, .int v3])) (hp' := xW B m) (q := (.iconst 3, 1, 0, 0, .null)) rfl (fun _ => rfl) (Nat.le_refl _) ?_
    refine q_al (n := 148) (v := (m.1 80 3)) H (pc := 20) rfl (by decide) (by decide) rfl ?_
    refine r_ifc (len := 3) (a := 125) (b := 0) (v0 := .null) (cn := .ge) (off := 104) rfl (fun c => ?_) (fun c => ?_)
    · rw [if_pos c] at h
      refine q_inc (i := 2) (n := 1) (q := (.iinc 2 1, 3, 0, 0, .null)) rfl (fun _ => rfl) l2 (by decide) ?_
      have l0_1 : zld (zs1 lv 2 (.int (v2 + Int32.ofInt 1))) 0 = some (.ref 70) := x_o1 l0 rfl rfl
      have l1_1 : zld (zs1 lv 2 (.int (v2 + Int32.ofInt 1))) 1 = some (.int v1) := x_o1 l1 rfl rfl
      have l2_1 : zld (zs1 lv 2 (.int (v2 + Int32.ofInt 1))) 2 = some (.int (v2 + Int32.ofInt 1)) := zs1_ld _ _ _
      have l3_1 : zld (zs1 lv 2 (.int (v2 + Int32.ofInt 1))) 3 = some (.int v3) := x_o1 l3 rfl rfl
      generalize (zs1 lv 2 (.int (v2 + Int32.ofInt 1))) = lv1 at *
      refine r_s (fr' := (2, lv1, [])) (hp' := xW B m) (q := (.goto (-126), 3, 2, 0, .null)) rfl (fun _ => rfl) (Nat.le_refl _) ?_
      exact k2 l0_1 l1_1 l2_1 h
    · rw [if_neg (by rw [c]; decide)] at h
      refine q_li (k := 1) (i := 2) (q := (.iload_n 2, 1, 0, 0, .null)) rfl (fun _ => rfl) l2 ?_
      refine q_li (k := 1) (i := 1) (q := (.iload_n 1, 1, 0, 0, .null)) rfl (fun _ => rfl) l1 ?_
      refine r_ifc (len := 3) (a := 56) (b := 0) (v0 := .null) (cn := .eq) (off := 30) rfl (fun c => ?_) (fun c => ?_)
      · rw [if_pos c] at h
        exact T253_56 H he F _ _ k2 ih l0 l1 l2 l3 h
      · rw [if_neg (by rw [c]; decide)] at h
        refine q_lr (k := 1) (i := 0) (q := (.aload_n 0, 1, 0, 0, .null)) rfl (fun _ => rfl) l0 ?_
        refine q_li (k := 1) (i := 3) (q := (.iload_n 3, 1, 0, 0, .null)) rfl (fun _ => rfl) l3 ?_
        obtain ⟨q31, h31, h⟩ := xbind h
        refine r_call (ix := 70) (as := [.int v3]) (rest := []) (rv := some (.int q31.1)) (hp' := xW B q31.2) (pc := 31) rfl xr215 rfl rfl rfl (xkd H (by decide)) (Nat.le_of_ble_eq_true rfl) (Z215 H h31 (by omega)) (Nat.le_refl _) ?_
        refine r_if (len := 3) (a := 56) (b := 0) (v0 := .null) (cn := .ne) (off := 22) rfl (fun c => ?_) (fun c => ?_)
        · rw [if_pos c] at h
          exact T253_56 H he F _ _ k2 ih l0 l1 l2 l3 h
        · rw [if_neg (by rw [c]; decide)] at h
          refine q_lr (k := 1) (i := 0) (q := (.aload_n 0, 1, 0, 0, .null)) rfl (fun _ => rfl) l0 ?_
          refine q_li (k := 1) (i := 2) (q := (.iload_n 2, 1, 0, 0, .null)) rfl (fun _ => rfl) l2 ?_
          refine r_s (fr' := (40, lv, [.int 1, .int v2, .ref 70])) (hp' := xW B q31.2) (q := (.iconst 1, 1, 0, 0, .null)) rfl (fun _ => rfl) (Nat.le_refl _) ?_
          obtain ⟨q40, h40, h⟩ := xbind h
          refine r_call (ix := 70) (as := [.int v2, .int 1]) (rest := []) (rv := some (.int q40.1)) (hp' := xW B q40.2) (pc := 40) rfl xr208 rfl rfl rfl (xkd H (by decide)) (Nat.le_of_ble_eq_true rfl) (Z208 H h40 (by omega)) (Nat.le_refl _) ?_
          refine q_lr (k := 1) (i := 0) (q := (.aload_n 0, 1, 0, 0, .null)) rfl (fun _ => rfl) l0 ?_
          refine q_li (k := 1) (i := 3) (q := (.iload_n 3, 1, 0, 0, .null)) rfl (fun _ => rfl) l3 ?_
          refine r_s (fr' := (46, lv, [.int 1, .int v3, .ref 70, .int q40.1])) (hp' := xW B q40.2) (q := (.iconst 1, 1, 0, 0, .null)) rfl (fun _ => rfl) (Nat.le_refl _) ?_
          obtain ⟨q46, h46, h⟩ := xbind h
          refine r_call (ix := 70) (as := [.int v3, .int 1]) (rest := [.int q40.1]) (rv := some (.int q46.1)) (hp' := xW B q46.2) (pc := 46) rfl xr209 rfl rfl rfl (xkd H (by decide)) (Nat.le_of_ble_eq_true rfl) (Z209 H h46 (by omega)) (Nat.le_refl _) ?_
          refine r_ifc (len := 3) (a := 56) (b := 0) (v0 := .null) (cn := .ne) (off := 7) rfl (fun c => ?_) (fun c => ?_)
          · rw [if_pos c] at h
            exact T253_56 H he F _ _ k2 ih l0 l1 l2 l3 h
          · rw [if_neg (by rw [c]; decide)] at h
            refine r_s (fr' := (53, lv, [.int 1])) (hp' := xW B q46.2) (q := (.iconst 1, 1, 0, 0, .null)) rfl (fun _ => rfl) (Nat.le_refl _) ?_
            refine r_s (fr' := (57, lv, [.int 1])) (hp' := xW B q46.2) (q := (.goto 4, 3, 57, 0, .null)) rfl (fun _ => rfl) (Nat.le_refl _) ?_
            exact T253_57 H he F _ _ k2 ih l0 l1 l2 l3 h
def D253_2 (F : Nat) : Nat → Int32 → Int32 → xS → Option (Unit × xS)
  | 0, _, _, _ => none
  | f + 1, v1, v2, m =>
    if zcmp .ge v2 (m.1 80 2) = true then
      some ((), m)
    else
      D253_14 F (D253_2 F f) F v1 v2 0 m
set_option maxRecDepth 20000 in
theorem T253_2 {B : zHp} (H : yH0 B) {e : Nat} (he : 7 ≤ e + 1) (F : Nat) : ∀ (f : Nat) {v1 : Int32} {v2 : Int32} {lv : List (Nat × Value)} {m : xS} {x : Unit × xS}, zld lv 0 = some (.ref 70) → zld lv 1 = some (.int v1) → zld lv 2 = some (.int v2) → D253_2 F f v1 v2 m = some x → zR none e 6 none zc253 (2, lv, []) (xW B m) (none, xW B x.2) := by
  intro f
  induction f with
  | zero => intro v1 v2 lv m x l0 l1 l2 h; cases h
  | succ f ih =>
    intro v1 v2 lv m x l0 l1 l2 h
    unfold D253_2 at h
    refine q_li (k := 1) (i := 2) (q := (.iload_n 2, 1, 0, 0, .null)) rfl (fun _ => rfl) l2 ?_
    refine q_lr (k := 1) (i := 0) (q := (.aload_n 0, 1, 0, 0, .null)) rfl (fun _ => rfl) l0 ?_
    refine r_gr (c := 80) H (pc := 4) rfl (by decide) (by decide) ?_
    refine r_s (fr' := (8, lv, [.int 2, .ref 80, .int v2])) (hp' := xW B m) (q := (.iconst 2, 1, 0, 0, .null)) rfl (fun _ => rfl) (Nat.le_refl _) ?_
    refine q_al (n := 148) (v := (m.1 80 2)) H (pc := 8) rfl (by decide) (by decide) rfl ?_
    refine r_ifc (len := 3) (a := 131) (b := 0) (v0 := .null) (cn := .ge) (off := 122) rfl (fun c => ?_) (fun c => ?_)
    · rw [if_pos c] at h
      obtain rfl := Option.some.inj h
      exact r_ret (q := (.return_, 1, 0, 0, .null)) rfl rfl (fun _ => rfl)
    · rw [if_neg (by rw [c]; decide)] at h
      refine r_s (fr' := (13, lv, [.int 0])) (hp' := xW B m) (q := (.iconst 0, 1, 0, 0, .null)) rfl (fun _ => rfl) (Nat.le_refl _) ?_
      refine q_si (k := 1) (i := 3) (q := (.istore_n 3, 1, 0, 0, .null)) rfl (fun _ => rfl) (by decide) ?_
      have l0_1 : zld (zs1 lv 3 (.int 0)) 0 = some (.ref 70) := x_o1 l0 rfl rfl
      have l1_1 : zld (zs1 lv 3 (.int 0)) 1 = some (.int v1) := x_o1 l1 rfl rfl
      have l2_1 : zld (zs1 lv 3 (.int 0)) 2 = some (.int v2) := x_o1 l2 rfl rfl
      have l3_1 : zld (zs1 lv 3 (.int 0)) 3 = some (.int 0) := zs1_ld _ _ _
      generalize (zs1 lv 3 (.int 0)) = lv1 at *
      exact T253_14 H he F _ ih F l0_1 l1_1 l2_1 l3_1 h
def D253 (F : Nat) (v1 : Int32) (m : xS) : Option (Unit × xS) :=
  D253_2 F F v1 0 m
set_option maxRecDepth 20000 in
theorem T253 {B : zHp} (H : yH0 B) {e : Nat} (he : 7 ≤ e + 1) (F : Nat) {v1 : Int32} {lv : List (Nat × Value)} {m : xS} {x : Unit × xS} (l0 : zld lv 0 = some (.ref 70)) (l1 : zld lv 1 = some (.int v1)) (h : D253 F v1 m = some x) : zR none e 6 none zc253 (0, lv, []) (xW B m) (none, xW B x.2) := by
  unfold D253 at h
  refine r_s (fr' := (1, lv, [.int 0])) (hp' := xW B m) (q := (.iconst 0, 1, 0, 0, .null)) rfl (fun _ => rfl) (Nat.le_refl _) ?_
  refine q_si (k := 1) (i := 2) (q := (.istore_n 2, 1, 0, 0, .null)) rfl (fun _ => rfl) (by decide) ?_
  have l0_1 : zld (zs1 lv 2 (.int 0)) 0 = some (.ref 70) := x_o1 l0 rfl rfl
  have l1_1 : zld (zs1 lv 2 (.int 0)) 1 = some (.int v1) := x_o1 l1 rfl rfl
  have l2_1 : zld (zs1 lv 2 (.int 0)) 2 = some (.int 0) := zs1_ld _ _ _
  generalize (zs1 lv 2 (.int 0)) = lv1 at *
  exact T253_2 H he F F l0_1 l1_1 l2_1 h
set_option maxRecDepth 20000 in
theorem Z253 {B : zHp} (H : yH0 B) {F : Nat} {a1 : Int32} {m : xS} {x : Unit × xS} (h : D253 F a1 m = some x) {d : Nat} (hd : 7 ≤ d) : zCan d 253 [.ref 70, .int a1] (xW B m) (none, xW B x.2) := by
  obtain ⟨e, rfl⟩ : ∃ e, d = e + 1 := ⟨d - 1, by omega⟩
  refine zCan_body (nL := 6) (rt := none) (cd := zc253) (xg253) ⟨Nat.le_of_ble_eq_true rfl, by decide⟩ (Nat.le_refl _) ?_
  exact T253 H hd F rfl rfl h
/-- LentToolsModel.toolIn -/
def D254 (F : Nat) (v1 : Int32) (v2 : Int32) (m : xS) : Option (Int32 × xS) :=
  (D235 F ((m.1 80 2) + 1) (((m.1 80 3) - 1) - v2) m).bind fun q19 =>
    if (!(q19.1 == 0)) = true then
      if (!(((q19.2.1 80 2) + 1) == 0)) = true then
        some ((((v1 / q19.1) - (v1 / q19.1) / ((q19.2.1 80 2) + 1) * ((q19.2.1 80 2) + 1)) - 1), q19.2)
      else none
    else none
set_option maxRecDepth 20000 in
theorem T254 {B : zHp} (H : yH0 B) {e : Nat} (he : 2 ≤ e + 1) (F : Nat) {v1 : Int32} {v2 : Int32} {lv : List (Nat × Value)} {m : xS} {x : Int32 × xS} (l0 : zld lv 0 = some (.ref 70)) (l1 : zld lv 1 = some (.int v1)) (l2 : zld lv 2 = some (.int v2)) (h : D254 F v1 v2 m = some x) : zR none e 3 (some .int) zc254 (0, lv, []) (xW B m) (some (.int x.1), xW B x.2) := by
  unfold D254 at h
  refine q_li (k := 1) (i := 1) (q := (.iload_n 1, 1, 0, 0, .null)) rfl (fun _ => rfl) l1 ?_
  refine q_lr (k := 1) (i := 0) (q := (.aload_n 0, 1, 0, 0, .null)) rfl (fun _ => rfl) l0 ?_
  refine r_gr (c := 80) H (pc := 2) rfl (by decide) (by decide) ?_
  refine r_s (fr' := (6, lv, [.int 2, .ref 80, .int v1])) (hp' := xW B m) (q := (.iconst 2, 1, 0, 0, .null)) rfl (fun _ => rfl) (Nat.le_refl _) ?_
  refine q_al (n := 148) (v := (m.1 80 2)) H (pc := 6) rfl (by decide) (by decide) rfl ?_
  refine r_s (fr' := (8, lv, [.int 1, .int (m.1 80 2), .int v1])) (hp' := xW B m) (q := (.iconst 1, 1, 0, 0, .null)) rfl (fun _ => rfl) (Nat.le_refl _) ?_
  refine r_s (fr' := (9, lv, [.int ((m.1 80 2) + 1), .int v1])) (hp' := xW B m) (q := (.iadd, 1, 0, 0, .null)) rfl (fun _ => rfl) (Nat.le_refl _) ?_
  refine q_lr (k := 1) (i := 0) (q := (.aload_n 0, 1, 0, 0, .null)) rfl (fun _ => rfl) l0 ?_
  refine r_gr (c := 80) H (pc := 10) rfl (by decide) (by decide) ?_
  refine r_s (fr' := (14, lv, [.int 3, .ref 80, .int ((m.1 80 2) + 1), .int v1])) (hp' := xW B m) (q := (.iconst 3, 1, 0, 0, .null)) rfl (fun _ => rfl) (Nat.le_refl _) ?_
  refine q_al (n := 148) (v := (m.1 80 3)) H (pc := 14) rfl (by decide) (by decide) rfl ?_
  refine r_s (fr' := (16, lv, [.int 1, .int (m.1 80 3), .int ((m.1 80 2) + 1), .int v1])) (hp' := xW B m) (q := (.iconst 1, 1, 0, 0, .null)) rfl (fun _ => rfl) (Nat.le_refl _) ?_
  refine r_s (fr' := (17, lv, [.int ((m.1 80 3) - 1), .int ((m.1 80 2) + 1), .int v1])) (hp' := xW B m) (q := (.isub, 1, 0, 0, .null)) rfl (fun _ => rfl) (Nat.le_refl _) ?_
  refine q_li (k := 1) (i := 2) (q := (.iload_n 2, 1, 0, 0, .null)) rfl (fun _ => rfl) l2 ?_
  refine r_s (fr' := (19, lv, [.int (((m.1 80 3) - 1) - v2), .int ((m.1 80 2) + 1), .int v1])) (hp' := xW B m) (q := (.isub, 1, 0, 0, .null)) rfl (fun _ => rfl) (Nat.le_refl _) ?_
  obtain ⟨q19, h19, h⟩ := xbind h
  refine r_callS (as := [.int ((m.1 80 2) + 1), .int (((m.1 80 3) - 1) - v2)]) (rest := [.int v1]) (rv := some (.int q19.1)) (hp' := xW B q19.2) (pc := 19) rfl xr235 rfl rfl rfl (Nat.le_of_ble_eq_true rfl) (Z235 H h19 (by omega)) (Nat.le_refl _) ?_
  obtain ⟨c1, h⟩ := xif h
  refine q_div (f := fun x y => x / y) (q := (.idiv, 1, 0, 0, .null)) rfl (fun _ => rfl) c1 ?_
  refine q_lr (k := 1) (i := 0) (q := (.aload_n 0, 1, 0, 0, .null)) rfl (fun _ => rfl) l0 ?_
  refine r_gr (c := 80) H (pc := 24) rfl (by decide) (by decide) ?_
  refine r_s (fr' := (28, lv, [.int 2, .ref 80, .int (v1 / q19.1)])) (hp' := xW B q19.2) (q := (.iconst 2, 1, 0, 0, .null)) rfl (fun _ => rfl) (Nat.le_refl _) ?_
  refine q_al (n := 148) (v := (q19.2.1 80 2)) H (pc := 28) rfl (by decide) (by decide) rfl ?_
  refine r_s (fr' := (30, lv, [.int 1, .int (q19.2.1 80 2), .int (v1 / q19.1)])) (hp' := xW B q19.2) (q := (.iconst 1, 1, 0, 0, .null)) rfl (fun _ => rfl) (Nat.le_refl _) ?_
  refine r_s (fr' := (31, lv, [.int ((q19.2.1 80 2) + 1), .int (v1 / q19.1)])) (hp' := xW B q19.2) (q := (.iadd, 1, 0, 0, .null)) rfl (fun _ => rfl) (Nat.le_refl _) ?_
  obtain ⟨c2, h⟩ := xif h
  refine q_div (f := fun x y => x - x / y * y) (q := (.irem, 1, 0, 0, .null)) rfl (fun _ => rfl) c2 ?_
  refine r_s (fr' := (33, lv, [.int 1, .int ((v1 / q19.1) - (v1 / q19.1) / ((q19.2.1 80 2) + 1) * ((q19.2.1 80 2) + 1))])) (hp' := xW B q19.2) (q := (.iconst 1, 1, 0, 0, .null)) rfl (fun _ => rfl) (Nat.le_refl _) ?_
  refine r_s (fr' := (34, lv, [.int (((v1 / q19.1) - (v1 / q19.1) / ((q19.2.1 80 2) + 1) * ((q19.2.1 80 2) + 1)) - 1)])) (hp' := xW B q19.2) (q := (.isub, 1, 0, 0, .null)) rfl (fun _ => rfl) (Nat.le_refl _) ?_
  obtain rfl := Option.some.inj h
  exact q_ri (q := (.ireturn, 1, 0, 0, .null)) rfl (fun _ => rfl) rfl rfl
set_option maxRecDepth 20000 in
theorem Z254 {B : zHp} (H : yH0 B) {F : Nat} {a1 : Int32} {a2 : Int32} {m : xS} {x : Int32 × xS} (h : D254 F a1 a2 m = some x) {d : Nat} (hd : 2 ≤ d) : zCan d 254 [.ref 70, .int a1, .int a2] (xW B m) (some (.int x.1), xW B x.2) := by
  obtain ⟨e, rfl⟩ : ∃ e, d = e + 1 := ⟨d - 1, by omega⟩
  refine zCan_body (nL := 3) (rt := (some .int)) (cd := zc254) (xg254) ⟨Nat.le_of_ble_eq_true rfl, by decide⟩ (Nat.le_refl _) ?_
  exact T254 H hd F rfl rfl rfl h
/-- LentToolsModel.payBy -/
def D255_79 (F : Nat) (g7 : Int32 → Int32 → Int32 → Int32 → xS → Option (Int32 × xS)) (v1 : Int32) (v2 : Int32) (v3 : Int32) (v4 : Int32) (v5 : Int32) (m : xS) : Option (Int32 × xS) :=
  g7 v1 v2 v3 (v4 + Int32.ofInt 1) m
set_option maxRecDepth 20000 in
theorem T255_79 {B : zHp} (H : yH0 B) {e : Nat} (he : 3 ≤ e + 1) (F : Nat) (g7 : Int32 → Int32 → Int32 → Int32 → xS → Option (Int32 × xS)) (k7 : ∀ {v1 : Int32} {v2 : Int32} {v3 : Int32} {v4 : Int32} {lv : List (Nat × Value)} {m : xS} {x : Int32 × xS}, zld lv 0 = some (.ref 70) → zld lv 1 = some (.int v1) → zld lv 2 = some (.int v2) → zld lv 3 = some (.int v3) → zld lv 4 = some (.int v4) → g7 v1 v2 v3 v4 m = some x → zR none e 6 (some .int) zc255 (7, lv, []) (xW B m) (some (.int x.1), xW B x.2)) {v1 : Int32} {v2 : Int32} {v3 : Int32} {v4 : Int32} {v5 : Int32} {lv : List (Nat × Value)} {m : xS} {x : Int32 × xS} (l0 : zld lv 0 = some (.ref 70)) (l1 : zld lv 1 = some (.int v1)) (l2 : zld lv 2 = some (.int v2)) (l3 : zld lv 3 = some (.int v3)) (l4 : zld lv 4 = some (.int v4)) (l5 : zld lv 5 = some (.int v5)) (h : D255_79 F g7 v1 v2 v3 v4 v5 m = some x) : zR none e 6 (some .int) zc255 (79, lv, []) (xW B m) (some (.int x.1), xW B x.2) := by
  unfold D255_79 at h
  refine q_inc (i := 4) (n := 1) (q := (.iinc 4 1, 3, 0, 0, .null)) rfl (fun _ => rfl) l4 (by decide) ?_
  have l0_1 : zld (zs1 lv 4 (.int (v4 + Int32.ofInt 1))) 0 = some (.ref 70) := x_o1 l0 rfl rfl
  have l1_1 : zld (zs1 lv 4 (.int (v4 + Int32.ofInt 1))) 1 = some (.int v1) := x_o1 l1 rfl rfl
  have l2_1 : zld (zs1 lv 4 (.int (v4 + Int32.ofInt 1))) 2 = some (.int v2) := x_o1 l2 rfl rfl
  have l3_1 : zld (zs1 lv 4 (.int (v4 + Int32.ofInt 1))) 3 = some (.int v3) := x_o1 l3 rfl rfl
  have l4_1 : zld (zs1 lv 4 (.int (v4 + Int32.ofInt 1))) 4 = some (.int (v4 + Int32.ofInt 1)) := zs1_ld _ _ _
  have l5_1 : zld (zs1 lv 4 (.int (v4 + Int32.ofInt 1))) 5 = some (.int v5) := x_o1 l5 rfl rfl
  generalize (zs1 lv 4 (.int (v4 + Int32.ofInt 1))) = lv1 at *
  refine r_s (fr' := (7, lv1, [])) (hp' := xW B m) (q := (.goto (-75), 3, 7, 0, .null)) rfl (fun _ => rfl) (Nat.le_refl _) ?_
  exact k7 l0_1 l1_1 l2_1 l3_1 l4_1 h
def D255_60 (F : Nat) (v1 : Int32) (v2 : Int32) (v3 : Int32) (v4 : Int32) (v5 : Int32) (m : xS) : Option (Int32 × xS) :=
  some ((-1), m)
set_option maxRecDepth 20000 in
theorem T255_60 {B : zHp} (H : yH0 B) {e : Nat} (he : 3 ≤ e + 1) (F : Nat) {v1 : Int32} {v2 : Int32} {v3 : Int32} {v4 : Int32} {v5 : Int32} {lv : List (Nat × Value)} {m : xS} {x : Int32 × xS} (l0 : zld lv 0 = some (.ref 70)) (l1 : zld lv 1 = some (.int v1)) (l2 : zld lv 2 = some (.int v2)) (l3 : zld lv 3 = some (.int v3)) (l4 : zld lv 4 = some (.int v4)) (l5 : zld lv 5 = some (.int v5)) (h : D255_60 F v1 v2 v3 v4 v5 m = some x) : zR none e 6 (some .int) zc255 (60, lv, []) (xW B m) (some (.int x.1), xW B x.2) := by
  unfold D255_60 at h
  refine r_s (fr' := (61, lv, [.int (-1)])) (hp' := xW B m) (q := (.iconst (-1), 1, 0, 0, .null)) rfl (fun _ => rfl) (Nat.le_refl _) ?_
  obtain rfl := Option.some.inj h
  exact q_ri (q := (.ireturn, 1, 0, 0, .null)) rfl (fun _ => rfl) rfl rfl
def D255_7 (F : Nat) : Nat → Int32 → Int32 → Int32 → Int32 → xS → Option (Int32 × xS)
  | 0, _, _, _, _, _ => none
  | f + 1, v1, v2, v3, v4, m =>
    if zcmp .ge v4 (m.1 80 3) = true then
      some (v3, m)
    else
      (D254 F v1 v4 m).bind fun q22 =>
        if zcmp .ge q22.1 0 = true then
          if xib ((6 * q22.1) + v4) 36 = true then
            if zcmp .eq (q22.2.1 82 (((6 * q22.1) + v4) : Int32).toNatClampNeg) 0 = true then
              D255_60 F v1 v2 v3 v4 q22.1 q22.2
            else
              (D159 F v2 q22.1 q22.2).bind fun q54 =>
                if zcmp .eq q54.1 0 = true then
                  (D209 F v4 3 q54.2).bind fun q74 =>
                    D255_79 F (D255_7 F f) v1 (v2 ||| (1 <<< (q22.1 &&& 31))) (v3 + q74.1) v4 q22.1 q74.2
                else
                  D255_60 F v1 v2 v3 v4 q22.1 q54.2
          else none
        else
          D255_79 F (D255_7 F f) v1 v2 v3 v4 q22.1 q22.2
set_option maxRecDepth 20000 in
theorem T255_7 {B : zHp} (H : yH0 B) {e : Nat} (he : 3 ≤ e + 1) (F : Nat) : ∀ (f : Nat) {v1 : Int32} {v2 : Int32} {v3 : Int32} {v4 : Int32} {lv : List (Nat × Value)} {m : xS} {x : Int32 × xS}, zld lv 0 = some (.ref 70) → zld lv 1 = some (.int v1) → zld lv 2 = some (.int v2) → zld lv 3 = some (.int v3) → zld lv 4 = some (.int v4) → D255_7 F f v1 v2 v3 v4 m = some x → zR none e 6 (some .int) zc255 (7, lv, []) (xW B m) (some (.int x.1), xW B x.2) := by
  intro f
  induction f with
  | zero => intro v1 v2 v3 v4 lv m x l0 l1 l2 l3 l4 h; cases h
  | succ f ih =>
    intro v1 v2 v3 v4 lv m x l0 l1 l2 l3 l4 h
    unfold D255_7 at h
    refine q_li (k := 2) (i := 4) (q := (.iload 4, 2, 0, 0, .null)) rfl (fun _ => rfl) l4 ?_
    refine q_lr (k := 1) (i := 0) (q := (.aload_n 0, 1, 0, 0, .null)) rfl (fun _ => rfl) l0 ?_
    refine r_gr (c := 80) H (pc := 10) rfl (by decide) (by decide) ?_
    refine r_s (fr' := (14, lv, [.int 3, .ref 80, .int v4])) (hp' := xW B m) (q := (.iconst 3, 1, 0, 0, .null)) rfl (fun _ => rfl) (Nat.le_refl _) ?_
    refine q_al (n := 148) (v := (m.1 80 3)) H (pc := 14) rfl (by decide) (by decide) rfl ?_
    refine r_ifc (len := 3) (a := 85) (b := 0) (v0 := .null) (cn := .ge) (off := 70) rfl (fun c => ?_) (fun c => ?_)
    · rw [if_pos c] at h
      refine q_li (k := 1) (i := 3) (q := (.iload_n 3, 1, 0, 0, .null)) rfl (fun _ => rfl) l3 ?_
      obtain rfl := Option.some.inj h
      exact q_ri (q := (.ireturn, 1, 0, 0, .null)) rfl (fun _ => rfl) rfl rfl
    · rw [if_neg (by rw [c]; decide)] at h
      refine q_lr (k := 1) (i := 0) (q := (.aload_n 0, 1, 0, 0, .null)) rfl (fun _ => rfl) l0 ?_
      refine q_li (k := 1) (i := 1) (q := (.iload_n 1, 1, 0, 0, .null)) rfl (fun _ => rfl) l1 ?_
      refine q_li (k := 2) (i := 4) (q := (.iload 4, 2, 0, 0, .null)) rfl (fun _ => rfl) l4 ?_
      obtain ⟨q22, h22, h⟩ := xbind h
      refine r_call (ix := 70) (as := [.int v1, .int v4]) (rest := []) (rv := some (.int q22.1)) (hp' := xW B q22.2) (pc := 22) rfl xr254 rfl rfl rfl (xkd H (by decide)) (Nat.le_of_ble_eq_true rfl) (Z254 H h22 (by omega)) (Nat.le_refl _) ?_
      refine q_si (k := 2) (i := 5) (q := (.istore 5, 2, 0, 0, .null)) rfl (fun _ => rfl) (by decide) ?_
      have l0_1 : zld (zs1 lv 5 (.int q22.1)) 0 = some (.ref 70) := x_o1 l0 rfl rfl
      have l1_1 : zld (zs1 lv 5 (.int q22.1)) 1 = some (.int v1) := x_o1 l1 rfl rfl
      have l2_1 : zld (zs1 lv 5 (.int q22.1)) 2 = some (.int v2) := x_o1 l2 rfl rfl
      have l3_1 : zld (zs1 lv 5 (.int q22.1)) 3 = some (.int v3) := x_o1 l3 rfl rfl
      have l4_1 : zld (zs1 lv 5 (.int q22.1)) 4 = some (.int v4) := x_o1 l4 rfl rfl
      have l5_1 : zld (zs1 lv 5 (.int q22.1)) 5 = some (.int q22.1) := zs1_ld _ _ _
      generalize (zs1 lv 5 (.int q22.1)) = lv1 at *
      refine q_li (k := 2) (i := 5) (q := (.iload 5, 2, 0, 0, .null)) rfl (fun _ => rfl) l5_1 ?_
      refine r_if (len := 3) (a := 35) (b := 0) (v0 := .null) (cn := .ge) (off := 6) rfl (fun c => ?_) (fun c => ?_)
      · rw [if_pos c] at h
        refine q_lr (k := 1) (i := 0) (q := (.aload_n 0, 1, 0, 0, .null)) rfl (fun _ => rfl) l0_1 ?_
        refine r_gr (c := 82) H (pc := 36) rfl (by decide) (by decide) ?_
        refine r_s (fr' := (41, lv1, [.int 6, .ref 82])) (hp' := xW B q22.2) (q := (.bipush 6, 2, 0, 0, .null)) rfl (fun _ => rfl) (Nat.le_refl _) ?_
        refine q_li (k := 2) (i := 5) (q := (.iload 5, 2, 0, 0, .null)) rfl (fun _ => rfl) l5_1 ?_
        refine r_s (fr' := (44, lv1, [.int (6 * q22.1), .ref 82])) (hp' := xW B q22.2) (q := (.imul, 1, 0, 0, .null)) rfl (fun _ => rfl) (Nat.le_refl _) ?_
        refine q_li (k := 2) (i := 4) (q := (.iload 4, 2, 0, 0, .null)) rfl (fun _ => rfl) l4_1 ?_
        refine r_s (fr' := (47, lv1, [.int ((6 * q22.1) + v4), .ref 82])) (hp' := xW B q22.2) (q := (.iadd, 1, 0, 0, .null)) rfl (fun _ => rfl) (Nat.le_refl _) ?_
        obtain ⟨c2, h⟩ := xif h
        refine q_bl (n := 36) (v := (q22.2.1 82 (((6 * q22.1) + v4) : Int32).toNatClampNeg)) (k := 2) H (pc := 47) rfl (by decide) (by decide) c2 rfl ?_
        refine r_if (len := 3) (a := 60) (b := 0) (v0 := .null) (cn := .eq) (off := 12) rfl (fun c => ?_) (fun c => ?_)
        · rw [if_pos c] at h
          exact T255_60 H he F l0_1 l1_1 l2_1 l3_1 l4_1 l5_1 h
        · rw [if_neg (by rw [c]; decide)] at h
          refine q_li (k := 1) (i := 2) (q := (.iload_n 2, 1, 0, 0, .null)) rfl (fun _ => rfl) l2_1 ?_
          refine q_li (k := 2) (i := 5) (q := (.iload 5, 2, 0, 0, .null)) rfl (fun _ => rfl) l5_1 ?_
          obtain ⟨q54, h54, h⟩ := xbind h
          refine r_callS (as := [.int v2, .int q22.1]) (rest := []) (rv := some (.int q54.1)) (hp' := xW B q54.2) (pc := 54) rfl xr159 rfl rfl rfl (Nat.le_of_ble_eq_true rfl) (Z159 H h54 (by omega)) (Nat.le_refl _) ?_
          refine r_if (len := 3) (a := 62) (b := 0) (v0 := .null) (cn := .eq) (off := 5) rfl (fun c => ?_) (fun c => ?_)
          · rw [if_pos c] at h
            refine q_li (k := 1) (i := 2) (q := (.iload_n 2, 1, 0, 0, .null)) rfl (fun _ => rfl) l2_1 ?_
            refine r_s (fr' := (64, lv1, [.int 1, .int v2])) (hp' := xW B q54.2) (q := (.iconst 1, 1, 0, 0, .null)) rfl (fun _ => rfl) (Nat.le_refl _) ?_
            refine q_li (k := 2) (i := 5) (q := (.iload 5, 2, 0, 0, .null)) rfl (fun _ => rfl) l5_1 ?_
            refine r_s (fr' := (67, lv1, [.int (1 <<< (q22.1 &&& 31)), .int v2])) (hp' := xW B q54.2) (q := (.ishl, 1, 0, 0, .null)) rfl (fun _ => rfl) (Nat.le_refl _) ?_
            refine r_s (fr' := (68, lv1, [.int (v2 ||| (1 <<< (q22.1 &&& 31)))])) (hp' := xW B q54.2) (q := (.ior, 1, 0, 0, .null)) rfl (fun _ => rfl) (Nat.le_refl _) ?_
            refine q_si (k := 1) (i := 2) (q := (.istore_n 2, 1, 0, 0, .null)) rfl (fun _ => rfl) (by decide) ?_
            have l0_3 : zld (zs1 lv1 2 (.int (v2 ||| (1 <<< (q22.1 &&& 31))))) 0 = some (.ref 70) := x_o1 l0_1 rfl rfl
            have l1_3 : zld (zs1 lv1 2 (.int (v2 ||| (1 <<< (q22.1 &&& 31))))) 1 = some (.int v1) := x_o1 l1_1 rfl rfl
            have l2_3 : zld (zs1 lv1 2 (.int (v2 ||| (1 <<< (q22.1 &&& 31))))) 2 = some (.int (v2 ||| (1 <<< (q22.1 &&& 31)))) := zs1_ld _ _ _
            have l3_3 : zld (zs1 lv1 2 (.int (v2 ||| (1 <<< (q22.1 &&& 31))))) 3 = some (.int v3) := x_o1 l3_1 rfl rfl
            have l4_3 : zld (zs1 lv1 2 (.int (v2 ||| (1 <<< (q22.1 &&& 31))))) 4 = some (.int v4) := x_o1 l4_1 rfl rfl
            have l5_3 : zld (zs1 lv1 2 (.int (v2 ||| (1 <<< (q22.1 &&& 31))))) 5 = some (.int q22.1) := x_o1 l5_1 rfl rfl
            generalize (zs1 lv1 2 (.int (v2 ||| (1 <<< (q22.1 &&& 31))))) = lv3 at *
            refine q_li (k := 1) (i := 3) (q := (.iload_n 3, 1, 0, 0, .null)) rfl (fun _ => rfl) l3_3 ?_
            refine q_lr (k := 1) (i := 0) (q := (.aload_n 0, 1, 0, 0, .null)) rfl (fun _ => rfl) l0_3 ?_
            refine q_li (k := 2) (i := 4) (q := (.iload 4, 2, 0, 0, .null)) rfl (fun _ => rfl) l4_3 ?_
            refine r_s (fr' := (74, lv3, [.int 3, .int v4, .ref 70, .int v3])) (hp' := xW B q54.2) (q := (.iconst 3, 1, 0, 0, .null)) rfl (fun _ => rfl) (Nat.le_refl _) ?_
            obtain ⟨q74, h74, h⟩ := xbind h
            refine r_call (ix := 70) (as := [.int v4, .int 3]) (rest := [.int v3]) (rv := some (.int q74.1)) (hp' := xW B q74.2) (pc := 74) rfl xr209 rfl rfl rfl (xkd H (by decide)) (Nat.le_of_ble_eq_true rfl) (Z209 H h74 (by omega)) (Nat.le_refl _) ?_
            refine r_s (fr' := (78, lv3, [.int (v3 + q74.1)])) (hp' := xW B q74.2) (q := (.iadd, 1, 0, 0, .null)) rfl (fun _ => rfl) (Nat.le_refl _) ?_
            refine q_si (k := 1) (i := 3) (q := (.istore_n 3, 1, 0, 0, .null)) rfl (fun _ => rfl) (by decide) ?_
            have l0_4 : zld (zs1 lv3 3 (.int (v3 + q74.1))) 0 = some (.ref 70) := x_o1 l0_3 rfl rfl
            have l1_4 : zld (zs1 lv3 3 (.int (v3 + q74.1))) 1 = some (.int v1) := x_o1 l1_3 rfl rfl
            have l2_4 : zld (zs1 lv3 3 (.int (v3 + q74.1))) 2 = some (.int (v2 ||| (1 <<< (q22.1 &&& 31)))) := x_o1 l2_3 rfl rfl
            have l3_4 : zld (zs1 lv3 3 (.int (v3 + q74.1))) 3 = some (.int (v3 + q74.1)) := zs1_ld _ _ _
            have l4_4 : zld (zs1 lv3 3 (.int (v3 + q74.1))) 4 = some (.int v4) := x_o1 l4_3 rfl rfl
            have l5_4 : zld (zs1 lv3 3 (.int (v3 + q74.1))) 5 = some (.int q22.1) := x_o1 l5_3 rfl rfl
            generalize (zs1 lv3 3 (.int (v3 + q74.1))) = lv4 at *
            exact T255_79 H he F _ ih l0_4 l1_4 l2_4 l3_4 l4_4 l5_4 h
          · rw [if_neg (by rw [c]; decide)] at h
            exact T255_60 H he F l0_1 l1_1 l2_1 l3_1 l4_1 l5_1 h
      · rw [if_neg (by rw [c]; decide)] at h
        refine r_s (fr' := (79, lv1, [])) (hp' := xW B q22.2) (q := (.goto 47, 3, 79, 0, .null)) rfl (fun _ => rfl) (Nat.le_refl _) ?_
        exact T255_79 H he F _ ih l0_1 l1_1 l2_1 l3_1 l4_1 l5_1 h
def D255 (F : Nat) (v1 : Int32) (m : xS) : Option (Int32 × xS) :=
  D255_7 F F v1 0 0 0 m
set_option maxRecDepth 20000 in
theorem T255 {B : zHp} (H : yH0 B) {e : Nat} (he : 3 ≤ e + 1) (F : Nat) {v1 : Int32} {lv : List (Nat × Value)} {m : xS} {x : Int32 × xS} (l0 : zld lv 0 = some (.ref 70)) (l1 : zld lv 1 = some (.int v1)) (h : D255 F v1 m = some x) : zR none e 6 (some .int) zc255 (0, lv, []) (xW B m) (some (.int x.1), xW B x.2) := by
  unfold D255 at h
  refine r_s (fr' := (1, lv, [.int 0])) (hp' := xW B m) (q := (.iconst 0, 1, 0, 0, .null)) rfl (fun _ => rfl) (Nat.le_refl _) ?_
  refine q_si (k := 1) (i := 2) (q := (.istore_n 2, 1, 0, 0, .null)) rfl (fun _ => rfl) (by decide) ?_
  have l0_1 : zld (zs1 lv 2 (.int 0)) 0 = some (.ref 70) := x_o1 l0 rfl rfl
  have l1_1 : zld (zs1 lv 2 (.int 0)) 1 = some (.int v1) := x_o1 l1 rfl rfl
  have l2_1 : zld (zs1 lv 2 (.int 0)) 2 = some (.int 0) := zs1_ld _ _ _
  generalize (zs1 lv 2 (.int 0)) = lv1 at *
  refine r_s (fr' := (3, lv1, [.int 0])) (hp' := xW B m) (q := (.iconst 0, 1, 0, 0, .null)) rfl (fun _ => rfl) (Nat.le_refl _) ?_
  refine q_si (k := 1) (i := 3) (q := (.istore_n 3, 1, 0, 0, .null)) rfl (fun _ => rfl) (by decide) ?_
  have l0_2 : zld (zs1 lv1 3 (.int 0)) 0 = some (.ref 70) := x_o1 l0_1 rfl rfl
  have l1_2 : zld (zs1 lv1 3 (.int 0)) 1 = some (.int v1) := x_o1 l1_1 rfl rfl
  have l2_2 : zld (zs1 lv1 3 (.int 0)) 2 = some (.int 0) := x_o1 l2_1 rfl rfl
  have l3_2 : zld (zs1 lv1 3 (.int 0)) 3 = some (.int 0) := zs1_ld _ _ _
  generalize (zs1 lv1 3 (.int 0)) = lv2 at *
  refine r_s (fr' := (5, lv2, [.int 0])) (hp' := xW B m) (q := (.iconst 0, 1, 0, 0, .null)) rfl (fun _ => rfl) (Nat.le_refl _) ?_
  refine q_si (k := 2) (i := 4) (q := (.istore 4, 2, 0, 0, .null)) rfl (fun _ => rfl) (by decide) ?_
  have l0_3 : zld (zs1 lv2 4 (.int 0)) 0 = some (.ref 70) := x_o1 l0_2 rfl rfl
  have l1_3 : zld (zs1 lv2 4 (.int 0)) 1 = some (.int v1) := x_o1 l1_2 rfl rfl
  have l2_3 : zld (zs1 lv2 4 (.int 0)) 2 = some (.int 0) := x_o1 l2_2 rfl rfl
  have l3_3 : zld (zs1 lv2 4 (.int 0)) 3 = some (.int 0) := x_o1 l3_2 rfl rfl
  have l4_3 : zld (zs1 lv2 4 (.int 0)) 4 = some (.int 0) := zs1_ld _ _ _
  generalize (zs1 lv2 4 (.int 0)) = lv3 at *
  exact T255_7 H he F F l0_3 l1_3 l2_3 l3_3 l4_3 h
set_option maxRecDepth 20000 in
theorem Z255 {B : zHp} (H : yH0 B) {F : Nat} {a1 : Int32} {m : xS} {x : Int32 × xS} (h : D255 F a1 m = some x) {d : Nat} (hd : 3 ≤ d) : zCan d 255 [.ref 70, .int a1] (xW B m) (some (.int x.1), xW B x.2) := by
  obtain ⟨e, rfl⟩ : ∃ e, d = e + 1 := ⟨d - 1, by omega⟩
  refine zCan_body (nL := 6) (rt := (some .int)) (cd := zc255) (xg255) ⟨Nat.le_of_ble_eq_true rfl, by decide⟩ (Nat.le_refl _) ?_
  exact T255 H hd F rfl rfl h
/-- LentToolsModel.matches -/
def D256_62 (F : Nat) (g14 : Int32 → Int32 → Int32 → xS → Option (Int32 × xS)) (v1 : Int32) (v2 : Int32) (v3 : Int32) (v4 : Int32) (m : xS) : Option (Int32 × xS) :=
  g14 v1 v2 (v3 + Int32.ofInt 1) m
set_option maxRecDepth 20000 in
theorem T256_62 {B : zHp} (H : yH0 B) {e : Nat} (he : 8 ≤ e + 1) (F : Nat) (g14 : Int32 → Int32 → Int32 → xS → Option (Int32 × xS)) (k14 : ∀ {v1 : Int32} {v2 : Int32} {v3 : Int32} {lv : List (Nat × Value)} {m : xS} {x : Int32 × xS}, zld lv 0 = some (.ref 70) → zld lv 1 = some (.int v1) → zld lv 2 = some (.int v2) → zld lv 3 = some (.int v3) → g14 v1 v2 v3 m = some x → zR none e 5 (some .int) zc256 (14, lv, []) (xW B m) (some (.int x.1), xW B x.2)) {v1 : Int32} {v2 : Int32} {v3 : Int32} {v4 : Int32} {lv : List (Nat × Value)} {m : xS} {x : Int32 × xS} (l0 : zld lv 0 = some (.ref 70)) (l1 : zld lv 1 = some (.int v1)) (l2 : zld lv 2 = some (.int v2)) (l3 : zld lv 3 = some (.int v3)) (l4 : zld lv 4 = some (.int v4)) (h : D256_62 F g14 v1 v2 v3 v4 m = some x) : zR none e 5 (some .int) zc256 (62, lv, []) (xW B m) (some (.int x.1), xW B x.2) := by
  unfold D256_62 at h
  refine q_inc (i := 3) (n := 1) (q := (.iinc 3 1, 3, 0, 0, .null)) rfl (fun _ => rfl) l3 (by decide) ?_
  have l0_1 : zld (zs1 lv 3 (.int (v3 + Int32.ofInt 1))) 0 = some (.ref 70) := x_o1 l0 rfl rfl
  have l1_1 : zld (zs1 lv 3 (.int (v3 + Int32.ofInt 1))) 1 = some (.int v1) := x_o1 l1 rfl rfl
  have l2_1 : zld (zs1 lv 3 (.int (v3 + Int32.ofInt 1))) 2 = some (.int v2) := x_o1 l2 rfl rfl
  have l3_1 : zld (zs1 lv 3 (.int (v3 + Int32.ofInt 1))) 3 = some (.int (v3 + Int32.ofInt 1)) := zs1_ld _ _ _
  have l4_1 : zld (zs1 lv 3 (.int (v3 + Int32.ofInt 1))) 4 = some (.int v4) := x_o1 l4 rfl rfl
  generalize (zs1 lv 3 (.int (v3 + Int32.ofInt 1))) = lv1 at *
  refine r_s (fr' := (14, lv1, [])) (hp' := xW B m) (q := (.goto (-51), 3, 14, 0, .null)) rfl (fun _ => rfl) (Nat.le_refl _) ?_
  exact k14 l0_1 l1_1 l2_1 l3_1 h
def D256_70 (F : Nat) : Nat → Int32 → Int32 → Int32 → xS → Option (Int32 × xS)
  | 0, _, _, _, _ => none
  | f + 1, v1, v2, v3, m =>
    if zcmp .ge v3 (m.1 80 3) = true then
      some ((m.1 70 30), m)
    else
      (D254 F v2 v3 m).bind fun q88 =>
        if xib v3 6 = true then
          D256_70 F f v1 v2 (v3 + Int32.ofInt 1) (xu q88.2 83 (v3 : Int32).toNatClampNeg q88.1)
        else none
set_option maxRecDepth 20000 in
theorem T256_70 {B : zHp} (H : yH0 B) {e : Nat} (he : 8 ≤ e + 1) (F : Nat) : ∀ (f : Nat) {v1 : Int32} {v2 : Int32} {v3 : Int32} {lv : List (Nat × Value)} {m : xS} {x : Int32 × xS}, zld lv 0 = some (.ref 70) → zld lv 1 = some (.int v1) → zld lv 2 = some (.int v2) → zld lv 3 = some (.int v3) → D256_70 F f v1 v2 v3 m = some x → zR none e 5 (some .int) zc256 (70, lv, []) (xW B m) (some (.int x.1), xW B x.2) := by
  intro f
  induction f with
  | zero => intro v1 v2 v3 lv m x l0 l1 l2 l3 h; cases h
  | succ f ih =>
    intro v1 v2 v3 lv m x l0 l1 l2 l3 h
    unfold D256_70 at h
    refine q_li (k := 1) (i := 3) (q := (.iload_n 3, 1, 0, 0, .null)) rfl (fun _ => rfl) l3 ?_
    refine q_lr (k := 1) (i := 0) (q := (.aload_n 0, 1, 0, 0, .null)) rfl (fun _ => rfl) l0 ?_
    refine r_gr (c := 80) H (pc := 72) rfl (by decide) (by decide) ?_
    refine r_s (fr' := (76, lv, [.int 3, .ref 80, .int v3])) (hp' := xW B m) (q := (.iconst 3, 1, 0, 0, .null)) rfl (fun _ => rfl) (Nat.le_refl _) ?_
    refine q_al (n := 148) (v := (m.1 80 3)) H (pc := 76) rfl (by decide) (by decide) rfl ?_
    refine r_ifc (len := 3) (a := 98) (b := 0) (v0 := .null) (cn := .ge) (off := 21) rfl (fun c => ?_) (fun c => ?_)
    · rw [if_pos c] at h
      refine q_lr (k := 1) (i := 0) (q := (.aload_n 0, 1, 0, 0, .null)) rfl (fun _ => rfl) l0 ?_
      refine r_gi (v := (m.1 70 30)) H (pc := 99) (i := _) rfl (by decide) (by decide) rfl ?_
      obtain rfl := Option.some.inj h
      exact q_ri (q := (.ireturn, 1, 0, 0, .null)) rfl (fun _ => rfl) rfl rfl
    · rw [if_neg (by rw [c]; decide)] at h
      refine q_lr (k := 1) (i := 0) (q := (.aload_n 0, 1, 0, 0, .null)) rfl (fun _ => rfl) l0 ?_
      refine r_gr (c := 83) H (pc := 81) rfl (by decide) (by decide) ?_
      refine q_li (k := 1) (i := 3) (q := (.iload_n 3, 1, 0, 0, .null)) rfl (fun _ => rfl) l3 ?_
      refine q_lr (k := 1) (i := 0) (q := (.aload_n 0, 1, 0, 0, .null)) rfl (fun _ => rfl) l0 ?_
      refine q_li (k := 1) (i := 2) (q := (.iload_n 2, 1, 0, 0, .null)) rfl (fun _ => rfl) l2 ?_
      refine q_li (k := 1) (i := 3) (q := (.iload_n 3, 1, 0, 0, .null)) rfl (fun _ => rfl) l3 ?_
      obtain ⟨q88, h88, h⟩ := xbind h
      refine r_call (ix := 70) (as := [.int v2, .int v3]) (rest := [.int v3, .ref 83]) (rv := some (.int q88.1)) (hp' := xW B q88.2) (pc := 88) rfl xr254 rfl rfl rfl (xkd H (by decide)) (Nat.le_of_ble_eq_true rfl) (Z254 H h88 (by omega)) (Nat.le_refl _) ?_
      obtain ⟨c1, h⟩ := xif h
      refine q_as (n := 6) (s2 := (xu q88.2 83 (v3 : Int32).toNatClampNeg q88.1)) H (pc := 91) rfl (by decide) c1 rfl ?_
      refine q_inc (i := 3) (n := 1) (q := (.iinc 3 1, 3, 0, 0, .null)) rfl (fun _ => rfl) l3 (by decide) ?_
      have l0_2 : zld (zs1 lv 3 (.int (v3 + Int32.ofInt 1))) 0 = some (.ref 70) := x_o1 l0 rfl rfl
      have l1_2 : zld (zs1 lv 3 (.int (v3 + Int32.ofInt 1))) 1 = some (.int v1) := x_o1 l1 rfl rfl
      have l2_2 : zld (zs1 lv 3 (.int (v3 + Int32.ofInt 1))) 2 = some (.int v2) := x_o1 l2 rfl rfl
      have l3_2 : zld (zs1 lv 3 (.int (v3 + Int32.ofInt 1))) 3 = some (.int (v3 + Int32.ofInt 1)) := zs1_ld _ _ _
      generalize (zs1 lv 3 (.int (v3 + Int32.ofInt 1))) = lv2 at *
      refine r_s (fr' := (70, lv2, [])) (hp' := xW B (xu q88.2 83 (v3 : Int32).toNatClampNeg q88.1)) (q := (.goto (-25), 3, 70, 0, .null)) rfl (fun _ => rfl) (Nat.le_refl _) ?_
      exact ih l0_2 l1_2 l2_2 l3_2 h
def D256_14 (F : Nat) : Nat → Int32 → Int32 → Int32 → xS → Option (Int32 × xS)
  | 0, _, _, _, _ => none
  | f + 1, v1, v2, v3, m =>
    (D235 F ((m.1 80 2) + 1) (m.1 80 3) m).bind fun q29 =>
      if zcmp .ge v3 q29.1 = true then
        D256_70 F F v1 v2 0 q29.2
      else
        (D255 F v3 q29.2).bind fun q37 =>
          if zcmp .gt q37.1 (q37.2.1 70 30) = true then
            D256_62 F (D256_14 F f) v1 v3 v3 q37.1 (xu q37.2 70 30 q37.1)
          else
            D256_62 F (D256_14 F f) v1 v2 v3 q37.1 q37.2
set_option maxRecDepth 20000 in
theorem T256_14 {B : zHp} (H : yH0 B) {e : Nat} (he : 8 ≤ e + 1) (F : Nat) : ∀ (f : Nat) {v1 : Int32} {v2 : Int32} {v3 : Int32} {lv : List (Nat × Value)} {m : xS} {x : Int32 × xS}, zld lv 0 = some (.ref 70) → zld lv 1 = some (.int v1) → zld lv 2 = some (.int v2) → zld lv 3 = some (.int v3) → D256_14 F f v1 v2 v3 m = some x → zR none e 5 (some .int) zc256 (14, lv, []) (xW B m) (some (.int x.1), xW B x.2) := by
  intro f
  induction f with
  | zero => intro v1 v2 v3 lv m x l0 l1 l2 l3 h; cases h
  | succ f ih =>
    intro v1 v2 v3 lv m x l0 l1 l2 l3 h
    unfold D256_14 at h
    refine q_li (k := 1) (i := 3) (q := (.iload_n 3, 1, 0, 0, .null)) rfl (fun _ => rfl) l3 ?_
    refine q_lr (k := 1) (i := 0) (q := (.aload_n 0, 1, 0, 0, .null)) rfl (fun _ => rfl) l0 ?_
    refine r_gr (c := 80) H (pc := 16) rfl (by decide) (by decide) ?_
    refine r_s (fr' := (20, lv, [.int 2, .ref 80, .int v3])) (hp' := xW B m) (q := (.iconst 2, 1, 0, 0, .null)) rfl (fun _ => rfl) (Nat.le_refl _) ?_
    refine q_al (n := 148) (v := (m.1 80 2)) H (pc := 20) rfl (by decide) (by decide) rfl ?_
    refine r_s (fr' := (22, lv, [.int 1, .int (m.1 80 2), .int v3])) (hp' := xW B m) (q := (.iconst 1, 1, 0, 0, .null)) rfl (fun _ => rfl) (Nat.le_refl _) ?_
    refine r_s (fr' := (23, lv, [.int ((m.1 80 2) + 1), .int v3])) (hp' := xW B m) (q := (.iadd, 1, 0, 0, .null)) rfl (fun _ => rfl) (Nat.le_refl _) ?_
    refine q_lr (k := 1) (i := 0) (q := (.aload_n 0, 1, 0, 0, .null)) rfl (fun _ => rfl) l0 ?_
    refine r_gr (c := 80) H (pc := 24) rfl (by decide) (by decide) ?_
    refine r_s (fr' := (28, lv, [.int 3, .ref 80, .int ((m.1 80 2) + 1), .int v3])) (hp' := xW B m) (q := (.iconst 3, 1, 0, 0, .null)) rfl (fun _ => rfl) (Nat.le_refl _) ?_
    refine q_al (n := 148) (v := (m.1 80 3)) H (pc := 28) rfl (by decide) (by decide) rfl ?_
    obtain ⟨q29, h29, h⟩ := xbind h
    refine r_callS (as := [.int ((m.1 80 2) + 1), .int (m.1 80 3)]) (rest := [.int v3]) (rv := some (.int q29.1)) (hp' := xW B q29.2) (pc := 29) rfl xr235 rfl rfl rfl (Nat.le_of_ble_eq_true rfl) (Z235 H h29 (by omega)) (Nat.le_refl _) ?_
    refine r_ifc (len := 3) (a := 68) (b := 0) (v0 := .null) (cn := .ge) (off := 36) rfl (fun c => ?_) (fun c => ?_)
    · rw [if_pos c] at h
      refine r_s (fr' := (69, lv, [.int 0])) (hp' := xW B q29.2) (q := (.iconst 0, 1, 0, 0, .null)) rfl (fun _ => rfl) (Nat.le_refl _) ?_
      refine q_si (k := 1) (i := 3) (q := (.istore_n 3, 1, 0, 0, .null)) rfl (fun _ => rfl) (by decide) ?_
      have l0_1 : zld (zs1 lv 3 (.int 0)) 0 = some (.ref 70) := x_o1 l0 rfl rfl
      have l1_1 : zld (zs1 lv 3 (.int 0)) 1 = some (.int v1) := x_o1 l1 rfl rfl
      have l2_1 : zld (zs1 lv 3 (.int 0)) 2 = some (.int v2) := x_o1 l2 rfl rfl
      have l3_1 : zld (zs1 lv 3 (.int 0)) 3 = some (.int 0) := zs1_ld _ _ _
      generalize (zs1 lv 3 (.int 0)) = lv1 at *
      exact T256_70 H he F F l0_1 l1_1 l2_1 l3_1 h
    · rw [if_neg (by rw [c]; decide)] at h
      refine q_lr (k := 1) (i := 0) (q := (.aload_n 0, 1, 0, 0, .null)) rfl (fun _ => rfl) l0 ?_
      refine q_li (k := 1) (i := 3) (q := (.iload_n 3, 1, 0, 0, .null)) rfl (fun _ => rfl) l3 ?_
      obtain ⟨q37, h37, h⟩ := xbind h
      refine r_call (ix := 70) (as := [.int v3]) (rest := []) (rv := some (.int q37.1)) (hp' := xW B q37.2) (pc := 37) rfl xr255 rfl rfl rfl (xkd H (by decide)) (Nat.le_of_ble_eq_true rfl) (Z255 H h37 (by omega)) (Nat.le_refl _) ?_
      refine q_si (k := 2) (i := 4) (q := (.istore 4, 2, 0, 0, .null)) rfl (fun _ => rfl) (by decide) ?_
      have l0_2 : zld (zs1 lv 4 (.int q37.1)) 0 = some (.ref 70) := x_o1 l0 rfl rfl
      have l1_2 : zld (zs1 lv 4 (.int q37.1)) 1 = some (.int v1) := x_o1 l1 rfl rfl
      have l2_2 : zld (zs1 lv 4 (.int q37.1)) 2 = some (.int v2) := x_o1 l2 rfl rfl
      have l3_2 : zld (zs1 lv 4 (.int q37.1)) 3 = some (.int v3) := x_o1 l3 rfl rfl
      have l4_2 : zld (zs1 lv 4 (.int q37.1)) 4 = some (.int q37.1) := zs1_ld _ _ _
      generalize (zs1 lv 4 (.int q37.1)) = lv2 at *
      refine q_li (k := 2) (i := 4) (q := (.iload 4, 2, 0, 0, .null)) rfl (fun _ => rfl) l4_2 ?_
      refine q_lr (k := 1) (i := 0) (q := (.aload_n 0, 1, 0, 0, .null)) rfl (fun _ => rfl) l0_2 ?_
      refine r_gi (v := (q37.2.1 70 30)) H (pc := 45) (i := _) rfl (by decide) (by decide) rfl ?_
      refine r_ifc (len := 3) (a := 54) (b := 0) (v0 := .null) (cn := .gt) (off := 6) rfl (fun c => ?_) (fun c => ?_)
      · rw [if_pos c] at h
        refine q_lr (k := 1) (i := 0) (q := (.aload_n 0, 1, 0, 0, .null)) rfl (fun _ => rfl) l0_2 ?_
        refine q_li (k := 2) (i := 4) (q := (.iload 4, 2, 0, 0, .null)) rfl (fun _ => rfl) l4_2 ?_
        refine r_pi (s2 := (xu q37.2 70 30 q37.1)) H (pc := 57) rfl (by decide) rfl rfl ?_
        refine q_li (k := 1) (i := 3) (q := (.iload_n 3, 1, 0, 0, .null)) rfl (fun _ => rfl) l3_2 ?_
        refine q_si (k := 1) (i := 2) (q := (.istore_n 2, 1, 0, 0, .null)) rfl (fun _ => rfl) (by decide) ?_
        have l0_3 : zld (zs1 lv2 2 (.int v3)) 0 = some (.ref 70) := x_o1 l0_2 rfl rfl
        have l1_3 : zld (zs1 lv2 2 (.int v3)) 1 = some (.int v1) := x_o1 l1_2 rfl rfl
        have l2_3 : zld (zs1 lv2 2 (.int v3)) 2 = some (.int v3) := zs1_ld _ _ _
        have l3_3 : zld (zs1 lv2 2 (.int v3)) 3 = some (.int v3) := x_o1 l3_2 rfl rfl
        have l4_3 : zld (zs1 lv2 2 (.int v3)) 4 = some (.int q37.1) := x_o1 l4_2 rfl rfl
        generalize (zs1 lv2 2 (.int v3)) = lv3 at *
        exact T256_62 H he F _ ih l0_3 l1_3 l2_3 l3_3 l4_3 h
      · rw [if_neg (by rw [c]; decide)] at h
        refine r_s (fr' := (62, lv2, [])) (hp' := xW B q37.2) (q := (.goto 11, 3, 62, 0, .null)) rfl (fun _ => rfl) (Nat.le_refl _) ?_
        exact T256_62 H he F _ ih l0_2 l1_2 l2_2 l3_2 l4_2 h
def D256 (F : Nat) (v1 : Int32) (m : xS) : Option (Int32 × xS) :=
  (D253 F v1 m).bind fun q2 =>
    D256_14 F F v1 0 0 (xu q2.2 70 30 (-1))
set_option maxRecDepth 20000 in
theorem T256 {B : zHp} (H : yH0 B) {e : Nat} (he : 8 ≤ e + 1) (F : Nat) {v1 : Int32} {lv : List (Nat × Value)} {m : xS} {x : Int32 × xS} (l0 : zld lv 0 = some (.ref 70)) (l1 : zld lv 1 = some (.int v1)) (h : D256 F v1 m = some x) : zR none e 5 (some .int) zc256 (0, lv, []) (xW B m) (some (.int x.1), xW B x.2) := by
  unfold D256 at h
  refine q_lr (k := 1) (i := 0) (q := (.aload_n 0, 1, 0, 0, .null)) rfl (fun _ => rfl) l0 ?_
  refine q_li (k := 1) (i := 1) (q := (.iload_n 1, 1, 0, 0, .null)) rfl (fun _ => rfl) l1 ?_
  obtain ⟨q2, h2, h⟩ := xbind h
  refine r_call (ix := 70) (as := [.int v1]) (rest := []) (rv := none) (hp' := xW B q2.2) (pc := 2) rfl xr253 rfl rfl rfl (xkd H (by decide)) (Nat.le_of_ble_eq_true rfl) (Z253 H h2 (by omega)) (Nat.le_refl _) ?_
  refine q_lr (k := 1) (i := 0) (q := (.aload_n 0, 1, 0, 0, .null)) rfl (fun _ => rfl) l0 ?_
  refine r_s (fr' := (7, lv, [.int (-1), .ref 70])) (hp' := xW B q2.2) (q := (.iconst (-1), 1, 0, 0, .null)) rfl (fun _ => rfl) (Nat.le_refl _) ?_
  refine r_pi (s2 := (xu q2.2 70 30 (-1))) H (pc := 7) rfl (by decide) rfl rfl ?_
  refine r_s (fr' := (11, lv, [.int 0])) (hp' := xW B (xu q2.2 70 30 (-1))) (q := (.iconst 0, 1, 0, 0, .null)) rfl (fun _ => rfl) (Nat.le_refl _) ?_
  refine q_si (k := 1) (i := 2) (q := (.istore_n 2, 1, 0, 0, .null)) rfl (fun _ => rfl) (by decide) ?_
  have l0_1 : zld (zs1 lv 2 (.int 0)) 0 = some (.ref 70) := x_o1 l0 rfl rfl
  have l1_1 : zld (zs1 lv 2 (.int 0)) 1 = some (.int v1) := x_o1 l1 rfl rfl
  have l2_1 : zld (zs1 lv 2 (.int 0)) 2 = some (.int 0) := zs1_ld _ _ _
  generalize (zs1 lv 2 (.int 0)) = lv1 at *
  refine r_s (fr' := (13, lv1, [.int 0])) (hp' := xW B (xu q2.2 70 30 (-1))) (q := (.iconst 0, 1, 0, 0, .null)) rfl (fun _ => rfl) (Nat.le_refl _) ?_
  refine q_si (k := 1) (i := 3) (q := (.istore_n 3, 1, 0, 0, .null)) rfl (fun _ => rfl) (by decide) ?_
  have l0_2 : zld (zs1 lv1 3 (.int 0)) 0 = some (.ref 70) := x_o1 l0_1 rfl rfl
  have l1_2 : zld (zs1 lv1 3 (.int 0)) 1 = some (.int v1) := x_o1 l1_1 rfl rfl
  have l2_2 : zld (zs1 lv1 3 (.int 0)) 2 = some (.int 0) := x_o1 l2_1 rfl rfl
  have l3_2 : zld (zs1 lv1 3 (.int 0)) 3 = some (.int 0) := zs1_ld _ _ _
  generalize (zs1 lv1 3 (.int 0)) = lv2 at *
  exact T256_14 H he F F l0_2 l1_2 l2_2 l3_2 h
set_option maxRecDepth 20000 in
theorem Z256 {B : zHp} (H : yH0 B) {F : Nat} {a1 : Int32} {m : xS} {x : Int32 × xS} (h : D256 F a1 m = some x) {d : Nat} (hd : 8 ≤ d) : zCan d 256 [.ref 70, .int a1] (xW B m) (some (.int x.1), xW B x.2) := by
  obtain ⟨e, rfl⟩ : ∃ e, d = e + 1 := ⟨d - 1, by omega⟩
  refine zCan_body (nL := 5) (rt := (some .int)) (cd := zc256) (xg256) ⟨Nat.le_of_ble_eq_true rfl, by decide⟩ (Nat.le_refl _) ?_
  exact T256 H hd F rfl rfl h
/-- LentToolsModel.match -/
def D257_19 (F : Nat) (v1 : Int32) (m : xS) : Option (Int32 × xS) :=
  some ((-3), m)
set_option maxRecDepth 20000 in
theorem T257_19 {B : zHp} (H : yH0 B) {e : Nat} (he : 9 ≤ e + 1) (F : Nat) {v1 : Int32} {lv : List (Nat × Value)} {m : xS} {x : Int32 × xS} (l0 : zld lv 0 = some (.ref 70)) (l1 : zld lv 1 = some (.int v1)) (h : D257_19 F v1 m = some x) : zR none e 2 (some .int) zc257 (19, lv, []) (xW B m) (some (.int x.1), xW B x.2) := by
  unfold D257_19 at h
  refine r_s (fr' := (21, lv, [.int (-3)])) (hp' := xW B m) (q := (.bipush (-3), 2, 0, 0, .null)) rfl (fun _ => rfl) (Nat.le_refl _) ?_
  obtain rfl := Option.some.inj h
  exact q_ri (q := (.ireturn, 1, 0, 0, .null)) rfl (fun _ => rfl) rfl rfl
def D257 (F : Nat) (v1 : Int32) (m : xS) : Option (Int32 × xS) :=
  (D204 F m).bind fun q1 =>
    if zcmp .eq q1.1 0 = true then
      D257_19 F v1 q1.2
    else
      (D158 F (v1 : Int32).toInt64 0 6 q1.2).bind fun q13 =>
        if zcmp .ne q13.1 0 = true then
          (D256 F (-1) q13.2).bind fun q24 =>
            if zcmp .ne v1 0 = true then
              if zcmp .le v1 (q24.2.1 80 3) = true then
                if xib (v1 - 1) 6 = true then
                  some ((q24.2.1 83 ((v1 - 1) : Int32).toNatClampNeg), q24.2)
                else none
              else
                some ((-2), q24.2)
            else
              some ((q24.2.1 70 30), q24.2)
        else
          D257_19 F v1 q13.2
set_option maxRecDepth 20000 in
theorem T257 {B : zHp} (H : yH0 B) {e : Nat} (he : 9 ≤ e + 1) (F : Nat) {v1 : Int32} {lv : List (Nat × Value)} {m : xS} {x : Int32 × xS} (l0 : zld lv 0 = some (.ref 70)) (l1 : zld lv 1 = some (.int v1)) (h : D257 F v1 m = some x) : zR none e 2 (some .int) zc257 (0, lv, []) (xW B m) (some (.int x.1), xW B x.2) := by
  unfold D257 at h
  refine q_lr (k := 1) (i := 0) (q := (.aload_n 0, 1, 0, 0, .null)) rfl (fun _ => rfl) l0 ?_
  obtain ⟨q1, h1, h⟩ := xbind h
  refine r_call (ix := 70) (as := []) (rest := []) (rv := some (.int q1.1)) (hp' := xW B q1.2) (pc := 1) rfl xr204 rfl rfl rfl (xkd H (by decide)) (Nat.le_of_ble_eq_true rfl) (Z204 H h1 (by omega)) (Nat.le_refl _) ?_
  refine r_if (len := 3) (a := 19) (b := 0) (v0 := .null) (cn := .eq) (off := 15) rfl (fun c => ?_) (fun c => ?_)
  · rw [if_pos c] at h
    exact T257_19 H he F l0 l1 h
  · rw [if_neg (by rw [c]; decide)] at h
    refine q_li (k := 1) (i := 1) (q := (.iload_n 1, 1, 0, 0, .null)) rfl (fun _ => rfl) l1 ?_
    refine r_s (fr' := (9, lv, [.long (v1 : Int32).toInt64])) (hp' := xW B q1.2) (q := (.i2l, 1, 0, 0, .null)) rfl (fun _ => rfl) (Nat.le_refl _) ?_
    refine r_s (fr' := (10, lv, [.long 0, .long (v1 : Int32).toInt64])) (hp' := xW B q1.2) (q := (.lconst 0, 1, 0, 0, .null)) rfl (fun _ => rfl) (Nat.le_refl _) ?_
    refine r_s (fr' := (13, lv, [.long 6, .long 0, .long (v1 : Int32).toInt64])) (hp' := xW B q1.2) (q := (.ldc2_w 413, 3, 0, 0, .long 6)) rfl (fun _ => rfl) (Nat.le_refl _) ?_
    obtain ⟨q13, h13, h⟩ := xbind h
    refine r_callS (as := [.long (v1 : Int32).toInt64, .long 0, .long 6]) (rest := []) (rv := some (.int q13.1)) (hp' := xW B q13.2) (pc := 13) rfl xr158 rfl rfl rfl (Nat.le_of_ble_eq_true rfl) (Z158 H h13 (by omega)) (Nat.le_refl _) ?_
    refine r_if (len := 3) (a := 22) (b := 0) (v0 := .null) (cn := .ne) (off := 6) rfl (fun c => ?_) (fun c => ?_)
    · rw [if_pos c] at h
      refine q_lr (k := 1) (i := 0) (q := (.aload_n 0, 1, 0, 0, .null)) rfl (fun _ => rfl) l0 ?_
      refine r_s (fr' := (24, lv, [.int (-1), .ref 70])) (hp' := xW B q13.2) (q := (.iconst (-1), 1, 0, 0, .null)) rfl (fun _ => rfl) (Nat.le_refl _) ?_
      obtain ⟨q24, h24, h⟩ := xbind h
      refine r_call (ix := 70) (as := [.int (-1)]) (rest := []) (rv := some (.int q24.1)) (hp' := xW B q24.2) (pc := 24) rfl xr256 rfl rfl rfl (xkd H (by decide)) (Nat.le_of_ble_eq_true rfl) (Z256 H h24 (by omega)) (Nat.le_refl _) ?_
      refine r_s (fr' := (28, lv, [])) (hp' := xW B q24.2) (q := (.pop, 1, 0, 0, .null)) rfl (fun _ => rfl) (Nat.le_refl _) ?_
      refine q_li (k := 1) (i := 1) (q := (.iload_n 1, 1, 0, 0, .null)) rfl (fun _ => rfl) l1 ?_
      refine r_if (len := 3) (a := 39) (b := 0) (v0 := .null) (cn := .ne) (off := 10) rfl (fun c => ?_) (fun c => ?_)
      · rw [if_pos c] at h
        refine q_li (k := 1) (i := 1) (q := (.iload_n 1, 1, 0, 0, .null)) rfl (fun _ => rfl) l1 ?_
        refine q_lr (k := 1) (i := 0) (q := (.aload_n 0, 1, 0, 0, .null)) rfl (fun _ => rfl) l0 ?_
        refine r_gr (c := 80) H (pc := 41) rfl (by decide) (by decide) ?_
        refine r_s (fr' := (45, lv, [.int 3, .ref 80, .int v1])) (hp' := xW B q24.2) (q := (.iconst 3, 1, 0, 0, .null)) rfl (fun _ => rfl) (Nat.le_refl _) ?_
        refine q_al (n := 148) (v := (q24.2.1 80 3)) H (pc := 45) rfl (by decide) (by decide) rfl ?_
        refine r_ifc (len := 3) (a := 54) (b := 0) (v0 := .null) (cn := .le) (off := 8) rfl (fun c => ?_) (fun c => ?_)
        · rw [if_pos c] at h
          refine q_lr (k := 1) (i := 0) (q := (.aload_n 0, 1, 0, 0, .null)) rfl (fun _ => rfl) l0 ?_
          refine r_gr (c := 83) H (pc := 55) rfl (by decide) (by decide) ?_
          refine q_li (k := 1) (i := 1) (q := (.iload_n 1, 1, 0, 0, .null)) rfl (fun _ => rfl) l1 ?_
          refine r_s (fr' := (60, lv, [.int 1, .int v1, .ref 83])) (hp' := xW B q24.2) (q := (.iconst 1, 1, 0, 0, .null)) rfl (fun _ => rfl) (Nat.le_refl _) ?_
          refine r_s (fr' := (61, lv, [.int (v1 - 1), .ref 83])) (hp' := xW B q24.2) (q := (.isub, 1, 0, 0, .null)) rfl (fun _ => rfl) (Nat.le_refl _) ?_
          obtain ⟨c1, h⟩ := xif h
          refine q_al (n := 6) (v := (q24.2.1 83 ((v1 - 1) : Int32).toNatClampNeg)) H (pc := 61) rfl (by decide) c1 rfl ?_
          obtain rfl := Option.some.inj h
          exact q_ri (q := (.ireturn, 1, 0, 0, .null)) rfl (fun _ => rfl) rfl rfl
        · rw [if_neg (by rw [c]; decide)] at h
          refine r_s (fr' := (51, lv, [.int (-2)])) (hp' := xW B q24.2) (q := (.bipush (-2), 2, 0, 0, .null)) rfl (fun _ => rfl) (Nat.le_refl _) ?_
          refine r_s (fr' := (62, lv, [.int (-2)])) (hp' := xW B q24.2) (q := (.goto 11, 3, 62, 0, .null)) rfl (fun _ => rfl) (Nat.le_refl _) ?_
          obtain rfl := Option.some.inj h
          exact q_ri (q := (.ireturn, 1, 0, 0, .null)) rfl (fun _ => rfl) rfl rfl
      · rw [if_neg (by rw [c]; decide)] at h
        refine q_lr (k := 1) (i := 0) (q := (.aload_n 0, 1, 0, 0, .null)) rfl (fun _ => rfl) l0 ?_
        refine r_gi (v := (q24.2.1 70 30)) H (pc := 33) (i := _) rfl (by decide) (by decide) rfl ?_
        refine r_s (fr' := (62, lv, [.int (q24.2.1 70 30)])) (hp' := xW B q24.2) (q := (.goto 26, 3, 62, 0, .null)) rfl (fun _ => rfl) (Nat.le_refl _) ?_
        obtain rfl := Option.some.inj h
        exact q_ri (q := (.ireturn, 1, 0, 0, .null)) rfl (fun _ => rfl) rfl rfl
    · rw [if_neg (by rw [c]; decide)] at h
      exact T257_19 H he F l0 l1 h
set_option maxRecDepth 20000 in
theorem Z257 {B : zHp} (H : yH0 B) {F : Nat} {a1 : Int32} {m : xS} {x : Int32 × xS} (h : D257 F a1 m = some x) {d : Nat} (hd : 9 ≤ d) : zCan d 257 [.ref 70, .int a1] (xW B m) (some (.int x.1), xW B x.2) := by
  obtain ⟨e, rfl⟩ : ∃ e, d = e + 1 := ⟨d - 1, by omega⟩
  refine zCan_body (nL := 2) (rt := (some .int)) (cd := zc257) (xg257) ⟨Nat.le_of_ble_eq_true rfl, by decide⟩ (Nat.le_refl _) ?_
  exact T257 H hd F rfl rfl h
/-- LentToolsModel.worth -/
def D258 (F : Nat) (v1 : Int32) (m : xS) : Option (Int32 × xS) :=
  (D206 F v1 m).bind fun q2 =>
    if zcmp .eq q2.1 0 = true then
      some ((-1), q2.2)
    else
      (D256 F (-1) q2.2).bind fun q10 =>
        (D256 F v1 q10.2).bind fun q15 =>
          some ((q10.1 - q15.1), q15.2)
set_option maxRecDepth 20000 in
theorem T258 {B : zHp} (H : yH0 B) {e : Nat} (he : 9 ≤ e + 1) (F : Nat) {v1 : Int32} {lv : List (Nat × Value)} {m : xS} {x : Int32 × xS} (l0 : zld lv 0 = some (.ref 70)) (l1 : zld lv 1 = some (.int v1)) (h : D258 F v1 m = some x) : zR none e 2 (some .int) zc258 (0, lv, []) (xW B m) (some (.int x.1), xW B x.2) := by
  unfold D258 at h
  refine q_lr (k := 1) (i := 0) (q := (.aload_n 0, 1, 0, 0, .null)) rfl (fun _ => rfl) l0 ?_
  refine q_li (k := 1) (i := 1) (q := (.iload_n 1, 1, 0, 0, .null)) rfl (fun _ => rfl) l1 ?_
  obtain ⟨q2, h2, h⟩ := xbind h
  refine r_call (ix := 70) (as := [.int v1]) (rest := []) (rv := some (.int q2.1)) (hp' := xW B q2.2) (pc := 2) rfl xr206 rfl rfl rfl (xkd H (by decide)) (Nat.le_of_ble_eq_true rfl) (Z206 H h2 (by omega)) (Nat.le_refl _) ?_
  refine r_if (len := 3) (a := 22) (b := 0) (v0 := .null) (cn := .eq) (off := 17) rfl (fun c => ?_) (fun c => ?_)
  · rw [if_pos c] at h
    refine r_s (fr' := (23, lv, [.int (-1)])) (hp' := xW B q2.2) (q := (.iconst (-1), 1, 0, 0, .null)) rfl (fun _ => rfl) (Nat.le_refl _) ?_
    obtain rfl := Option.some.inj h
    exact q_ri (q := (.ireturn, 1, 0, 0, .null)) rfl (fun _ => rfl) rfl rfl
  · rw [if_neg (by rw [c]; decide)] at h
    refine q_lr (k := 1) (i := 0) (q := (.aload_n 0, 1, 0, 0, .null)) rfl (fun _ => rfl) l0 ?_
    refine r_s (fr' := (10, lv, [.int (-1), .ref 70])) (hp' := xW B q2.2) (q := (.iconst (-1), 1, 0, 0, .null)) rfl (fun _ => rfl) (Nat.le_refl _) ?_
    obtain ⟨q10, h10, h⟩ := xbind h
    refine r_call (ix := 70) (as := [.int (-1)]) (rest := []) (rv := some (.int q10.1)) (hp' := xW B q10.2) (pc := 10) rfl xr256 rfl rfl rfl (xkd H (by decide)) (Nat.le_of_ble_eq_true rfl) (Z256 H h10 (by omega)) (Nat.le_refl _) ?_
    refine q_lr (k := 1) (i := 0) (q := (.aload_n 0, 1, 0, 0, .null)) rfl (fun _ => rfl) l0 ?_
    refine q_li (k := 1) (i := 1) (q := (.iload_n 1, 1, 0, 0, .null)) rfl (fun _ => rfl) l1 ?_
    obtain ⟨q15, h15, h⟩ := xbind h
    refine r_call (ix := 70) (as := [.int v1]) (rest := [.int q10.1]) (rv := some (.int q15.1)) (hp' := xW B q15.2) (pc := 15) rfl xr256 rfl rfl rfl (xkd H (by decide)) (Nat.le_of_ble_eq_true rfl) (Z256 H h15 (by omega)) (Nat.le_refl _) ?_
    refine r_s (fr' := (19, lv, [.int (q10.1 - q15.1)])) (hp' := xW B q15.2) (q := (.isub, 1, 0, 0, .null)) rfl (fun _ => rfl) (Nat.le_refl _) ?_
    refine r_s (fr' := (23, lv, [.int (q10.1 - q15.1)])) (hp' := xW B q15.2) (q := (.goto 4, 3, 23, 0, .null)) rfl (fun _ => rfl) (Nat.le_refl _) ?_
    obtain rfl := Option.some.inj h
    exact q_ri (q := (.ireturn, 1, 0, 0, .null)) rfl (fun _ => rfl) rfl rfl
set_option maxRecDepth 20000 in
theorem Z258 {B : zHp} (H : yH0 B) {F : Nat} {a1 : Int32} {m : xS} {x : Int32 × xS} (h : D258 F a1 m = some x) {d : Nat} (hd : 9 ≤ d) : zCan d 258 [.ref 70, .int a1] (xW B m) (some (.int x.1), xW B x.2) := by
  obtain ⟨e, rfl⟩ : ∃ e, d = e + 1 := ⟨d - 1, by omega⟩
  refine zCan_body (nL := 2) (rt := (some .int)) (cd := zc258) (xg258) ⟨Nat.le_of_ble_eq_true rfl, by decide⟩ (Nat.le_refl _) ?_
  exact T258 H hd F rfl rfl h
/-- LentToolsModel.owner -/
def D261_18 (F : Nat) (v1 : Int32) (v2 : Int32) (m : xS) : Option (Int32 × xS) :=
  some ((-1), m)
set_option maxRecDepth 20000 in
theorem T261_18 {B : zHp} (H : yH0 B) {e : Nat} (he : 9 ≤ e + 1) (F : Nat) {v1 : Int32} {v2 : Int32} {lv : List (Nat × Value)} {m : xS} {x : Int32 × xS} (l0 : zld lv 0 = some (.ref 70)) (l1 : zld lv 1 = some (.int v1)) (l2 : zld lv 2 = some (.int v2)) (h : D261_18 F v1 v2 m = some x) : zR none e 7 (some .int) zc261 (18, lv, []) (xW B m) (some (.int x.1), xW B x.2) := by
  unfold D261_18 at h
  refine r_s (fr' := (19, lv, [.int (-1)])) (hp' := xW B m) (q := (.iconst (-1), 1, 0, 0, .null)) rfl (fun _ => rfl) (Nat.le_refl _) ?_
  obtain rfl := Option.some.inj h
  exact q_ri (q := (.ireturn, 1, 0, 0, .null)) rfl (fun _ => rfl) rfl rfl
def D261_101 (F : Nat) (g37 : Int32 → Int32 → Int32 → Int32 → Int32 → xS → Option (Int32 × xS)) (v1 : Int32) (v2 : Int32) (v3 : Int32) (v4 : Int32) (v5 : Int32) (m : xS) : Option (Int32 × xS) :=
  g37 v1 v2 v3 v4 (v5 + Int32.ofInt 1) m
set_option maxRecDepth 20000 in
theorem T261_101 {B : zHp} (H : yH0 B) {e : Nat} (he : 9 ≤ e + 1) (F : Nat) (g37 : Int32 → Int32 → Int32 → Int32 → Int32 → xS → Option (Int32 × xS)) (k37 : ∀ {v1 : Int32} {v2 : Int32} {v3 : Int32} {v4 : Int32} {v5 : Int32} {lv : List (Nat × Value)} {m : xS} {x : Int32 × xS}, zld lv 0 = some (.ref 70) → zld lv 1 = some (.int v1) → zld lv 2 = some (.int v2) → zld lv 3 = some (.int v3) → zld lv 4 = some (.int v4) → zld lv 5 = some (.int v5) → g37 v1 v2 v3 v4 v5 m = some x → zR none e 7 (some .int) zc261 (37, lv, []) (xW B m) (some (.int x.1), xW B x.2)) {v1 : Int32} {v2 : Int32} {v3 : Int32} {v4 : Int32} {v5 : Int32} {lv : List (Nat × Value)} {m : xS} {x : Int32 × xS} (l0 : zld lv 0 = some (.ref 70)) (l1 : zld lv 1 = some (.int v1)) (l2 : zld lv 2 = some (.int v2)) (l3 : zld lv 3 = some (.int v3)) (l4 : zld lv 4 = some (.int v4)) (l5 : zld lv 5 = some (.int v5)) (h : D261_101 F g37 v1 v2 v3 v4 v5 m = some x) : zR none e 7 (some .int) zc261 (101, lv, []) (xW B m) (some (.int x.1), xW B x.2) := by
  unfold D261_101 at h
  refine q_inc (i := 5) (n := 1) (q := (.iinc 5 1, 3, 0, 0, .null)) rfl (fun _ => rfl) l5 (by decide) ?_
  have l0_1 : zld (zs1 lv 5 (.int (v5 + Int32.ofInt 1))) 0 = some (.ref 70) := x_o1 l0 rfl rfl
  have l1_1 : zld (zs1 lv 5 (.int (v5 + Int32.ofInt 1))) 1 = some (.int v1) := x_o1 l1 rfl rfl
  have l2_1 : zld (zs1 lv 5 (.int (v5 + Int32.ofInt 1))) 2 = some (.int v2) := x_o1 l2 rfl rfl
  have l3_1 : zld (zs1 lv 5 (.int (v5 + Int32.ofInt 1))) 3 = some (.int v3) := x_o1 l3 rfl rfl
  have l4_1 : zld (zs1 lv 5 (.int (v5 + Int32.ofInt 1))) 4 = some (.int v4) := x_o1 l4 rfl rfl
  have l5_1 : zld (zs1 lv 5 (.int (v5 + Int32.ofInt 1))) 5 = some (.int (v5 + Int32.ofInt 1)) := zs1_ld _ _ _
  generalize (zs1 lv 5 (.int (v5 + Int32.ofInt 1))) = lv1 at *
  refine r_s (fr' := (37, lv1, [])) (hp' := xW B m) (q := (.goto (-67), 3, 37, 0, .null)) rfl (fun _ => rfl) (Nat.le_refl _) ?_
  exact k37 l0_1 l1_1 l2_1 l3_1 l4_1 l5_1 h
def D261_37 (F : Nat) : Nat → Int32 → Int32 → Int32 → Int32 → Int32 → xS → Option (Int32 × xS)
  | 0, _, _, _, _, _, _ => none
  | f + 1, v1, v2, v3, v4, v5, m =>
    if zcmp .ge v5 (m.1 80 0) = true then
      if zcmp .ne v2 0 = true then
        some (v4, m)
      else
        some (v3, m)
    else
      (D208 F v1 0 m).bind fun q53 =>
        if zcmp .ne v5 q53.1 = true then
          (D259 F q53.2).bind fun q63 =>
            (D231 F v1 v5 q63.2).bind fun q70 =>
              (D256 F (-1) q70.2).bind fun q75 =>
                (D260 F q75.2).bind fun q81 =>
                  if zcmp .gt q75.1 v4 = true then
                    D261_101 F (D261_37 F f) v1 v2 v5 q75.1 v5 q81.2
                  else
                    D261_101 F (D261_37 F f) v1 v2 v3 v4 v5 q81.2
        else
          D261_101 F (D261_37 F f) v1 v2 v3 v4 v5 q53.2
set_option maxRecDepth 20000 in
theorem T261_37 {B : zHp} (H : yH0 B) {e : Nat} (he : 9 ≤ e + 1) (F : Nat) : ∀ (f : Nat) {v1 : Int32} {v2 : Int32} {v3 : Int32} {v4 : Int32} {v5 : Int32} {lv : List (Nat × Value)} {m : xS} {x : Int32 × xS}, zld lv 0 = some (.ref 70) → zld lv 1 = some (.int v1) → zld lv 2 = some (.int v2) → zld lv 3 = some (.int v3) → zld lv 4 = some (.int v4) → zld lv 5 = some (.int v5) → D261_37 F f v1 v2 v3 v4 v5 m = some x → zR none e 7 (some .int) zc261 (37, lv, []) (xW B m) (some (.int x.1), xW B x.2) := by
  intro f
  induction f with
  | zero => intro v1 v2 v3 v4 v5 lv m x l0 l1 l2 l3 l4 l5 h; cases h
  | succ f ih =>
    intro v1 v2 v3 v4 v5 lv m x l0 l1 l2 l3 l4 l5 h
    unfold D261_37 at h
    refine q_li (k := 2) (i := 5) (q := (.iload 5, 2, 0, 0, .null)) rfl (fun _ => rfl) l5 ?_
    refine q_lr (k := 1) (i := 0) (q := (.aload_n 0, 1, 0, 0, .null)) rfl (fun _ => rfl) l0 ?_
    refine r_gr (c := 80) H (pc := 40) rfl (by decide) (by decide) ?_
    refine r_s (fr' := (44, lv, [.int 0, .ref 80, .int v5])) (hp' := xW B m) (q := (.iconst 0, 1, 0, 0, .null)) rfl (fun _ => rfl) (Nat.le_refl _) ?_
    refine q_al (n := 148) (v := (m.1 80 0)) H (pc := 44) rfl (by decide) (by decide) rfl ?_
    refine r_ifc (len := 3) (a := 107) (b := 0) (v0 := .null) (cn := .ge) (off := 62) rfl (fun c => ?_) (fun c => ?_)
    · rw [if_pos c] at h
      refine q_li (k := 1) (i := 2) (q := (.iload_n 2, 1, 0, 0, .null)) rfl (fun _ => rfl) l2 ?_
      refine r_if (len := 3) (a := 115) (b := 0) (v0 := .null) (cn := .ne) (off := 7) rfl (fun c => ?_) (fun c => ?_)
      · rw [if_pos c] at h
        refine q_li (k := 2) (i := 4) (q := (.iload 4, 2, 0, 0, .null)) rfl (fun _ => rfl) l4 ?_
        obtain rfl := Option.some.inj h
        exact q_ri (q := (.ireturn, 1, 0, 0, .null)) rfl (fun _ => rfl) rfl rfl
      · rw [if_neg (by rw [c]; decide)] at h
        refine q_li (k := 1) (i := 3) (q := (.iload_n 3, 1, 0, 0, .null)) rfl (fun _ => rfl) l3 ?_
        refine r_s (fr' := (117, lv, [.int v3])) (hp' := xW B m) (q := (.goto 5, 3, 117, 0, .null)) rfl (fun _ => rfl) (Nat.le_refl _) ?_
        obtain rfl := Option.some.inj h
        exact q_ri (q := (.ireturn, 1, 0, 0, .null)) rfl (fun _ => rfl) rfl rfl
    · rw [if_neg (by rw [c]; decide)] at h
      refine q_li (k := 2) (i := 5) (q := (.iload 5, 2, 0, 0, .null)) rfl (fun _ => rfl) l5 ?_
      refine q_lr (k := 1) (i := 0) (q := (.aload_n 0, 1, 0, 0, .null)) rfl (fun _ => rfl) l0 ?_
      refine q_li (k := 1) (i := 1) (q := (.iload_n 1, 1, 0, 0, .null)) rfl (fun _ => rfl) l1 ?_
      refine r_s (fr' := (53, lv, [.int 0, .int v1, .ref 70, .int v5])) (hp' := xW B m) (q := (.iconst 0, 1, 0, 0, .null)) rfl (fun _ => rfl) (Nat.le_refl _) ?_
      obtain ⟨q53, h53, h⟩ := xbind h
      refine r_call (ix := 70) (as := [.int v1, .int 0]) (rest := [.int v5]) (rv := some (.int q53.1)) (hp' := xW B q53.2) (pc := 53) rfl xr208 rfl rfl rfl (xkd H (by decide)) (Nat.le_of_ble_eq_true rfl) (Z208 H h53 (by omega)) (Nat.le_refl _) ?_
      refine r_ifc (len := 3) (a := 62) (b := 0) (v0 := .null) (cn := .ne) (off := 6) rfl (fun c => ?_) (fun c => ?_)
      · rw [if_pos c] at h
        refine q_lr (k := 1) (i := 0) (q := (.aload_n 0, 1, 0, 0, .null)) rfl (fun _ => rfl) l0 ?_
        obtain ⟨q63, h63, h⟩ := xbind h
        refine r_call (ix := 70) (as := []) (rest := []) (rv := none) (hp' := xW B q63.2) (pc := 63) rfl xr259 rfl rfl rfl (xkd H (by decide)) (Nat.le_of_ble_eq_true rfl) (Z259 H h63 (by omega)) (Nat.le_refl _) ?_
        refine q_lr (k := 1) (i := 0) (q := (.aload_n 0, 1, 0, 0, .null)) rfl (fun _ => rfl) l0 ?_
        refine q_li (k := 1) (i := 1) (q := (.iload_n 1, 1, 0, 0, .null)) rfl (fun _ => rfl) l1 ?_
        refine q_li (k := 2) (i := 5) (q := (.iload 5, 2, 0, 0, .null)) rfl (fun _ => rfl) l5 ?_
        obtain ⟨q70, h70, h⟩ := xbind h
        refine r_call (ix := 70) (as := [.int v1, .int v5]) (rest := []) (rv := none) (hp' := xW B q70.2) (pc := 70) rfl xr231 rfl rfl rfl (xkd H (by decide)) (Nat.le_of_ble_eq_true rfl) (Z231 H h70 (by omega)) (Nat.le_refl _) ?_
        refine q_lr (k := 1) (i := 0) (q := (.aload_n 0, 1, 0, 0, .null)) rfl (fun _ => rfl) l0 ?_
        refine r_s (fr' := (75, lv, [.int (-1), .ref 70])) (hp' := xW B q70.2) (q := (.iconst (-1), 1, 0, 0, .null)) rfl (fun _ => rfl) (Nat.le_refl _) ?_
        obtain ⟨q75, h75, h⟩ := xbind h
        refine r_call (ix := 70) (as := [.int (-1)]) (rest := []) (rv := some (.int q75.1)) (hp' := xW B q75.2) (pc := 75) rfl xr256 rfl rfl rfl (xkd H (by decide)) (Nat.le_of_ble_eq_true rfl) (Z256 H h75 (by omega)) (Nat.le_refl _) ?_
        refine q_si (k := 2) (i := 6) (q := (.istore 6, 2, 0, 0, .null)) rfl (fun _ => rfl) (by decide) ?_
        have l0_1 : zld (zs1 lv 6 (.int q75.1)) 0 = some (.ref 70) := x_o1 l0 rfl rfl
        have l1_1 : zld (zs1 lv 6 (.int q75.1)) 1 = some (.int v1) := x_o1 l1 rfl rfl
        have l2_1 : zld (zs1 lv 6 (.int q75.1)) 2 = some (.int v2) := x_o1 l2 rfl rfl
        have l3_1 : zld (zs1 lv 6 (.int q75.1)) 3 = some (.int v3) := x_o1 l3 rfl rfl
        have l4_1 : zld (zs1 lv 6 (.int q75.1)) 4 = some (.int v4) := x_o1 l4 rfl rfl
        have l5_1 : zld (zs1 lv 6 (.int q75.1)) 5 = some (.int v5) := x_o1 l5 rfl rfl
        have l6_1 : zld (zs1 lv 6 (.int q75.1)) 6 = some (.int q75.1) := zs1_ld _ _ _
        generalize (zs1 lv 6 (.int q75.1)) = lv1 at *
        refine q_lr (k := 1) (i := 0) (q := (.aload_n 0, 1, 0, 0, .null)) rfl (fun _ => rfl) l0_1 ?_
        obtain ⟨q81, h81, h⟩ := xbind h
        refine r_call (ix := 70) (as := []) (rest := []) (rv := none) (hp' := xW B q81.2) (pc := 81) rfl xr260 rfl rfl rfl (xkd H (by decide)) (Nat.le_of_ble_eq_true rfl) (Z260 H h81 (by omega)) (Nat.le_refl _) ?_
        refine q_li (k := 2) (i := 6) (q := (.iload 6, 2, 0, 0, .null)) rfl (fun _ => rfl) l6_1 ?_
        refine q_li (k := 2) (i := 4) (q := (.iload 4, 2, 0, 0, .null)) rfl (fun _ => rfl) l4_1 ?_
        refine r_ifc (len := 3) (a := 94) (b := 0) (v0 := .null) (cn := .gt) (off := 6) rfl (fun c => ?_) (fun c => ?_)
        · rw [if_pos c] at h
          refine q_li (k := 2) (i := 5) (q := (.iload 5, 2, 0, 0, .null)) rfl (fun _ => rfl) l5_1 ?_
          refine q_si (k := 1) (i := 3) (q := (.istore_n 3, 1, 0, 0, .null)) rfl (fun _ => rfl) (by decide) ?_
          have l0_2 : zld (zs1 lv1 3 (.int v5)) 0 = some (.ref 70) := x_o1 l0_1 rfl rfl
          have l1_2 : zld (zs1 lv1 3 (.int v5)) 1 = some (.int v1) := x_o1 l1_1 rfl rfl
          have l2_2 : zld (zs1 lv1 3 (.int v5)) 2 = some (.int v2) := x_o1 l2_1 rfl rfl
          have l3_2 : zld (zs1 lv1 3 (.int v5)) 3 = some (.int v5) := zs1_ld _ _ _
          have l4_2 : zld (zs1 lv1 3 (.int v5)) 4 = some (.int v4) := x_o1 l4_1 rfl rfl
          have l5_2 : zld (zs1 lv1 3 (.int v5)) 5 = some (.int v5) := x_o1 l5_1 rfl rfl
          have l6_2 : zld (zs1 lv1 3 (.int v5)) 6 = some (.int q75.1) := x_o1 l6_1 rfl rfl
          generalize (zs1 lv1 3 (.int v5)) = lv2 at *
          refine q_li (k := 2) (i := 6) (q := (.iload 6, 2, 0, 0, .null)) rfl (fun _ => rfl) l6_2 ?_
          refine q_si (k := 2) (i := 4) (q := (.istore 4, 2, 0, 0, .null)) rfl (fun _ => rfl) (by decide) ?_
          have l0_3 : zld (zs1 lv2 4 (.int q75.1)) 0 = some (.ref 70) := x_o1 l0_2 rfl rfl
          have l1_3 : zld (zs1 lv2 4 (.int q75.1)) 1 = some (.int v1) := x_o1 l1_2 rfl rfl
          have l2_3 : zld (zs1 lv2 4 (.int q75.1)) 2 = some (.int v2) := x_o1 l2_2 rfl rfl
          have l3_3 : zld (zs1 lv2 4 (.int q75.1)) 3 = some (.int v5) := x_o1 l3_2 rfl rfl
          have l4_3 : zld (zs1 lv2 4 (.int q75.1)) 4 = some (.int q75.1) := zs1_ld _ _ _
          have l5_3 : zld (zs1 lv2 4 (.int q75.1)) 5 = some (.int v5) := x_o1 l5_2 rfl rfl
          have l6_3 : zld (zs1 lv2 4 (.int q75.1)) 6 = some (.int q75.1) := x_o1 l6_2 rfl rfl
          generalize (zs1 lv2 4 (.int q75.1)) = lv3 at *
          exact T261_101 H he F _ ih l0_3 l1_3 l2_3 l3_3 l4_3 l5_3 h
        · rw [if_neg (by rw [c]; decide)] at h
          refine r_s (fr' := (101, lv1, [])) (hp' := xW B q81.2) (q := (.goto 10, 3, 101, 0, .null)) rfl (fun _ => rfl) (Nat.le_refl _) ?_
          exact T261_101 H he F _ ih l0_1 l1_1 l2_1 l3_1 l4_1 l5_1 h
      · rw [if_neg (by rw [c]; decide)] at h
        refine r_s (fr' := (101, lv, [])) (hp' := xW B q53.2) (q := (.goto 42, 3, 101, 0, .null)) rfl (fun _ => rfl) (Nat.le_refl _) ?_
        exact T261_101 H he F _ ih l0 l1 l2 l3 l4 l5 h
def D261 (F : Nat) (v1 : Int32) (v2 : Int32) (m : xS) : Option (Int32 × xS) :=
  (D206 F v1 m).bind fun q2 =>
    if zcmp .eq q2.1 0 = true then
      D261_18 F v1 v2 q2.2
    else
      (D158 F (v2 : Int32).toInt64 0 1 q2.2).bind fun q12 =>
        if zcmp .ne q12.1 0 = true then
          (D208 F v1 0 q12.2).bind fun q23 =>
            (D256 F (-1) q23.2).bind fun q29 =>
              D261_37 F F v1 v2 q23.1 q29.1 0 q29.2
        else
          D261_18 F v1 v2 q12.2
set_option maxRecDepth 20000 in
theorem T261 {B : zHp} (H : yH0 B) {e : Nat} (he : 9 ≤ e + 1) (F : Nat) {v1 : Int32} {v2 : Int32} {lv : List (Nat × Value)} {m : xS} {x : Int32 × xS} (l0 : zld lv 0 = some (.ref 70)) (l1 : zld lv 1 = some (.int v1)) (l2 : zld lv 2 = some (.int v2)) (h : D261 F v1 v2 m = some x) : zR none e 7 (some .int) zc261 (0, lv, []) (xW B m) (some (.int x.1), xW B x.2) := by
  unfold D261 at h
  refine q_lr (k := 1) (i := 0) (q := (.aload_n 0, 1, 0, 0, .null)) rfl (fun _ => rfl) l0 ?_
  refine q_li (k := 1) (i := 1) (q := (.iload_n 1, 1, 0, 0, .null)) rfl (fun _ => rfl) l1 ?_
  obtain ⟨q2, h2, h⟩ := xbind h
  refine r_call (ix := 70) (as := [.int v1]) (rest := []) (rv := some (.int q2.1)) (hp' := xW B q2.2) (pc := 2) rfl xr206 rfl rfl rfl (xkd H (by decide)) (Nat.le_of_ble_eq_true rfl) (Z206 H h2 (by omega)) (Nat.le_refl _) ?_
  refine r_if (len := 3) (a := 18) (b := 0) (v0 := .null) (cn := .eq) (off := 13) rfl (fun c => ?_) (fun c => ?_)
  · rw [if_pos c] at h
    exact T261_18 H he F l0 l1 l2 h
  · rw [if_neg (by rw [c]; decide)] at h
    refine q_li (k := 1) (i := 2) (q := (.iload_n 2, 1, 0, 0, .null)) rfl (fun _ => rfl) l2 ?_
    refine r_s (fr' := (10, lv, [.long (v2 : Int32).toInt64])) (hp' := xW B q2.2) (q := (.i2l, 1, 0, 0, .null)) rfl (fun _ => rfl) (Nat.le_refl _) ?_
    refine r_s (fr' := (11, lv, [.long 0, .long (v2 : Int32).toInt64])) (hp' := xW B q2.2) (q := (.lconst 0, 1, 0, 0, .null)) rfl (fun _ => rfl) (Nat.le_refl _) ?_
    refine r_s (fr' := (12, lv, [.long 1, .long 0, .long (v2 : Int32).toInt64])) (hp' := xW B q2.2) (q := (.lconst 1, 1, 0, 0, .null)) rfl (fun _ => rfl) (Nat.le_refl _) ?_
    obtain ⟨q12, h12, h⟩ := xbind h
    refine r_callS (as := [.long (v2 : Int32).toInt64, .long 0, .long 1]) (rest := []) (rv := some (.int q12.1)) (hp' := xW B q12.2) (pc := 12) rfl xr158 rfl rfl rfl (Nat.le_of_ble_eq_true rfl) (Z158 H h12 (by omega)) (Nat.le_refl _) ?_
    refine r_if (len := 3) (a := 20) (b := 0) (v0 := .null) (cn := .ne) (off := 5) rfl (fun c => ?_) (fun c => ?_)
    · rw [if_pos c] at h
      refine q_lr (k := 1) (i := 0) (q := (.aload_n 0, 1, 0, 0, .null)) rfl (fun _ => rfl) l0 ?_
      refine q_li (k := 1) (i := 1) (q := (.iload_n 1, 1, 0, 0, .null)) rfl (fun _ => rfl) l1 ?_
      refine r_s (fr' := (23, lv, [.int 0, .int v1, .ref 70])) (hp' := xW B q12.2) (q := (.iconst 0, 1, 0, 0, .null)) rfl (fun _ => rfl) (Nat.le_refl _) ?_
      obtain ⟨q23, h23, h⟩ := xbind h
      refine r_call (ix := 70) (as := [.int v1, .int 0]) (rest := []) (rv := some (.int q23.1)) (hp' := xW B q23.2) (pc := 23) rfl xr208 rfl rfl rfl (xkd H (by decide)) (Nat.le_of_ble_eq_true rfl) (Z208 H h23 (by omega)) (Nat.le_refl _) ?_
      refine q_si (k := 1) (i := 3) (q := (.istore_n 3, 1, 0, 0, .null)) rfl (fun _ => rfl) (by decide) ?_
      have l0_1 : zld (zs1 lv 3 (.int q23.1)) 0 = some (.ref 70) := x_o1 l0 rfl rfl
      have l1_1 : zld (zs1 lv 3 (.int q23.1)) 1 = some (.int v1) := x_o1 l1 rfl rfl
      have l2_1 : zld (zs1 lv 3 (.int q23.1)) 2 = some (.int v2) := x_o1 l2 rfl rfl
      have l3_1 : zld (zs1 lv 3 (.int q23.1)) 3 = some (.int q23.1) := zs1_ld _ _ _
      generalize (zs1 lv 3 (.int q23.1)) = lv1 at *
      refine q_lr (k := 1) (i := 0) (q := (.aload_n 0, 1, 0, 0, .null)) rfl (fun _ => rfl) l0_1 ?_
      refine r_s (fr' := (29, lv1, [.int (-1), .ref 70])) (hp' := xW B q23.2) (q := (.iconst (-1), 1, 0, 0, .null)) rfl (fun _ => rfl) (Nat.le_refl _) ?_
      obtain ⟨q29, h29, h⟩ := xbind h
      refine r_call (ix := 70) (as := [.int (-1)]) (rest := []) (rv := some (.int q29.1)) (hp' := xW B q29.2) (pc := 29) rfl xr256 rfl rfl rfl (xkd H (by decide)) (Nat.le_of_ble_eq_true rfl) (Z256 H h29 (by omega)) (Nat.le_refl _) ?_
      refine q_si (k := 2) (i := 4) (q := (.istore 4, 2, 0, 0, .null)) rfl (fun _ => rfl) (by decide) ?_
      have l0_2 : zld (zs1 lv1 4 (.int q29.1)) 0 = some (.ref 70) := x_o1 l0_1 rfl rfl
      have l1_2 : zld (zs1 lv1 4 (.int q29.1)) 1 = some (.int v1) := x_o1 l1_1 rfl rfl
      have l2_2 : zld (zs1 lv1 4 (.int q29.1)) 2 = some (.int v2) := x_o1 l2_1 rfl rfl
      have l3_2 : zld (zs1 lv1 4 (.int q29.1)) 3 = some (.int q23.1) := x_o1 l3_1 rfl rfl
      have l4_2 : zld (zs1 lv1 4 (.int q29.1)) 4 = some (.int q29.1) := zs1_ld _ _ _
      generalize (zs1 lv1 4 (.int q29.1)) = lv2 at *
      refine r_s (fr' := (35, lv2, [.int 0])) (hp' := xW B q29.2) (q := (.iconst 0, 1, 0, 0, .null)) rfl (fun _ => rfl) (Nat.le_refl _) ?_
      refine q_si (k := 2) (i := 5) (q := (.istore 5, 2, 0, 0, .null)) rfl (fun _ => rfl) (by decide) ?_
      have l0_3 : zld (zs1 lv2 5 (.int 0)) 0 = some (.ref 70) := x_o1 l0_2 rfl rfl
      have l1_3 : zld (zs1 lv2 5 (.int 0)) 1 = some (.int v1) := x_o1 l1_2 rfl rfl
      have l2_3 : zld (zs1 lv2 5 (.int 0)) 2 = some (.int v2) := x_o1 l2_2 rfl rfl
      have l3_3 : zld (zs1 lv2 5 (.int 0)) 3 = some (.int q23.1) := x_o1 l3_2 rfl rfl
      have l4_3 : zld (zs1 lv2 5 (.int 0)) 4 = some (.int q29.1) := x_o1 l4_2 rfl rfl
      have l5_3 : zld (zs1 lv2 5 (.int 0)) 5 = some (.int 0) := zs1_ld _ _ _
      generalize (zs1 lv2 5 (.int 0)) = lv3 at *
      exact T261_37 H he F F l0_3 l1_3 l2_3 l3_3 l4_3 l5_3 h
    · rw [if_neg (by rw [c]; decide)] at h
      exact T261_18 H he F l0 l1 l2 h
set_option maxRecDepth 20000 in
theorem Z261 {B : zHp} (H : yH0 B) {F : Nat} {a1 : Int32} {a2 : Int32} {m : xS} {x : Int32 × xS} (h : D261 F a1 a2 m = some x) {d : Nat} (hd : 9 ≤ d) : zCan d 261 [.ref 70, .int a1, .int a2] (xW B m) (some (.int x.1), xW B x.2) := by
  obtain ⟨e, rfl⟩ : ∃ e, d = e + 1 := ⟨d - 1, by omega⟩
  refine zCan_body (nL := 7) (rt := (some .int)) (cd := zc261) (xg261) ⟨Nat.le_of_ble_eq_true rfl, by decide⟩ (Nat.le_refl _) ?_
  exact T261 H hd F rfl rfl rfl h
/-- LentToolsModel.breaks -/
def D262_19 (F : Nat) (v1 : Int32) (m : xS) : Option (Int32 × xS) :=
  some ((-1), m)
set_option maxRecDepth 20000 in
theorem T262_19 {B : zHp} (H : yH0 B) {e : Nat} (he : 9 ≤ e + 1) (F : Nat) {v1 : Int32} {lv : List (Nat × Value)} {m : xS} {x : Int32 × xS} (l0 : zld lv 0 = some (.ref 70)) (l1 : zld lv 1 = some (.int v1)) (h : D262_19 F v1 m = some x) : zR none e 9 (some .int) zc262 (19, lv, []) (xW B m) (some (.int x.1), xW B x.2) := by
  unfold D262_19 at h
  refine r_s (fr' := (20, lv, [.int (-1)])) (hp' := xW B m) (q := (.iconst (-1), 1, 0, 0, .null)) rfl (fun _ => rfl) (Nat.le_refl _) ?_
  obtain rfl := Option.some.inj h
  exact q_ri (q := (.ireturn, 1, 0, 0, .null)) rfl (fun _ => rfl) rfl rfl
def D262_141 (F : Nat) (g40 : Int32 → Int32 → Int32 → Int32 → Int32 → Int32 → xS → Option (Int32 × xS)) (g57 : Int32 → Int32 → Int32 → Int32 → Int32 → Int32 → Int32 → xS → Option (Int32 × xS)) (v1 : Int32) (v2 : Int32) (v3 : Int32) (v4 : Int32) (v5 : Int32) (v6 : Int32) (v7 : Int32) (m : xS) : Option (Int32 × xS) :=
  g57 v1 v2 v3 v4 v5 v6 (v7 + Int32.ofInt 1) m
set_option maxRecDepth 20000 in
theorem T262_141 {B : zHp} (H : yH0 B) {e : Nat} (he : 9 ≤ e + 1) (F : Nat) (g40 : Int32 → Int32 → Int32 → Int32 → Int32 → Int32 → xS → Option (Int32 × xS)) (g57 : Int32 → Int32 → Int32 → Int32 → Int32 → Int32 → Int32 → xS → Option (Int32 × xS)) (k40 : ∀ {v1 : Int32} {v2 : Int32} {v3 : Int32} {v4 : Int32} {v5 : Int32} {v6 : Int32} {lv : List (Nat × Value)} {m : xS} {x : Int32 × xS}, zld lv 0 = some (.ref 70) → zld lv 1 = some (.int v1) → zld lv 2 = some (.int v2) → zld lv 3 = some (.int v3) → zld lv 4 = some (.int v4) → zld lv 5 = some (.int v5) → zld lv 6 = some (.int v6) → g40 v1 v2 v3 v4 v5 v6 m = some x → zR none e 9 (some .int) zc262 (40, lv, []) (xW B m) (some (.int x.1), xW B x.2)) (k57 : ∀ {v1 : Int32} {v2 : Int32} {v3 : Int32} {v4 : Int32} {v5 : Int32} {v6 : Int32} {v7 : Int32} {lv : List (Nat × Value)} {m : xS} {x : Int32 × xS}, zld lv 0 = some (.ref 70) → zld lv 1 = some (.int v1) → zld lv 2 = some (.int v2) → zld lv 3 = some (.int v3) → zld lv 4 = some (.int v4) → zld lv 5 = some (.int v5) → zld lv 6 = some (.int v6) → zld lv 7 = some (.int v7) → g57 v1 v2 v3 v4 v5 v6 v7 m = some x → zR none e 9 (some .int) zc262 (57, lv, []) (xW B m) (some (.int x.1), xW B x.2)) {v1 : Int32} {v2 : Int32} {v3 : Int32} {v4 : Int32} {v5 : Int32} {v6 : Int32} {v7 : Int32} {lv : List (Nat × Value)} {m : xS} {x : Int32 × xS} (l0 : zld lv 0 = some (.ref 70)) (l1 : zld lv 1 = some (.int v1)) (l2 : zld lv 2 = some (.int v2)) (l3 : zld lv 3 = some (.int v3)) (l4 : zld lv 4 = some (.int v4)) (l5 : zld lv 5 = some (.int v5)) (l6 : zld lv 6 = some (.int v6)) (l7 : zld lv 7 = some (.int v7)) (h : D262_141 F g40 g57 v1 v2 v3 v4 v5 v6 v7 m = some x) : zR none e 9 (some .int) zc262 (141, lv, []) (xW B m) (some (.int x.1), xW B x.2) := by
  unfold D262_141 at h
  refine q_inc (i := 7) (n := 1) (q := (.iinc 7 1, 3, 0, 0, .null)) rfl (fun _ => rfl) l7 (by decide) ?_
  have l0_1 : zld (zs1 lv 7 (.int (v7 + Int32.ofInt 1))) 0 = some (.ref 70) := x_o1 l0 rfl rfl
  have l1_1 : zld (zs1 lv 7 (.int (v7 + Int32.ofInt 1))) 1 = some (.int v1) := x_o1 l1 rfl rfl
  have l2_1 : zld (zs1 lv 7 (.int (v7 + Int32.ofInt 1))) 2 = some (.int v2) := x_o1 l2 rfl rfl
  have l3_1 : zld (zs1 lv 7 (.int (v7 + Int32.ofInt 1))) 3 = some (.int v3) := x_o1 l3 rfl rfl
  have l4_1 : zld (zs1 lv 7 (.int (v7 + Int32.ofInt 1))) 4 = some (.int v4) := x_o1 l4 rfl rfl
  have l5_1 : zld (zs1 lv 7 (.int (v7 + Int32.ofInt 1))) 5 = some (.int v5) := x_o1 l5 rfl rfl
  have l6_1 : zld (zs1 lv 7 (.int (v7 + Int32.ofInt 1))) 6 = some (.int v6) := x_o1 l6 rfl rfl
  have l7_1 : zld (zs1 lv 7 (.int (v7 + Int32.ofInt 1))) 7 = some (.int (v7 + Int32.ofInt 1)) := zs1_ld _ _ _
  generalize (zs1 lv 7 (.int (v7 + Int32.ofInt 1))) = lv1 at *
  refine r_s (fr' := (57, lv1, [])) (hp' := xW B m) (q := (.goto (-87), 3, 57, 0, .null)) rfl (fun _ => rfl) (Nat.le_refl _) ?_
  exact k57 l0_1 l1_1 l2_1 l3_1 l4_1 l5_1 l6_1 l7_1 h
def D262_130 (F : Nat) (g40 : Int32 → Int32 → Int32 → Int32 → Int32 → Int32 → xS → Option (Int32 × xS)) (g57 : Int32 → Int32 → Int32 → Int32 → Int32 → Int32 → Int32 → xS → Option (Int32 × xS)) (v1 : Int32) (v2 : Int32) (v3 : Int32) (v4 : Int32) (v5 : Int32) (v6 : Int32) (v7 : Int32) (v8 : Int32) (m : xS) : Option (Int32 × xS) :=
  D262_141 F g40 g57 v1 v2 v6 v7 v8 v6 v7 m
set_option maxRecDepth 20000 in
theorem T262_130 {B : zHp} (H : yH0 B) {e : Nat} (he : 9 ≤ e + 1) (F : Nat) (g40 : Int32 → Int32 → Int32 → Int32 → Int32 → Int32 → xS → Option (Int32 × xS)) (g57 : Int32 → Int32 → Int32 → Int32 → Int32 → Int32 → Int32 → xS → Option (Int32 × xS)) (k40 : ∀ {v1 : Int32} {v2 : Int32} {v3 : Int32} {v4 : Int32} {v5 : Int32} {v6 : Int32} {lv : List (Nat × Value)} {m : xS} {x : Int32 × xS}, zld lv 0 = some (.ref 70) → zld lv 1 = some (.int v1) → zld lv 2 = some (.int v2) → zld lv 3 = some (.int v3) → zld lv 4 = some (.int v4) → zld lv 5 = some (.int v5) → zld lv 6 = some (.int v6) → g40 v1 v2 v3 v4 v5 v6 m = some x → zR none e 9 (some .int) zc262 (40, lv, []) (xW B m) (some (.int x.1), xW B x.2)) (k57 : ∀ {v1 : Int32} {v2 : Int32} {v3 : Int32} {v4 : Int32} {v5 : Int32} {v6 : Int32} {v7 : Int32} {lv : List (Nat × Value)} {m : xS} {x : Int32 × xS}, zld lv 0 = some (.ref 70) → zld lv 1 = some (.int v1) → zld lv 2 = some (.int v2) → zld lv 3 = some (.int v3) → zld lv 4 = some (.int v4) → zld lv 5 = some (.int v5) → zld lv 6 = some (.int v6) → zld lv 7 = some (.int v7) → g57 v1 v2 v3 v4 v5 v6 v7 m = some x → zR none e 9 (some .int) zc262 (57, lv, []) (xW B m) (some (.int x.1), xW B x.2)) {v1 : Int32} {v2 : Int32} {v3 : Int32} {v4 : Int32} {v5 : Int32} {v6 : Int32} {v7 : Int32} {v8 : Int32} {lv : List (Nat × Value)} {m : xS} {x : Int32 × xS} (l0 : zld lv 0 = some (.ref 70)) (l1 : zld lv 1 = some (.int v1)) (l2 : zld lv 2 = some (.int v2)) (l3 : zld lv 3 = some (.int v3)) (l4 : zld lv 4 = some (.int v4)) (l5 : zld lv 5 = some (.int v5)) (l6 : zld lv 6 = some (.int v6)) (l7 : zld lv 7 = some (.int v7)) (l8 : zld lv 8 = some (.int v8)) (h : D262_130 F g40 g57 v1 v2 v3 v4 v5 v6 v7 v8 m = some x) : zR none e 9 (some .int) zc262 (130, lv, []) (xW B m) (some (.int x.1), xW B x.2) := by
  unfold D262_130 at h
  refine q_li (k := 2) (i := 6) (q := (.iload 6, 2, 0, 0, .null)) rfl (fun _ => rfl) l6 ?_
  refine q_si (k := 1) (i := 3) (q := (.istore_n 3, 1, 0, 0, .null)) rfl (fun _ => rfl) (by decide) ?_
  have l0_1 : zld (zs1 lv 3 (.int v6)) 0 = some (.ref 70) := x_o1 l0 rfl rfl
  have l1_1 : zld (zs1 lv 3 (.int v6)) 1 = some (.int v1) := x_o1 l1 rfl rfl
  have l2_1 : zld (zs1 lv 3 (.int v6)) 2 = some (.int v2) := x_o1 l2 rfl rfl
  have l3_1 : zld (zs1 lv 3 (.int v6)) 3 = some (.int v6) := zs1_ld _ _ _
  have l4_1 : zld (zs1 lv 3 (.int v6)) 4 = some (.int v4) := x_o1 l4 rfl rfl
  have l5_1 : zld (zs1 lv 3 (.int v6)) 5 = some (.int v5) := x_o1 l5 rfl rfl
  have l6_1 : zld (zs1 lv 3 (.int v6)) 6 = some (.int v6) := x_o1 l6 rfl rfl
  have l7_1 : zld (zs1 lv 3 (.int v6)) 7 = some (.int v7) := x_o1 l7 rfl rfl
  have l8_1 : zld (zs1 lv 3 (.int v6)) 8 = some (.int v8) := x_o1 l8 rfl rfl
  generalize (zs1 lv 3 (.int v6)) = lv1 at *
  refine q_li (k := 2) (i := 7) (q := (.iload 7, 2, 0, 0, .null)) rfl (fun _ => rfl) l7_1 ?_
  refine q_si (k := 2) (i := 4) (q := (.istore 4, 2, 0, 0, .null)) rfl (fun _ => rfl) (by decide) ?_
  have l0_2 : zld (zs1 lv1 4 (.int v7)) 0 = some (.ref 70) := x_o1 l0_1 rfl rfl
  have l1_2 : zld (zs1 lv1 4 (.int v7)) 1 = some (.int v1) := x_o1 l1_1 rfl rfl
  have l2_2 : zld (zs1 lv1 4 (.int v7)) 2 = some (.int v2) := x_o1 l2_1 rfl rfl
  have l3_2 : zld (zs1 lv1 4 (.int v7)) 3 = some (.int v6) := x_o1 l3_1 rfl rfl
  have l4_2 : zld (zs1 lv1 4 (.int v7)) 4 = some (.int v7) := zs1_ld _ _ _
  have l5_2 : zld (zs1 lv1 4 (.int v7)) 5 = some (.int v5) := x_o1 l5_1 rfl rfl
  have l6_2 : zld (zs1 lv1 4 (.int v7)) 6 = some (.int v6) := x_o1 l6_1 rfl rfl
  have l7_2 : zld (zs1 lv1 4 (.int v7)) 7 = some (.int v7) := x_o1 l7_1 rfl rfl
  have l8_2 : zld (zs1 lv1 4 (.int v7)) 8 = some (.int v8) := x_o1 l8_1 rfl rfl
  generalize (zs1 lv1 4 (.int v7)) = lv2 at *
  refine q_li (k := 2) (i := 8) (q := (.iload 8, 2, 0, 0, .null)) rfl (fun _ => rfl) l8_2 ?_
  refine q_si (k := 2) (i := 5) (q := (.istore 5, 2, 0, 0, .null)) rfl (fun _ => rfl) (by decide) ?_
  have l0_3 : zld (zs1 lv2 5 (.int v8)) 0 = some (.ref 70) := x_o1 l0_2 rfl rfl
  have l1_3 : zld (zs1 lv2 5 (.int v8)) 1 = some (.int v1) := x_o1 l1_2 rfl rfl
  have l2_3 : zld (zs1 lv2 5 (.int v8)) 2 = some (.int v2) := x_o1 l2_2 rfl rfl
  have l3_3 : zld (zs1 lv2 5 (.int v8)) 3 = some (.int v6) := x_o1 l3_2 rfl rfl
  have l4_3 : zld (zs1 lv2 5 (.int v8)) 4 = some (.int v7) := x_o1 l4_2 rfl rfl
  have l5_3 : zld (zs1 lv2 5 (.int v8)) 5 = some (.int v8) := zs1_ld _ _ _
  have l6_3 : zld (zs1 lv2 5 (.int v8)) 6 = some (.int v6) := x_o1 l6_2 rfl rfl
  have l7_3 : zld (zs1 lv2 5 (.int v8)) 7 = some (.int v7) := x_o1 l7_2 rfl rfl
  have l8_3 : zld (zs1 lv2 5 (.int v8)) 8 = some (.int v8) := x_o1 l8_2 rfl rfl
  generalize (zs1 lv2 5 (.int v8)) = lv3 at *
  exact T262_141 H he F _ _ k40 k57 l0_3 l1_3 l2_3 l3_3 l4_3 l5_3 l6_3 l7_3 h
def D262_93 (F : Nat) (g40 : Int32 → Int32 → Int32 → Int32 → Int32 → Int32 → xS → Option (Int32 × xS)) (g57 : Int32 → Int32 → Int32 → Int32 → Int32 → Int32 → Int32 → xS → Option (Int32 × xS)) (v1 : Int32) (v2 : Int32) (v3 : Int32) (v4 : Int32) (v5 : Int32) (v6 : Int32) (v7 : Int32) (m : xS) : Option (Int32 × xS) :=
  (D259 F m).bind fun q94 =>
    (D229 F v6 v7 q94.2).bind fun q102 =>
      (D256 F (-1) q102.2).bind fun q107 =>
        (D260 F q107.2).bind fun q113 =>
          if zcmp .lt v3 0 = true then
            D262_130 F g40 g57 v1 v2 v3 v4 v5 v6 v7 q107.1 q113.2
          else
            if zcmp .lt q107.1 v5 = true then
              D262_130 F g40 g57 v1 v2 v3 v4 v5 v6 v7 q107.1 q113.2
            else
              D262_141 F g40 g57 v1 v2 v3 v4 v5 v6 v7 q113.2
set_option maxRecDepth 20000 in
theorem T262_93 {B : zHp} (H : yH0 B) {e : Nat} (he : 9 ≤ e + 1) (F : Nat) (g40 : Int32 → Int32 → Int32 → Int32 → Int32 → Int32 → xS → Option (Int32 × xS)) (g57 : Int32 → Int32 → Int32 → Int32 → Int32 → Int32 → Int32 → xS → Option (Int32 × xS)) (k40 : ∀ {v1 : Int32} {v2 : Int32} {v3 : Int32} {v4 : Int32} {v5 : Int32} {v6 : Int32} {lv : List (Nat × Value)} {m : xS} {x : Int32 × xS}, zld lv 0 = some (.ref 70) → zld lv 1 = some (.int v1) → zld lv 2 = some (.int v2) → zld lv 3 = some (.int v3) → zld lv 4 = some (.int v4) → zld lv 5 = some (.int v5) → zld lv 6 = some (.int v6) → g40 v1 v2 v3 v4 v5 v6 m = some x → zR none e 9 (some .int) zc262 (40, lv, []) (xW B m) (some (.int x.1), xW B x.2)) (k57 : ∀ {v1 : Int32} {v2 : Int32} {v3 : Int32} {v4 : Int32} {v5 : Int32} {v6 : Int32} {v7 : Int32} {lv : List (Nat × Value)} {m : xS} {x : Int32 × xS}, zld lv 0 = some (.ref 70) → zld lv 1 = some (.int v1) → zld lv 2 = some (.int v2) → zld lv 3 = some (.int v3) → zld lv 4 = some (.int v4) → zld lv 5 = some (.int v5) → zld lv 6 = some (.int v6) → zld lv 7 = some (.int v7) → g57 v1 v2 v3 v4 v5 v6 v7 m = some x → zR none e 9 (some .int) zc262 (57, lv, []) (xW B m) (some (.int x.1), xW B x.2)) {v1 : Int32} {v2 : Int32} {v3 : Int32} {v4 : Int32} {v5 : Int32} {v6 : Int32} {v7 : Int32} {lv : List (Nat × Value)} {m : xS} {x : Int32 × xS} (l0 : zld lv 0 = some (.ref 70)) (l1 : zld lv 1 = some (.int v1)) (l2 : zld lv 2 = some (.int v2)) (l3 : zld lv 3 = some (.int v3)) (l4 : zld lv 4 = some (.int v4)) (l5 : zld lv 5 = some (.int v5)) (l6 : zld lv 6 = some (.int v6)) (l7 : zld lv 7 = some (.int v7)) (h : D262_93 F g40 g57 v1 v2 v3 v4 v5 v6 v7 m = some x) : zR none e 9 (some .int) zc262 (93, lv, []) (xW B m) (some (.int x.1), xW B x.2) := by
  unfold D262_93 at h
  refine q_lr (k := 1) (i := 0) (q := (.aload_n 0, 1, 0, 0, .null)) rfl (fun _ => rfl) l0 ?_
  obtain ⟨q94, h94, h⟩ := xbind h
  refine r_call (ix := 70) (as := []) (rest := []) (rv := none) (hp' := xW B q94.2) (pc := 94) rfl xr259 rfl rfl rfl (xkd H (by decide)) (Nat.le_of_ble_eq_true rfl) (Z259 H h94 (by omega)) (Nat.le_refl _) ?_
  refine q_lr (k := 1) (i := 0) (q := (.aload_n 0, 1, 0, 0, .null)) rfl (fun _ => rfl) l0 ?_
  refine q_li (k := 2) (i := 6) (q := (.iload 6, 2, 0, 0, .null)) rfl (fun _ => rfl) l6 ?_
  refine q_li (k := 2) (i := 7) (q := (.iload 7, 2, 0, 0, .null)) rfl (fun _ => rfl) l7 ?_
  obtain ⟨q102, h102, h⟩ := xbind h
  refine r_call (ix := 70) (as := [.int v6, .int v7]) (rest := []) (rv := none) (hp' := xW B q102.2) (pc := 102) rfl xr229 rfl rfl rfl (xkd H (by decide)) (Nat.le_of_ble_eq_true rfl) (Z229 H h102 (by omega)) (Nat.le_refl _) ?_
  refine q_lr (k := 1) (i := 0) (q := (.aload_n 0, 1, 0, 0, .null)) rfl (fun _ => rfl) l0 ?_
  refine r_s (fr' := (107, lv, [.int (-1), .ref 70])) (hp' := xW B q102.2) (q := (.iconst (-1), 1, 0, 0, .null)) rfl (fun _ => rfl) (Nat.le_refl _) ?_
  obtain ⟨q107, h107, h⟩ := xbind h
  refine r_call (ix := 70) (as := [.int (-1)]) (rest := []) (rv := some (.int q107.1)) (hp' := xW B q107.2) (pc := 107) rfl xr256 rfl rfl rfl (xkd H (by decide)) (Nat.le_of_ble_eq_true rfl) (Z256 H h107 (by omega)) (Nat.le_refl _) ?_
  refine q_si (k := 2) (i := 8) (q := (.istore 8, 2, 0, 0, .null)) rfl (fun _ => rfl) (by decide) ?_
  have l0_1 : zld (zs1 lv 8 (.int q107.1)) 0 = some (.ref 70) := x_o1 l0 rfl rfl
  have l1_1 : zld (zs1 lv 8 (.int q107.1)) 1 = some (.int v1) := x_o1 l1 rfl rfl
  have l2_1 : zld (zs1 lv 8 (.int q107.1)) 2 = some (.int v2) := x_o1 l2 rfl rfl
  have l3_1 : zld (zs1 lv 8 (.int q107.1)) 3 = some (.int v3) := x_o1 l3 rfl rfl
  have l4_1 : zld (zs1 lv 8 (.int q107.1)) 4 = some (.int v4) := x_o1 l4 rfl rfl
  have l5_1 : zld (zs1 lv 8 (.int q107.1)) 5 = some (.int v5) := x_o1 l5 rfl rfl
  have l6_1 : zld (zs1 lv 8 (.int q107.1)) 6 = some (.int v6) := x_o1 l6 rfl rfl
  have l7_1 : zld (zs1 lv 8 (.int q107.1)) 7 = some (.int v7) := x_o1 l7 rfl rfl
  have l8_1 : zld (zs1 lv 8 (.int q107.1)) 8 = some (.int q107.1) := zs1_ld _ _ _
  generalize (zs1 lv 8 (.int q107.1)) = lv1 at *
  refine q_lr (k := 1) (i := 0) (q := (.aload_n 0, 1, 0, 0, .null)) rfl (fun _ => rfl) l0_1 ?_
  obtain ⟨q113, h113, h⟩ := xbind h
  refine r_call (ix := 70) (as := []) (rest := []) (rv := none) (hp' := xW B q113.2) (pc := 113) rfl xr260 rfl rfl rfl (xkd H (by decide)) (Nat.le_of_ble_eq_true rfl) (Z260 H h113 (by omega)) (Nat.le_refl _) ?_
  refine q_li (k := 1) (i := 3) (q := (.iload_n 3, 1, 0, 0, .null)) rfl (fun _ => rfl) l3_1 ?_
  refine r_if (len := 3) (a := 130) (b := 0) (v0 := .null) (cn := .lt) (off := 13) rfl (fun c => ?_) (fun c => ?_)
  · rw [if_pos c] at h
    exact T262_130 H he F _ _ k40 k57 l0_1 l1_1 l2_1 l3_1 l4_1 l5_1 l6_1 l7_1 l8_1 h
  · rw [if_neg (by rw [c]; decide)] at h
    refine q_li (k := 2) (i := 8) (q := (.iload 8, 2, 0, 0, .null)) rfl (fun _ => rfl) l8_1 ?_
    refine q_li (k := 2) (i := 5) (q := (.iload 5, 2, 0, 0, .null)) rfl (fun _ => rfl) l5_1 ?_
    refine r_ifc (len := 3) (a := 130) (b := 0) (v0 := .null) (cn := .lt) (off := 6) rfl (fun c => ?_) (fun c => ?_)
    · rw [if_pos c] at h
      exact T262_130 H he F _ _ k40 k57 l0_1 l1_1 l2_1 l3_1 l4_1 l5_1 l6_1 l7_1 l8_1 h
    · rw [if_neg (by rw [c]; decide)] at h
      refine r_s (fr' := (141, lv1, [])) (hp' := xW B q113.2) (q := (.goto 14, 3, 141, 0, .null)) rfl (fun _ => rfl) (Nat.le_refl _) ?_
      exact T262_141 H he F _ _ k40 k57 l0_1 l1_1 l2_1 l3_1 l4_1 l5_1 l6_1 l7_1 h
def D262_57 (F : Nat) (g40 : Int32 → Int32 → Int32 → Int32 → Int32 → Int32 → xS → Option (Int32 × xS)) : Nat → Int32 → Int32 → Int32 → Int32 → Int32 → Int32 → Int32 → xS → Option (Int32 × xS)
  | 0, _, _, _, _, _, _, _, _ => none
  | f + 1, v1, v2, v3, v4, v5, v6, v7, m =>
    if zcmp .ge v7 (m.1 80 0) = true then
      g40 v1 v2 v3 v4 v5 (v6 + Int32.ofInt 1) m
    else
      (D210 F v6 v7 m).bind fun q73 =>
        if zcmp .ne q73.1 0 = true then
          D262_93 F g40 (D262_57 F g40 f) v1 v2 v3 v4 v5 v6 v7 q73.2
        else
          (D210 F v7 v6 q73.2).bind fun q84 =>
            if zcmp .ne q84.1 0 = true then
              D262_93 F g40 (D262_57 F g40 f) v1 v2 v3 v4 v5 v6 v7 q84.2
            else
              D262_141 F g40 (D262_57 F g40 f) v1 v2 v3 v4 v5 v6 v7 q84.2
set_option maxRecDepth 20000 in
theorem T262_57 {B : zHp} (H : yH0 B) {e : Nat} (he : 9 ≤ e + 1) (F : Nat) (g40 : Int32 → Int32 → Int32 → Int32 → Int32 → Int32 → xS → Option (Int32 × xS)) (k40 : ∀ {v1 : Int32} {v2 : Int32} {v3 : Int32} {v4 : Int32} {v5 : Int32} {v6 : Int32} {lv : List (Nat × Value)} {m : xS} {x : Int32 × xS}, zld lv 0 = some (.ref 70) → zld lv 1 = some (.int v1) → zld lv 2 = some (.int v2) → zld lv 3 = some (.int v3) → zld lv 4 = some (.int v4) → zld lv 5 = some (.int v5) → zld lv 6 = some (.int v6) → g40 v1 v2 v3 v4 v5 v6 m = some x → zR none e 9 (some .int) zc262 (40, lv, []) (xW B m) (some (.int x.1), xW B x.2)) : ∀ (f : Nat) {v1 : Int32} {v2 : Int32} {v3 : Int32} {v4 : Int32} {v5 : Int32} {v6 : Int32} {v7 : Int32} {lv : List (Nat × Value)} {m : xS} {x : Int32 × xS}, zld lv 0 = some (.ref 70) → zld lv 1 = some (.int v1) → zld lv 2 = some (.int v2) → zld lv 3 = some (.int v3) → zld lv 4 = some (.int v4) → zld lv 5 = some (.int v5) → zld lv 6 = some (.int v6) → zld lv 7 = some (.int v7) → D262_57 F g40 f v1 v2 v3 v4 v5 v6 v7 m = some x → zR none e 9 (some .int) zc262 (57, lv, []) (xW B m) (some (.int x.1), xW B x.2) := by
  intro f
  induction f with
  | zero => intro v1 v2 v3 v4 v5 v6 v7 lv m x l0 l1 l2 l3 l4 l5 l6 l7 h; cases h
  | succ f ih =>
    intro v1 v2 v3 v4 v5 v6 v7 lv m x l0 l1 l2 l3 l4 l5 l6 l7 h
    unfold D262_57 at h
    refine q_li (k := 2) (i := 7) (q := (.iload 7, 2, 0, 0, .null)) rfl (fun _ => rfl) l7 ?_
    refine q_lr (k := 1) (i := 0) (q := (.aload_n 0, 1, 0, 0, .null)) rfl (fun _ => rfl) l0 ?_
    refine r_gr (c := 80) H (pc := 60) rfl (by decide) (by decide) ?_
    refine r_s (fr' := (64, lv, [.int 0, .ref 80, .int v7])) (hp' := xW B m) (q := (.iconst 0, 1, 0, 0, .null)) rfl (fun _ => rfl) (Nat.le_refl _) ?_
    refine q_al (n := 148) (v := (m.1 80 0)) H (pc := 64) rfl (by decide) (by decide) rfl ?_
    refine r_ifc (len := 3) (a := 147) (b := 0) (v0 := .null) (cn := .ge) (off := 82) rfl (fun c => ?_) (fun c => ?_)
    · rw [if_pos c] at h
      refine q_inc (i := 6) (n := 1) (q := (.iinc 6 1, 3, 0, 0, .null)) rfl (fun _ => rfl) l6 (by decide) ?_
      have l0_1 : zld (zs1 lv 6 (.int (v6 + Int32.ofInt 1))) 0 = some (.ref 70) := x_o1 l0 rfl rfl
      have l1_1 : zld (zs1 lv 6 (.int (v6 + Int32.ofInt 1))) 1 = some (.int v1) := x_o1 l1 rfl rfl
      have l2_1 : zld (zs1 lv 6 (.int (v6 + Int32.ofInt 1))) 2 = some (.int v2) := x_o1 l2 rfl rfl
      have l3_1 : zld (zs1 lv 6 (.int (v6 + Int32.ofInt 1))) 3 = some (.int v3) := x_o1 l3 rfl rfl
      have l4_1 : zld (zs1 lv 6 (.int (v6 + Int32.ofInt 1))) 4 = some (.int v4) := x_o1 l4 rfl rfl
      have l5_1 : zld (zs1 lv 6 (.int (v6 + Int32.ofInt 1))) 5 = some (.int v5) := x_o1 l5 rfl rfl
      have l6_1 : zld (zs1 lv 6 (.int (v6 + Int32.ofInt 1))) 6 = some (.int (v6 + Int32.ofInt 1)) := zs1_ld _ _ _
      have l7_1 : zld (zs1 lv 6 (.int (v6 + Int32.ofInt 1))) 7 = some (.int v7) := x_o1 l7 rfl rfl
      generalize (zs1 lv 6 (.int (v6 + Int32.ofInt 1))) = lv1 at *
      refine r_s (fr' := (40, lv1, [])) (hp' := xW B m) (q := (.goto (-110), 3, 40, 0, .null)) rfl (fun _ => rfl) (Nat.le_refl _) ?_
      exact k40 l0_1 l1_1 l2_1 l3_1 l4_1 l5_1 l6_1 h
    · rw [if_neg (by rw [c]; decide)] at h
      refine q_lr (k := 1) (i := 0) (q := (.aload_n 0, 1, 0, 0, .null)) rfl (fun _ => rfl) l0 ?_
      refine q_li (k := 2) (i := 6) (q := (.iload 6, 2, 0, 0, .null)) rfl (fun _ => rfl) l6 ?_
      refine q_li (k := 2) (i := 7) (q := (.iload 7, 2, 0, 0, .null)) rfl (fun _ => rfl) l7 ?_
      obtain ⟨q73, h73, h⟩ := xbind h
      refine r_call (ix := 70) (as := [.int v6, .int v7]) (rest := []) (rv := some (.int q73.1)) (hp' := xW B q73.2) (pc := 73) rfl xr210 rfl rfl rfl (xkd H (by decide)) (Nat.le_of_ble_eq_true rfl) (Z210 H h73 (by omega)) (Nat.le_refl _) ?_
      refine r_if (len := 3) (a := 93) (b := 0) (v0 := .null) (cn := .ne) (off := 17) rfl (fun c => ?_) (fun c => ?_)
      · rw [if_pos c] at h
        exact T262_93 H he F _ _ k40 ih l0 l1 l2 l3 l4 l5 l6 l7 h
      · rw [if_neg (by rw [c]; decide)] at h
        refine q_lr (k := 1) (i := 0) (q := (.aload_n 0, 1, 0, 0, .null)) rfl (fun _ => rfl) l0 ?_
        refine q_li (k := 2) (i := 7) (q := (.iload 7, 2, 0, 0, .null)) rfl (fun _ => rfl) l7 ?_
        refine q_li (k := 2) (i := 6) (q := (.iload 6, 2, 0, 0, .null)) rfl (fun _ => rfl) l6 ?_
        obtain ⟨q84, h84, h⟩ := xbind h
        refine r_call (ix := 70) (as := [.int v7, .int v6]) (rest := []) (rv := some (.int q84.1)) (hp' := xW B q84.2) (pc := 84) rfl xr210 rfl rfl rfl (xkd H (by decide)) (Nat.le_of_ble_eq_true rfl) (Z210 H h84 (by omega)) (Nat.le_refl _) ?_
        refine r_if (len := 3) (a := 93) (b := 0) (v0 := .null) (cn := .ne) (off := 6) rfl (fun c => ?_) (fun c => ?_)
        · rw [if_pos c] at h
          exact T262_93 H he F _ _ k40 ih l0 l1 l2 l3 l4 l5 l6 l7 h
        · rw [if_neg (by rw [c]; decide)] at h
          refine r_s (fr' := (141, lv, [])) (hp' := xW B q84.2) (q := (.goto 51, 3, 141, 0, .null)) rfl (fun _ => rfl) (Nat.le_refl _) ?_
          exact T262_141 H he F _ _ k40 ih l0 l1 l2 l3 l4 l5 l6 l7 h
def D262_40 (F : Nat) : Nat → Int32 → Int32 → Int32 → Int32 → Int32 → Int32 → xS → Option (Int32 × xS)
  | 0, _, _, _, _, _, _, _ => none
  | f + 1, v1, v2, v3, v4, v5, v6, m =>
    if zcmp .ge v6 (m.1 80 0) = true then
      if zcmp .ge v3 0 = true then
        if zcmp .ne v1 0 = true then
          if zcmp .ne v1 1 = true then
            some ((v2 - v5), m)
          else
            some (v4, m)
        else
          some (v3, m)
      else
        some ((-2), m)
    else
      D262_57 F (D262_40 F f) F v1 v2 v3 v4 v5 v6 (v6 + 1) m
set_option maxRecDepth 20000 in
theorem T262_40 {B : zHp} (H : yH0 B) {e : Nat} (he : 9 ≤ e + 1) (F : Nat) : ∀ (f : Nat) {v1 : Int32} {v2 : Int32} {v3 : Int32} {v4 : Int32} {v5 : Int32} {v6 : Int32} {lv : List (Nat × Value)} {m : xS} {x : Int32 × xS}, zld lv 0 = some (.ref 70) → zld lv 1 = some (.int v1) → zld lv 2 = some (.int v2) → zld lv 3 = some (.int v3) → zld lv 4 = some (.int v4) → zld lv 5 = some (.int v5) → zld lv 6 = some (.int v6) → D262_40 F f v1 v2 v3 v4 v5 v6 m = some x → zR none e 9 (some .int) zc262 (40, lv, []) (xW B m) (some (.int x.1), xW B x.2) := by
  intro f
  induction f with
  | zero => intro v1 v2 v3 v4 v5 v6 lv m x l0 l1 l2 l3 l4 l5 l6 h; cases h
  | succ f ih =>
    intro v1 v2 v3 v4 v5 v6 lv m x l0 l1 l2 l3 l4 l5 l6 h
    unfold D262_40 at h
    refine q_li (k := 2) (i := 6) (q := (.iload 6, 2, 0, 0, .null)) rfl (fun _ => rfl) l6 ?_
    refine q_lr (k := 1) (i := 0) (q := (.aload_n 0, 1, 0, 0, .null)) rfl (fun _ => rfl) l0 ?_
    refine r_gr (c := 80) H (pc := 43) rfl (by decide) (by decide) ?_
    refine r_s (fr' := (47, lv, [.int 0, .ref 80, .int v6])) (hp' := xW B m) (q := (.iconst 0, 1, 0, 0, .null)) rfl (fun _ => rfl) (Nat.le_refl _) ?_
    refine q_al (n := 148) (v := (m.1 80 0)) H (pc := 47) rfl (by decide) (by decide) rfl ?_
    refine r_ifc (len := 3) (a := 153) (b := 0) (v0 := .null) (cn := .ge) (off := 105) rfl (fun c => ?_) (fun c => ?_)
    · rw [if_pos c] at h
      refine q_li (k := 1) (i := 3) (q := (.iload_n 3, 1, 0, 0, .null)) rfl (fun _ => rfl) l3 ?_
      refine r_if (len := 3) (a := 162) (b := 0) (v0 := .null) (cn := .ge) (off := 8) rfl (fun c => ?_) (fun c => ?_)
      · rw [if_pos c] at h
        refine q_li (k := 1) (i := 1) (q := (.iload_n 1, 1, 0, 0, .null)) rfl (fun _ => rfl) l1 ?_
        refine r_if (len := 3) (a := 170) (b := 0) (v0 := .null) (cn := .ne) (off := 7) rfl (fun c => ?_) (fun c => ?_)
        · rw [if_pos c] at h
          refine q_li (k := 1) (i := 1) (q := (.iload_n 1, 1, 0, 0, .null)) rfl (fun _ => rfl) l1 ?_
          refine r_s (fr' := (172, lv, [.int 1, .int v1])) (hp' := xW B m) (q := (.iconst 1, 1, 0, 0, .null)) rfl (fun _ => rfl) (Nat.le_refl _) ?_
          refine r_ifc (len := 3) (a := 180) (b := 0) (v0 := .null) (cn := .ne) (off := 8) rfl (fun c => ?_) (fun c => ?_)
          · rw [if_pos c] at h
            refine q_li (k := 1) (i := 2) (q := (.iload_n 2, 1, 0, 0, .null)) rfl (fun _ => rfl) l2 ?_
            refine q_li (k := 2) (i := 5) (q := (.iload 5, 2, 0, 0, .null)) rfl (fun _ => rfl) l5 ?_
            refine r_s (fr' := (184, lv, [.int (v2 - v5)])) (hp' := xW B m) (q := (.isub, 1, 0, 0, .null)) rfl (fun _ => rfl) (Nat.le_refl _) ?_
            obtain rfl := Option.some.inj h
            exact q_ri (q := (.ireturn, 1, 0, 0, .null)) rfl (fun _ => rfl) rfl rfl
          · rw [if_neg (by rw [c]; decide)] at h
            refine q_li (k := 2) (i := 4) (q := (.iload 4, 2, 0, 0, .null)) rfl (fun _ => rfl) l4 ?_
            refine r_s (fr' := (184, lv, [.int v4])) (hp' := xW B m) (q := (.goto 7, 3, 184, 0, .null)) rfl (fun _ => rfl) (Nat.le_refl _) ?_
            obtain rfl := Option.some.inj h
            exact q_ri (q := (.ireturn, 1, 0, 0, .null)) rfl (fun _ => rfl) rfl rfl
        · rw [if_neg (by rw [c]; decide)] at h
          refine q_li (k := 1) (i := 3) (q := (.iload_n 3, 1, 0, 0, .null)) rfl (fun _ => rfl) l3 ?_
          refine r_s (fr' := (184, lv, [.int v3])) (hp' := xW B m) (q := (.goto 17, 3, 184, 0, .null)) rfl (fun _ => rfl) (Nat.le_refl _) ?_
          obtain rfl := Option.some.inj h
          exact q_ri (q := (.ireturn, 1, 0, 0, .null)) rfl (fun _ => rfl) rfl rfl
      · rw [if_neg (by rw [c]; decide)] at h
        refine r_s (fr' := (159, lv, [.int (-2)])) (hp' := xW B m) (q := (.bipush (-2), 2, 0, 0, .null)) rfl (fun _ => rfl) (Nat.le_refl _) ?_
        refine r_s (fr' := (184, lv, [.int (-2)])) (hp' := xW B m) (q := (.goto 25, 3, 184, 0, .null)) rfl (fun _ => rfl) (Nat.le_refl _) ?_
        obtain rfl := Option.some.inj h
        exact q_ri (q := (.ireturn, 1, 0, 0, .null)) rfl (fun _ => rfl) rfl rfl
    · rw [if_neg (by rw [c]; decide)] at h
      refine q_li (k := 2) (i := 6) (q := (.iload 6, 2, 0, 0, .null)) rfl (fun _ => rfl) l6 ?_
      refine r_s (fr' := (54, lv, [.int 1, .int v6])) (hp' := xW B m) (q := (.iconst 1, 1, 0, 0, .null)) rfl (fun _ => rfl) (Nat.le_refl _) ?_
      refine r_s (fr' := (55, lv, [.int (v6 + 1)])) (hp' := xW B m) (q := (.iadd, 1, 0, 0, .null)) rfl (fun _ => rfl) (Nat.le_refl _) ?_
      refine q_si (k := 2) (i := 7) (q := (.istore 7, 2, 0, 0, .null)) rfl (fun _ => rfl) (by decide) ?_
      have l0_1 : zld (zs1 lv 7 (.int (v6 + 1))) 0 = some (.ref 70) := x_o1 l0 rfl rfl
      have l1_1 : zld (zs1 lv 7 (.int (v6 + 1))) 1 = some (.int v1) := x_o1 l1 rfl rfl
      have l2_1 : zld (zs1 lv 7 (.int (v6 + 1))) 2 = some (.int v2) := x_o1 l2 rfl rfl
      have l3_1 : zld (zs1 lv 7 (.int (v6 + 1))) 3 = some (.int v3) := x_o1 l3 rfl rfl
      have l4_1 : zld (zs1 lv 7 (.int (v6 + 1))) 4 = some (.int v4) := x_o1 l4 rfl rfl
      have l5_1 : zld (zs1 lv 7 (.int (v6 + 1))) 5 = some (.int v5) := x_o1 l5 rfl rfl
      have l6_1 : zld (zs1 lv 7 (.int (v6 + 1))) 6 = some (.int v6) := x_o1 l6 rfl rfl
      have l7_1 : zld (zs1 lv 7 (.int (v6 + 1))) 7 = some (.int (v6 + 1)) := zs1_ld _ _ _
      generalize (zs1 lv 7 (.int (v6 + 1))) = lv1 at *
      exact T262_57 H he F _ ih F l0_1 l1_1 l2_1 l3_1 l4_1 l5_1 l6_1 l7_1 h
def D262 (F : Nat) (v1 : Int32) (m : xS) : Option (Int32 × xS) :=
  (D204 F m).bind fun q1 =>
    if zcmp .eq q1.1 0 = true then
      D262_19 F v1 q1.2
    else
      (D158 F (v1 : Int32).toInt64 0 2 q1.2).bind fun q13 =>
        if zcmp .ne q13.1 0 = true then
          (D256 F (-1) q13.2).bind fun q23 =>
            D262_40 F F v1 q23.1 (-2) (-2) 0 0 q23.2
        else
          D262_19 F v1 q13.2
set_option maxRecDepth 20000 in
theorem T262 {B : zHp} (H : yH0 B) {e : Nat} (he : 9 ≤ e + 1) (F : Nat) {v1 : Int32} {lv : List (Nat × Value)} {m : xS} {x : Int32 × xS} (l0 : zld lv 0 = some (.ref 70)) (l1 : zld lv 1 = some (.int v1)) (h : D262 F v1 m = some x) : zR none e 9 (some .int) zc262 (0, lv, []) (xW B m) (some (.int x.1), xW B x.2) := by
  unfold D262 at h
  refine q_lr (k := 1) (i := 0) (q := (.aload_n 0, 1, 0, 0, .null)) rfl (fun _ => rfl) l0 ?_
  obtain ⟨q1, h1, h⟩ := xbind h
  refine r_call (ix := 70) (as := []) (rest := []) (rv := some (.int q1.1)) (hp' := xW B q1.2) (pc := 1) rfl xr204 rfl rfl rfl (xkd H (by decide)) (Nat.le_of_ble_eq_true rfl) (Z204 H h1 (by omega)) (Nat.le_refl _) ?_
  refine r_if (len := 3) (a := 19) (b := 0) (v0 := .null) (cn := .eq) (off := 15) rfl (fun c => ?_) (fun c => ?_)
  · rw [if_pos c] at h
    exact T262_19 H he F l0 l1 h
  · rw [if_neg (by rw [c]; decide)] at h
    refine q_li (k := 1) (i := 1) (q := (.iload_n 1, 1, 0, 0, .null)) rfl (fun _ => rfl) l1 ?_
    refine r_s (fr' := (9, lv, [.long (v1 : Int32).toInt64])) (hp' := xW B q1.2) (q := (.i2l, 1, 0, 0, .null)) rfl (fun _ => rfl) (Nat.le_refl _) ?_
    refine r_s (fr' := (10, lv, [.long 0, .long (v1 : Int32).toInt64])) (hp' := xW B q1.2) (q := (.lconst 0, 1, 0, 0, .null)) rfl (fun _ => rfl) (Nat.le_refl _) ?_
    refine r_s (fr' := (13, lv, [.long 2, .long 0, .long (v1 : Int32).toInt64])) (hp' := xW B q1.2) (q := (.ldc2_w 440, 3, 0, 0, .long 2)) rfl (fun _ => rfl) (Nat.le_refl _) ?_
    obtain ⟨q13, h13, h⟩ := xbind h
    refine r_callS (as := [.long (v1 : Int32).toInt64, .long 0, .long 2]) (rest := []) (rv := some (.int q13.1)) (hp' := xW B q13.2) (pc := 13) rfl xr158 rfl rfl rfl (Nat.le_of_ble_eq_true rfl) (Z158 H h13 (by omega)) (Nat.le_refl _) ?_
    refine r_if (len := 3) (a := 21) (b := 0) (v0 := .null) (cn := .ne) (off := 5) rfl (fun c => ?_) (fun c => ?_)
    · rw [if_pos c] at h
      refine q_lr (k := 1) (i := 0) (q := (.aload_n 0, 1, 0, 0, .null)) rfl (fun _ => rfl) l0 ?_
      refine r_s (fr' := (23, lv, [.int (-1), .ref 70])) (hp' := xW B q13.2) (q := (.iconst (-1), 1, 0, 0, .null)) rfl (fun _ => rfl) (Nat.le_refl _) ?_
      obtain ⟨q23, h23, h⟩ := xbind h
      refine r_call (ix := 70) (as := [.int (-1)]) (rest := []) (rv := some (.int q23.1)) (hp' := xW B q23.2) (pc := 23) rfl xr256 rfl rfl rfl (xkd H (by decide)) (Nat.le_of_ble_eq_true rfl) (Z256 H h23 (by omega)) (Nat.le_refl _) ?_
      refine q_si (k := 1) (i := 2) (q := (.istore_n 2, 1, 0, 0, .null)) rfl (fun _ => rfl) (by decide) ?_
      have l0_1 : zld (zs1 lv 2 (.int q23.1)) 0 = some (.ref 70) := x_o1 l0 rfl rfl
      have l1_1 : zld (zs1 lv 2 (.int q23.1)) 1 = some (.int v1) := x_o1 l1 rfl rfl
      have l2_1 : zld (zs1 lv 2 (.int q23.1)) 2 = some (.int q23.1) := zs1_ld _ _ _
      generalize (zs1 lv 2 (.int q23.1)) = lv1 at *
      refine r_s (fr' := (29, lv1, [.int (-2)])) (hp' := xW B q23.2) (q := (.bipush (-2), 2, 0, 0, .null)) rfl (fun _ => rfl) (Nat.le_refl _) ?_
      refine q_si (k := 1) (i := 3) (q := (.istore_n 3, 1, 0, 0, .null)) rfl (fun _ => rfl) (by decide) ?_
      have l0_2 : zld (zs1 lv1 3 (.int (-2))) 0 = some (.ref 70) := x_o1 l0_1 rfl rfl
      have l1_2 : zld (zs1 lv1 3 (.int (-2))) 1 = some (.int v1) := x_o1 l1_1 rfl rfl
      have l2_2 : zld (zs1 lv1 3 (.int (-2))) 2 = some (.int q23.1) := x_o1 l2_1 rfl rfl
      have l3_2 : zld (zs1 lv1 3 (.int (-2))) 3 = some (.int (-2)) := zs1_ld _ _ _
      generalize (zs1 lv1 3 (.int (-2))) = lv2 at *
      refine r_s (fr' := (32, lv2, [.int (-2)])) (hp' := xW B q23.2) (q := (.bipush (-2), 2, 0, 0, .null)) rfl (fun _ => rfl) (Nat.le_refl _) ?_
      refine q_si (k := 2) (i := 4) (q := (.istore 4, 2, 0, 0, .null)) rfl (fun _ => rfl) (by decide) ?_
      have l0_3 : zld (zs1 lv2 4 (.int (-2))) 0 = some (.ref 70) := x_o1 l0_2 rfl rfl
      have l1_3 : zld (zs1 lv2 4 (.int (-2))) 1 = some (.int v1) := x_o1 l1_2 rfl rfl
      have l2_3 : zld (zs1 lv2 4 (.int (-2))) 2 = some (.int q23.1) := x_o1 l2_2 rfl rfl
      have l3_3 : zld (zs1 lv2 4 (.int (-2))) 3 = some (.int (-2)) := x_o1 l3_2 rfl rfl
      have l4_3 : zld (zs1 lv2 4 (.int (-2))) 4 = some (.int (-2)) := zs1_ld _ _ _
      generalize (zs1 lv2 4 (.int (-2))) = lv3 at *
      refine r_s (fr' := (35, lv3, [.int 0])) (hp' := xW B q23.2) (q := (.iconst 0, 1, 0, 0, .null)) rfl (fun _ => rfl) (Nat.le_refl _) ?_
      refine q_si (k := 2) (i := 5) (q := (.istore 5, 2, 0, 0, .null)) rfl (fun _ => rfl) (by decide) ?_
      have l0_4 : zld (zs1 lv3 5 (.int 0)) 0 = some (.ref 70) := x_o1 l0_3 rfl rfl
      have l1_4 : zld (zs1 lv3 5 (.int 0)) 1 = some (.int v1) := x_o1 l1_3 rfl rfl
      have l2_4 : zld (zs1 lv3 5 (.int 0)) 2 = some (.int q23.1) := x_o1 l2_3 rfl rfl
      have l3_4 : zld (zs1 lv3 5 (.int 0)) 3 = some (.int (-2)) := x_o1 l3_3 rfl rfl
      have l4_4 : zld (zs1 lv3 5 (.int 0)) 4 = some (.int (-2)) := x_o1 l4_3 rfl rfl
      have l5_4 : zld (zs1 lv3 5 (.int 0)) 5 = some (.int 0) := zs1_ld _ _ _
      generalize (zs1 lv3 5 (.int 0)) = lv4 at *
      refine r_s (fr' := (38, lv4, [.int 0])) (hp' := xW B q23.2) (q := (.iconst 0, 1, 0, 0, .null)) rfl (fun _ => rfl) (Nat.le_refl _) ?_
      refine q_si (k := 2) (i := 6) (q := (.istore 6, 2, 0, 0, .null)) rfl (fun _ => rfl) (by decide) ?_
      have l0_5 : zld (zs1 lv4 6 (.int 0)) 0 = some (.ref 70) := x_o1 l0_4 rfl rfl
      have l1_5 : zld (zs1 lv4 6 (.int 0)) 1 = some (.int v1) := x_o1 l1_4 rfl rfl
      have l2_5 : zld (zs1 lv4 6 (.int 0)) 2 = some (.int q23.1) := x_o1 l2_4 rfl rfl
      have l3_5 : zld (zs1 lv4 6 (.int 0)) 3 = some (.int (-2)) := x_o1 l3_4 rfl rfl
      have l4_5 : zld (zs1 lv4 6 (.int 0)) 4 = some (.int (-2)) := x_o1 l4_4 rfl rfl
      have l5_5 : zld (zs1 lv4 6 (.int 0)) 5 = some (.int 0) := x_o1 l5_4 rfl rfl
      have l6_5 : zld (zs1 lv4 6 (.int 0)) 6 = some (.int 0) := zs1_ld _ _ _
      generalize (zs1 lv4 6 (.int 0)) = lv5 at *
      exact T262_40 H he F F l0_5 l1_5 l2_5 l3_5 l4_5 l5_5 l6_5 h
    · rw [if_neg (by rw [c]; decide)] at h
      exact T262_19 H he F l0 l1 h
set_option maxRecDepth 20000 in
theorem Z262 {B : zHp} (H : yH0 B) {F : Nat} {a1 : Int32} {m : xS} {x : Int32 × xS} (h : D262 F a1 m = some x) {d : Nat} (hd : 9 ≤ d) : zCan d 262 [.ref 70, .int a1] (xW B m) (some (.int x.1), xW B x.2) := by
  obtain ⟨e, rfl⟩ : ∃ e, d = e + 1 := ⟨d - 1, by omega⟩
  refine zCan_body (nL := 9) (rt := (some .int)) (cd := zc262) (xg262) ⟨Nat.le_of_ble_eq_true rfl, by decide⟩ (Nat.le_refl _) ?_
  exact T262 H hd F rfl rfl h
/-- LentToolsModel.getsOne -/
def D270_44 (F : Nat) (g2 : Int32 → Int32 → Int32 → xS → Option (Int32 × xS)) (v1 : Int32) (v2 : Int32) (v3 : Int32) (m : xS) : Option (Int32 × xS) :=
  g2 v1 v2 (v3 + Int32.ofInt 1) m
set_option maxRecDepth 20000 in
theorem T270_44 {B : zHp} (H : yH0 B) {e : Nat} (he : 7 ≤ e + 1) (F : Nat) (g2 : Int32 → Int32 → Int32 → xS → Option (Int32 × xS)) (k2 : ∀ {v1 : Int32} {v2 : Int32} {v3 : Int32} {lv : List (Nat × Value)} {m : xS} {x : Int32 × xS}, zld lv 0 = some (.ref 70) → zld lv 1 = some (.int v1) → zld lv 2 = some (.int v2) → zld lv 3 = some (.int v3) → g2 v1 v2 v3 m = some x → zR none e 4 (some .boolean) zc270 (2, lv, []) (xW B m) (some (.int x.1), xW B x.2)) {v1 : Int32} {v2 : Int32} {v3 : Int32} {lv : List (Nat × Value)} {m : xS} {x : Int32 × xS} (l0 : zld lv 0 = some (.ref 70)) (l1 : zld lv 1 = some (.int v1)) (l2 : zld lv 2 = some (.int v2)) (l3 : zld lv 3 = some (.int v3)) (h : D270_44 F g2 v1 v2 v3 m = some x) : zR none e 4 (some .boolean) zc270 (44, lv, []) (xW B m) (some (.int x.1), xW B x.2) := by
  unfold D270_44 at h
  refine q_inc (i := 3) (n := 1) (q := (.iinc 3 1, 3, 0, 0, .null)) rfl (fun _ => rfl) l3 (by decide) ?_
  have l0_1 : zld (zs1 lv 3 (.int (v3 + Int32.ofInt 1))) 0 = some (.ref 70) := x_o1 l0 rfl rfl
  have l1_1 : zld (zs1 lv 3 (.int (v3 + Int32.ofInt 1))) 1 = some (.int v1) := x_o1 l1 rfl rfl
  have l2_1 : zld (zs1 lv 3 (.int (v3 + Int32.ofInt 1))) 2 = some (.int v2) := x_o1 l2 rfl rfl
  have l3_1 : zld (zs1 lv 3 (.int (v3 + Int32.ofInt 1))) 3 = some (.int (v3 + Int32.ofInt 1)) := zs1_ld _ _ _
  generalize (zs1 lv 3 (.int (v3 + Int32.ofInt 1))) = lv1 at *
  refine r_s (fr' := (2, lv1, [])) (hp' := xW B m) (q := (.goto (-45), 3, 2, 0, .null)) rfl (fun _ => rfl) (Nat.le_refl _) ?_
  exact k2 l0_1 l1_1 l2_1 l3_1 h
def D270_2 (F : Nat) : Nat → Int32 → Int32 → Int32 → xS → Option (Int32 × xS)
  | 0, _, _, _, _ => none
  | f + 1, v1, v2, v3, m =>
    if zcmp .ge v3 (m.1 80 2) = true then
      some (0, m)
    else
      (D208 F v3 1 m).bind fun q15 =>
        if zcmp .ne q15.1 v2 = true then
          D270_44 F (D270_2 F f) v1 v2 v3 q15.2
        else
          (D208 F v3 0 q15.2).bind fun q25 =>
            if zcmp .eq q25.1 v1 = true then
              D270_44 F (D270_2 F f) v1 v2 v3 q25.2
            else
              (D251 F v3 v1 0 q25.2).bind fun q36 =>
                if zcmp .lt q36.1 0 = true then
                  D270_44 F (D270_2 F f) v1 v2 v3 q36.2
                else
                  some (1, q36.2)
set_option maxRecDepth 20000 in
theorem T270_2 {B : zHp} (H : yH0 B) {e : Nat} (he : 7 ≤ e + 1) (F : Nat) : ∀ (f : Nat) {v1 : Int32} {v2 : Int32} {v3 : Int32} {lv : List (Nat × Value)} {m : xS} {x : Int32 × xS}, zld lv 0 = some (.ref 70) → zld lv 1 = some (.int v1) → zld lv 2 = some (.int v2) → zld lv 3 = some (.int v3) → D270_2 F f v1 v2 v3 m = some x → zR none e 4 (some .boolean) zc270 (2, lv, []) (xW B m) (some (.int x.1), xW B x.2) := by
  intro f
  induction f with
  | zero => intro v1 v2 v3 lv m x l0 l1 l2 l3 h; cases h
  | succ f ih =>
    intro v1 v2 v3 lv m x l0 l1 l2 l3 h
    unfold D270_2 at h
    refine q_li (k := 1) (i := 3) (q := (.iload_n 3, 1, 0, 0, .null)) rfl (fun _ => rfl) l3 ?_
    refine q_lr (k := 1) (i := 0) (q := (.aload_n 0, 1, 0, 0, .null)) rfl (fun _ => rfl) l0 ?_
    refine r_gr (c := 80) H (pc := 4) rfl (by decide) (by decide) ?_
    refine r_s (fr' := (8, lv, [.int 2, .ref 80, .int v3])) (hp' := xW B m) (q := (.iconst 2, 1, 0, 0, .null)) rfl (fun _ => rfl) (Nat.le_refl _) ?_
    refine q_al (n := 148) (v := (m.1 80 2)) H (pc := 8) rfl (by decide) (by decide) rfl ?_
    refine r_ifc (len := 3) (a := 50) (b := 0) (v0 := .null) (cn := .ge) (off := 41) rfl (fun c => ?_) (fun c => ?_)
    · rw [if_pos c] at h
      refine r_s (fr' := (51, lv, [.int 0])) (hp' := xW B m) (q := (.iconst 0, 1, 0, 0, .null)) rfl (fun _ => rfl) (Nat.le_refl _) ?_
      obtain rfl := Option.some.inj h
      exact q_ri (q := (.ireturn, 1, 0, 0, .null)) rfl (fun _ => rfl) rfl rfl
    · rw [if_neg (by rw [c]; decide)] at h
      refine q_lr (k := 1) (i := 0) (q := (.aload_n 0, 1, 0, 0, .null)) rfl (fun _ => rfl) l0 ?_
      refine q_li (k := 1) (i := 3) (q := (.iload_n 3, 1, 0, 0, .null)) rfl (fun _ => rfl) l3 ?_
      refine r_s (fr' := (15, lv, [.int 1, .int v3, .ref 70])) (hp' := xW B m) (q := (.iconst 1, 1, 0, 0, .null)) rfl (fun _ => rfl) (Nat.le_refl _) ?_
      obtain ⟨q15, h15, h⟩ := xbind h
      refine r_call (ix := 70) (as := [.int v3, .int 1]) (rest := []) (rv := some (.int q15.1)) (hp' := xW B q15.2) (pc := 15) rfl xr208 rfl rfl rfl (xkd H (by decide)) (Nat.le_of_ble_eq_true rfl) (Z208 H h15 (by omega)) (Nat.le_refl _) ?_
      refine q_li (k := 1) (i := 2) (q := (.iload_n 2, 1, 0, 0, .null)) rfl (fun _ => rfl) l2 ?_
      refine r_ifc (len := 3) (a := 44) (b := 0) (v0 := .null) (cn := .ne) (off := 25) rfl (fun c => ?_) (fun c => ?_)
      · rw [if_pos c] at h
        exact T270_44 H he F _ ih l0 l1 l2 l3 h
      · rw [if_neg (by rw [c]; decide)] at h
        refine q_lr (k := 1) (i := 0) (q := (.aload_n 0, 1, 0, 0, .null)) rfl (fun _ => rfl) l0 ?_
        refine q_li (k := 1) (i := 3) (q := (.iload_n 3, 1, 0, 0, .null)) rfl (fun _ => rfl) l3 ?_
        refine r_s (fr' := (25, lv, [.int 0, .int v3, .ref 70])) (hp' := xW B q15.2) (q := (.iconst 0, 1, 0, 0, .null)) rfl (fun _ => rfl) (Nat.le_refl _) ?_
        obtain ⟨q25, h25, h⟩ := xbind h
        refine r_call (ix := 70) (as := [.int v3, .int 0]) (rest := []) (rv := some (.int q25.1)) (hp' := xW B q25.2) (pc := 25) rfl xr208 rfl rfl rfl (xkd H (by decide)) (Nat.le_of_ble_eq_true rfl) (Z208 H h25 (by omega)) (Nat.le_refl _) ?_
        refine q_li (k := 1) (i := 1) (q := (.iload_n 1, 1, 0, 0, .null)) rfl (fun _ => rfl) l1 ?_
        refine r_ifc (len := 3) (a := 44) (b := 0) (v0 := .null) (cn := .eq) (off := 15) rfl (fun c => ?_) (fun c => ?_)
        · rw [if_pos c] at h
          exact T270_44 H he F _ ih l0 l1 l2 l3 h
        · rw [if_neg (by rw [c]; decide)] at h
          refine q_lr (k := 1) (i := 0) (q := (.aload_n 0, 1, 0, 0, .null)) rfl (fun _ => rfl) l0 ?_
          refine q_li (k := 1) (i := 3) (q := (.iload_n 3, 1, 0, 0, .null)) rfl (fun _ => rfl) l3 ?_
          refine q_li (k := 1) (i := 1) (q := (.iload_n 1, 1, 0, 0, .null)) rfl (fun _ => rfl) l1 ?_
          refine r_s (fr' := (36, lv, [.int 0, .int v1, .int v3, .ref 70])) (hp' := xW B q25.2) (q := (.iconst 0, 1, 0, 0, .null)) rfl (fun _ => rfl) (Nat.le_refl _) ?_
          obtain ⟨q36, h36, h⟩ := xbind h
          refine r_call (ix := 70) (as := [.int v3, .int v1, .int 0]) (rest := []) (rv := some (.int q36.1)) (hp' := xW B q36.2) (pc := 36) rfl xr251 rfl rfl rfl (xkd H (by decide)) (Nat.le_of_ble_eq_true rfl) (Z251 H h36 (by omega)) (Nat.le_refl _) ?_
          refine r_if (len := 3) (a := 44) (b := 0) (v0 := .null) (cn := .lt) (off := 5) rfl (fun c => ?_) (fun c => ?_)
          · rw [if_pos c] at h
            exact T270_44 H he F _ ih l0 l1 l2 l3 h
          · rw [if_neg (by rw [c]; decide)] at h
            refine r_s (fr' := (43, lv, [.int 1])) (hp' := xW B q36.2) (q := (.iconst 1, 1, 0, 0, .null)) rfl (fun _ => rfl) (Nat.le_refl _) ?_
            obtain rfl := Option.some.inj h
            exact q_ri (q := (.ireturn, 1, 0, 0, .null)) rfl (fun _ => rfl) rfl rfl
def D270 (F : Nat) (v1 : Int32) (v2 : Int32) (m : xS) : Option (Int32 × xS) :=
  D270_2 F F v1 v2 0 m
set_option maxRecDepth 20000 in
theorem T270 {B : zHp} (H : yH0 B) {e : Nat} (he : 7 ≤ e + 1) (F : Nat) {v1 : Int32} {v2 : Int32} {lv : List (Nat × Value)} {m : xS} {x : Int32 × xS} (l0 : zld lv 0 = some (.ref 70)) (l1 : zld lv 1 = some (.int v1)) (l2 : zld lv 2 = some (.int v2)) (h : D270 F v1 v2 m = some x) : zR none e 4 (some .boolean) zc270 (0, lv, []) (xW B m) (some (.int x.1), xW B x.2) := by
  unfold D270 at h
  refine r_s (fr' := (1, lv, [.int 0])) (hp' := xW B m) (q := (.iconst 0, 1, 0, 0, .null)) rfl (fun _ => rfl) (Nat.le_refl _) ?_
  refine q_si (k := 1) (i := 3) (q := (.istore_n 3, 1, 0, 0, .null)) rfl (fun _ => rfl) (by decide) ?_
  have l0_1 : zld (zs1 lv 3 (.int 0)) 0 = some (.ref 70) := x_o1 l0 rfl rfl
  have l1_1 : zld (zs1 lv 3 (.int 0)) 1 = some (.int v1) := x_o1 l1 rfl rfl
  have l2_1 : zld (zs1 lv 3 (.int 0)) 2 = some (.int v2) := x_o1 l2 rfl rfl
  have l3_1 : zld (zs1 lv 3 (.int 0)) 3 = some (.int 0) := zs1_ld _ _ _
  generalize (zs1 lv 3 (.int 0)) = lv1 at *
  exact T270_2 H he F F l0_1 l1_1 l2_1 l3_1 h
set_option maxRecDepth 20000 in
theorem Z270 {B : zHp} (H : yH0 B) {F : Nat} {a1 : Int32} {a2 : Int32} {m : xS} {x : Int32 × xS} (h : D270 F a1 a2 m = some x) {d : Nat} (hd : 7 ≤ d) : zCan d 270 [.ref 70, .int a1, .int a2] (xW B m) (some (.int x.1), xW B x.2) := by
  obtain ⟨e, rfl⟩ : ∃ e, d = e + 1 := ⟨d - 1, by omega⟩
  refine zCan_body (nL := 4) (rt := (some .boolean)) (cd := zc270) (xg270) ⟨Nat.le_of_ble_eq_true rfl, by decide⟩ (Nat.le_refl _) ?_
  exact T270 H hd F rfl rfl rfl h
/-- LentToolsModel.isSafe -/
def D271_49 (F : Nat) (g2 : Int32 → Int32 → Int32 → xS → Option (Int32 × xS)) (v1 : Int32) (v2 : Int32) (v3 : Int32) (m : xS) : Option (Int32 × xS) :=
  g2 v1 v2 (v3 + Int32.ofInt 1) m
set_option maxRecDepth 20000 in
theorem T271_49 {B : zHp} (H : yH0 B) {e : Nat} (he : 8 ≤ e + 1) (F : Nat) (g2 : Int32 → Int32 → Int32 → xS → Option (Int32 × xS)) (k2 : ∀ {v1 : Int32} {v2 : Int32} {v3 : Int32} {lv : List (Nat × Value)} {m : xS} {x : Int32 × xS}, zld lv 0 = some (.ref 70) → zld lv 1 = some (.int v1) → zld lv 2 = some (.int v2) → zld lv 3 = some (.int v3) → g2 v1 v2 v3 m = some x → zR none e 5 (some .boolean) zc271 (2, lv, []) (xW B m) (some (.int x.1), xW B x.2)) {v1 : Int32} {v2 : Int32} {v3 : Int32} {lv : List (Nat × Value)} {m : xS} {x : Int32 × xS} (l0 : zld lv 0 = some (.ref 70)) (l1 : zld lv 1 = some (.int v1)) (l2 : zld lv 2 = some (.int v2)) (l3 : zld lv 3 = some (.int v3)) (h : D271_49 F g2 v1 v2 v3 m = some x) : zR none e 5 (some .boolean) zc271 (49, lv, []) (xW B m) (some (.int x.1), xW B x.2) := by
  unfold D271_49 at h
  refine q_inc (i := 3) (n := 1) (q := (.iinc 3 1, 3, 0, 0, .null)) rfl (fun _ => rfl) l3 (by decide) ?_
  have l0_1 : zld (zs1 lv 3 (.int (v3 + Int32.ofInt 1))) 0 = some (.ref 70) := x_o1 l0 rfl rfl
  have l1_1 : zld (zs1 lv 3 (.int (v3 + Int32.ofInt 1))) 1 = some (.int v1) := x_o1 l1 rfl rfl
  have l2_1 : zld (zs1 lv 3 (.int (v3 + Int32.ofInt 1))) 2 = some (.int v2) := x_o1 l2 rfl rfl
  have l3_1 : zld (zs1 lv 3 (.int (v3 + Int32.ofInt 1))) 3 = some (.int (v3 + Int32.ofInt 1)) := zs1_ld _ _ _
  generalize (zs1 lv 3 (.int (v3 + Int32.ofInt 1))) = lv1 at *
  refine r_s (fr' := (2, lv1, [])) (hp' := xW B m) (q := (.goto (-50), 3, 2, 0, .null)) rfl (fun _ => rfl) (Nat.le_refl _) ?_
  exact k2 l0_1 l1_1 l2_1 l3_1 h
def D271_2 (F : Nat) : Nat → Int32 → Int32 → Int32 → xS → Option (Int32 × xS)
  | 0, _, _, _, _ => none
  | f + 1, v1, v2, v3, m =>
    if zcmp .ge v3 (m.1 80 0) = true then
      some (1, m)
    else
      if zcmp .ne v3 v1 = true then
        (D259 F m).bind fun q21 =>
          (D229 F v1 v3 q21.2).bind fun q27 =>
            (D270 F v1 v2 q27.2).bind fun q33 =>
              (D260 F q33.2).bind fun q39 =>
                if zcmp .ne q33.1 0 = true then
                  D271_49 F (D271_2 F f) v1 v2 v3 q39.2
                else
                  some (0, q39.2)
      else
        D271_49 F (D271_2 F f) v1 v2 v3 m
set_option maxRecDepth 20000 in
theorem T271_2 {B : zHp} (H : yH0 B) {e : Nat} (he : 8 ≤ e + 1) (F : Nat) : ∀ (f : Nat) {v1 : Int32} {v2 : Int32} {v3 : Int32} {lv : List (Nat × Value)} {m : xS} {x : Int32 × xS}, zld lv 0 = some (.ref 70) → zld lv 1 = some (.int v1) → zld lv 2 = some (.int v2) → zld lv 3 = some (.int v3) → D271_2 F f v1 v2 v3 m = some x → zR none e 5 (some .boolean) zc271 (2, lv, []) (xW B m) (some (.int x.1), xW B x.2) := by
  intro f
  induction f with
  | zero => intro v1 v2 v3 lv m x l0 l1 l2 l3 h; cases h
  | succ f ih =>
    intro v1 v2 v3 lv m x l0 l1 l2 l3 h
    unfold D271_2 at h
    refine q_li (k := 1) (i := 3) (q := (.iload_n 3, 1, 0, 0, .null)) rfl (fun _ => rfl) l3 ?_
    refine q_lr (k := 1) (i := 0) (q := (.aload_n 0, 1, 0, 0, .null)) rfl (fun _ => rfl) l0 ?_
    refine r_gr (c := 80) H (pc := 4) rfl (by decide) (by decide) ?_
    refine r_s (fr' := (8, lv, [.int 0, .ref 80, .int v3])) (hp' := xW B m) (q := (.iconst 0, 1, 0, 0, .null)) rfl (fun _ => rfl) (Nat.le_refl _) ?_
    refine q_al (n := 148) (v := (m.1 80 0)) H (pc := 8) rfl (by decide) (by decide) rfl ?_
    refine r_ifc (len := 3) (a := 55) (b := 0) (v0 := .null) (cn := .ge) (off := 46) rfl (fun c => ?_) (fun c => ?_)
    · rw [if_pos c] at h
      refine r_s (fr' := (56, lv, [.int 1])) (hp' := xW B m) (q := (.iconst 1, 1, 0, 0, .null)) rfl (fun _ => rfl) (Nat.le_refl _) ?_
      obtain rfl := Option.some.inj h
      exact q_ri (q := (.ireturn, 1, 0, 0, .null)) rfl (fun _ => rfl) rfl rfl
    · rw [if_neg (by rw [c]; decide)] at h
      refine q_li (k := 1) (i := 3) (q := (.iload_n 3, 1, 0, 0, .null)) rfl (fun _ => rfl) l3 ?_
      refine q_li (k := 1) (i := 1) (q := (.iload_n 1, 1, 0, 0, .null)) rfl (fun _ => rfl) l1 ?_
      refine r_ifc (len := 3) (a := 20) (b := 0) (v0 := .null) (cn := .ne) (off := 6) rfl (fun c => ?_) (fun c => ?_)
      · rw [if_pos c] at h
        refine q_lr (k := 1) (i := 0) (q := (.aload_n 0, 1, 0, 0, .null)) rfl (fun _ => rfl) l0 ?_
        obtain ⟨q21, h21, h⟩ := xbind h
        refine r_call (ix := 70) (as := []) (rest := []) (rv := none) (hp' := xW B q21.2) (pc := 21) rfl xr259 rfl rfl rfl (xkd H (by decide)) (Nat.le_of_ble_eq_true rfl) (Z259 H h21 (by omega)) (Nat.le_refl _) ?_
        refine q_lr (k := 1) (i := 0) (q := (.aload_n 0, 1, 0, 0, .null)) rfl (fun _ => rfl) l0 ?_
        refine q_li (k := 1) (i := 1) (q := (.iload_n 1, 1, 0, 0, .null)) rfl (fun _ => rfl) l1 ?_
        refine q_li (k := 1) (i := 3) (q := (.iload_n 3, 1, 0, 0, .null)) rfl (fun _ => rfl) l3 ?_
        obtain ⟨q27, h27, h⟩ := xbind h
        refine r_call (ix := 70) (as := [.int v1, .int v3]) (rest := []) (rv := none) (hp' := xW B q27.2) (pc := 27) rfl xr229 rfl rfl rfl (xkd H (by decide)) (Nat.le_of_ble_eq_true rfl) (Z229 H h27 (by omega)) (Nat.le_refl _) ?_
        refine q_lr (k := 1) (i := 0) (q := (.aload_n 0, 1, 0, 0, .null)) rfl (fun _ => rfl) l0 ?_
        refine q_li (k := 1) (i := 1) (q := (.iload_n 1, 1, 0, 0, .null)) rfl (fun _ => rfl) l1 ?_
        refine q_li (k := 1) (i := 2) (q := (.iload_n 2, 1, 0, 0, .null)) rfl (fun _ => rfl) l2 ?_
        obtain ⟨q33, h33, h⟩ := xbind h
        refine r_call (ix := 70) (as := [.int v1, .int v2]) (rest := []) (rv := some (.int q33.1)) (hp' := xW B q33.2) (pc := 33) rfl xr270 rfl rfl rfl (xkd H (by decide)) (Nat.le_of_ble_eq_true rfl) (Z270 H h33 (by omega)) (Nat.le_refl _) ?_
        refine q_si (k := 2) (i := 4) (q := (.istore 4, 2, 0, 0, .null)) rfl (fun _ => rfl) (by decide) ?_
        have l0_1 : zld (zs1 lv 4 (.int q33.1)) 0 = some (.ref 70) := x_o1 l0 rfl rfl
        have l1_1 : zld (zs1 lv 4 (.int q33.1)) 1 = some (.int v1) := x_o1 l1 rfl rfl
        have l2_1 : zld (zs1 lv 4 (.int q33.1)) 2 = some (.int v2) := x_o1 l2 rfl rfl
        have l3_1 : zld (zs1 lv 4 (.int q33.1)) 3 = some (.int v3) := x_o1 l3 rfl rfl
        have l4_1 : zld (zs1 lv 4 (.int q33.1)) 4 = some (.int q33.1) := zs1_ld _ _ _
        generalize (zs1 lv 4 (.int q33.1)) = lv1 at *
        refine q_lr (k := 1) (i := 0) (q := (.aload_n 0, 1, 0, 0, .null)) rfl (fun _ => rfl) l0_1 ?_
        obtain ⟨q39, h39, h⟩ := xbind h
        refine r_call (ix := 70) (as := []) (rest := []) (rv := none) (hp' := xW B q39.2) (pc := 39) rfl xr260 rfl rfl rfl (xkd H (by decide)) (Nat.le_of_ble_eq_true rfl) (Z260 H h39 (by omega)) (Nat.le_refl _) ?_
        refine q_li (k := 2) (i := 4) (q := (.iload 4, 2, 0, 0, .null)) rfl (fun _ => rfl) l4_1 ?_
        refine r_if (len := 3) (a := 49) (b := 0) (v0 := .null) (cn := .ne) (off := 5) rfl (fun c => ?_) (fun c => ?_)
        · rw [if_pos c] at h
          exact T271_49 H he F _ ih l0_1 l1_1 l2_1 l3_1 h
        · rw [if_neg (by rw [c]; decide)] at h
          refine r_s (fr' := (48, lv1, [.int 0])) (hp' := xW B q39.2) (q := (.iconst 0, 1, 0, 0, .null)) rfl (fun _ => rfl) (Nat.le_refl _) ?_
          obtain rfl := Option.some.inj h
          exact q_ri (q := (.ireturn, 1, 0, 0, .null)) rfl (fun _ => rfl) rfl rfl
      · rw [if_neg (by rw [c]; decide)] at h
        refine r_s (fr' := (49, lv, [])) (hp' := xW B m) (q := (.goto 32, 3, 49, 0, .null)) rfl (fun _ => rfl) (Nat.le_refl _) ?_
        exact T271_49 H he F _ ih l0 l1 l2 l3 h
def D271 (F : Nat) (v1 : Int32) (v2 : Int32) (m : xS) : Option (Int32 × xS) :=
  D271_2 F F v1 v2 0 m
set_option maxRecDepth 20000 in
theorem T271 {B : zHp} (H : yH0 B) {e : Nat} (he : 8 ≤ e + 1) (F : Nat) {v1 : Int32} {v2 : Int32} {lv : List (Nat × Value)} {m : xS} {x : Int32 × xS} (l0 : zld lv 0 = some (.ref 70)) (l1 : zld lv 1 = some (.int v1)) (l2 : zld lv 2 = some (.int v2)) (h : D271 F v1 v2 m = some x) : zR none e 5 (some .boolean) zc271 (0, lv, []) (xW B m) (some (.int x.1), xW B x.2) := by
  unfold D271 at h
  refine r_s (fr' := (1, lv, [.int 0])) (hp' := xW B m) (q := (.iconst 0, 1, 0, 0, .null)) rfl (fun _ => rfl) (Nat.le_refl _) ?_
  refine q_si (k := 1) (i := 3) (q := (.istore_n 3, 1, 0, 0, .null)) rfl (fun _ => rfl) (by decide) ?_
  have l0_1 : zld (zs1 lv 3 (.int 0)) 0 = some (.ref 70) := x_o1 l0 rfl rfl
  have l1_1 : zld (zs1 lv 3 (.int 0)) 1 = some (.int v1) := x_o1 l1 rfl rfl
  have l2_1 : zld (zs1 lv 3 (.int 0)) 2 = some (.int v2) := x_o1 l2 rfl rfl
  have l3_1 : zld (zs1 lv 3 (.int 0)) 3 = some (.int 0) := zs1_ld _ _ _
  generalize (zs1 lv 3 (.int 0)) = lv1 at *
  exact T271_2 H he F F l0_1 l1_1 l2_1 l3_1 h
set_option maxRecDepth 20000 in
theorem Z271 {B : zHp} (H : yH0 B) {F : Nat} {a1 : Int32} {a2 : Int32} {m : xS} {x : Int32 × xS} (h : D271 F a1 a2 m = some x) {d : Nat} (hd : 8 ≤ d) : zCan d 271 [.ref 70, .int a1, .int a2] (xW B m) (some (.int x.1), xW B x.2) := by
  obtain ⟨e, rfl⟩ : ∃ e, d = e + 1 := ⟨d - 1, by omega⟩
  refine zCan_body (nL := 5) (rt := (some .boolean)) (cd := zc271) (xg271) ⟨Nat.le_of_ble_eq_true rfl, by decide⟩ (Nat.le_refl _) ?_
  exact T271 H hd F rfl rfl rfl h
/-- LentToolsModel.safe -/
def D272_19 (F : Nat) (v1 : Int32) (m : xS) : Option (Int32 × xS) :=
  some ((-1), m)
set_option maxRecDepth 20000 in
theorem T272_19 {B : zHp} (H : yH0 B) {e : Nat} (he : 9 ≤ e + 1) (F : Nat) {v1 : Int32} {lv : List (Nat × Value)} {m : xS} {x : Int32 × xS} (l0 : zld lv 0 = some (.ref 70)) (l1 : zld lv 1 = some (.int v1)) (h : D272_19 F v1 m = some x) : zR none e 4 (some .int) zc272 (19, lv, []) (xW B m) (some (.int x.1), xW B x.2) := by
  unfold D272_19 at h
  refine r_s (fr' := (20, lv, [.int (-1)])) (hp' := xW B m) (q := (.iconst (-1), 1, 0, 0, .null)) rfl (fun _ => rfl) (Nat.le_refl _) ?_
  obtain rfl := Option.some.inj h
  exact q_ri (q := (.ireturn, 1, 0, 0, .null)) rfl (fun _ => rfl) rfl rfl
def D272_52 (F : Nat) (g25 : Int32 → Int32 → Int32 → xS → Option (Int32 × xS)) (v1 : Int32) (v2 : Int32) (v3 : Int32) (w0 : Int32) (w1 : Int32) (m : xS) : Option (Int32 × xS) :=
  g25 v1 (w1 ||| w0) (v3 + Int32.ofInt 1) m
set_option maxRecDepth 20000 in
theorem T272_52 {B : zHp} (H : yH0 B) {e : Nat} (he : 9 ≤ e + 1) (F : Nat) (g25 : Int32 → Int32 → Int32 → xS → Option (Int32 × xS)) (k25 : ∀ {v1 : Int32} {v2 : Int32} {v3 : Int32} {lv : List (Nat × Value)} {m : xS} {x : Int32 × xS}, zld lv 0 = some (.ref 70) → zld lv 1 = some (.int v1) → zld lv 2 = some (.int v2) → zld lv 3 = some (.int v3) → g25 v1 v2 v3 m = some x → zR none e 4 (some .int) zc272 (25, lv, []) (xW B m) (some (.int x.1), xW B x.2)) {v1 : Int32} {v2 : Int32} {v3 : Int32} {w0 : Int32} {w1 : Int32} {lv : List (Nat × Value)} {m : xS} {x : Int32 × xS} (l0 : zld lv 0 = some (.ref 70)) (l1 : zld lv 1 = some (.int v1)) (l2 : zld lv 2 = some (.int v2)) (l3 : zld lv 3 = some (.int v3)) (h : D272_52 F g25 v1 v2 v3 w0 w1 m = some x) : zR none e 4 (some .int) zc272 (52, lv, [.int w0, .int w1]) (xW B m) (some (.int x.1), xW B x.2) := by
  unfold D272_52 at h
  refine r_s (fr' := (53, lv, [.int (w1 ||| w0)])) (hp' := xW B m) (q := (.ior, 1, 0, 0, .null)) rfl (fun _ => rfl) (Nat.le_refl _) ?_
  refine q_si (k := 1) (i := 2) (q := (.istore_n 2, 1, 0, 0, .null)) rfl (fun _ => rfl) (by decide) ?_
  have l0_1 : zld (zs1 lv 2 (.int (w1 ||| w0))) 0 = some (.ref 70) := x_o1 l0 rfl rfl
  have l1_1 : zld (zs1 lv 2 (.int (w1 ||| w0))) 1 = some (.int v1) := x_o1 l1 rfl rfl
  have l2_1 : zld (zs1 lv 2 (.int (w1 ||| w0))) 2 = some (.int (w1 ||| w0)) := zs1_ld _ _ _
  have l3_1 : zld (zs1 lv 2 (.int (w1 ||| w0))) 3 = some (.int v3) := x_o1 l3 rfl rfl
  generalize (zs1 lv 2 (.int (w1 ||| w0))) = lv1 at *
  refine q_inc (i := 3) (n := 1) (q := (.iinc 3 1, 3, 0, 0, .null)) rfl (fun _ => rfl) l3_1 (by decide) ?_
  have l0_2 : zld (zs1 lv1 3 (.int (v3 + Int32.ofInt 1))) 0 = some (.ref 70) := x_o1 l0_1 rfl rfl
  have l1_2 : zld (zs1 lv1 3 (.int (v3 + Int32.ofInt 1))) 1 = some (.int v1) := x_o1 l1_1 rfl rfl
  have l2_2 : zld (zs1 lv1 3 (.int (v3 + Int32.ofInt 1))) 2 = some (.int (w1 ||| w0)) := x_o1 l2_1 rfl rfl
  have l3_2 : zld (zs1 lv1 3 (.int (v3 + Int32.ofInt 1))) 3 = some (.int (v3 + Int32.ofInt 1)) := zs1_ld _ _ _
  generalize (zs1 lv1 3 (.int (v3 + Int32.ofInt 1))) = lv2 at *
  refine r_s (fr' := (25, lv2, [])) (hp' := xW B m) (q := (.goto (-32), 3, 25, 0, .null)) rfl (fun _ => rfl) (Nat.le_refl _) ?_
  exact k25 l0_2 l1_2 l2_2 l3_2 h
def D272_25 (F : Nat) : Nat → Int32 → Int32 → Int32 → xS → Option (Int32 × xS)
  | 0, _, _, _, _ => none
  | f + 1, v1, v2, v3, m =>
    if zcmp .ge v3 (m.1 80 0) = true then
      some (v2, m)
    else
      (D271 F v3 v1 m).bind fun q39 =>
        if zcmp .eq q39.1 0 = true then
          D272_52 F (D272_25 F f) v1 v2 v3 0 v2 q39.2
        else
          D272_52 F (D272_25 F f) v1 v2 v3 (1 <<< (v3 &&& 31)) v2 q39.2
set_option maxRecDepth 20000 in
theorem T272_25 {B : zHp} (H : yH0 B) {e : Nat} (he : 9 ≤ e + 1) (F : Nat) : ∀ (f : Nat) {v1 : Int32} {v2 : Int32} {v3 : Int32} {lv : List (Nat × Value)} {m : xS} {x : Int32 × xS}, zld lv 0 = some (.ref 70) → zld lv 1 = some (.int v1) → zld lv 2 = some (.int v2) → zld lv 3 = some (.int v3) → D272_25 F f v1 v2 v3 m = some x → zR none e 4 (some .int) zc272 (25, lv, []) (xW B m) (some (.int x.1), xW B x.2) := by
  intro f
  induction f with
  | zero => intro v1 v2 v3 lv m x l0 l1 l2 l3 h; cases h
  | succ f ih =>
    intro v1 v2 v3 lv m x l0 l1 l2 l3 h
    unfold D272_25 at h
    refine q_li (k := 1) (i := 3) (q := (.iload_n 3, 1, 0, 0, .null)) rfl (fun _ => rfl) l3 ?_
    refine q_lr (k := 1) (i := 0) (q := (.aload_n 0, 1, 0, 0, .null)) rfl (fun _ => rfl) l0 ?_
    refine r_gr (c := 80) H (pc := 27) rfl (by decide) (by decide) ?_
    refine r_s (fr' := (31, lv, [.int 0, .ref 80, .int v3])) (hp' := xW B m) (q := (.iconst 0, 1, 0, 0, .null)) rfl (fun _ => rfl) (Nat.le_refl _) ?_
    refine q_al (n := 148) (v := (m.1 80 0)) H (pc := 31) rfl (by decide) (by decide) rfl ?_
    refine r_ifc (len := 3) (a := 60) (b := 0) (v0 := .null) (cn := .ge) (off := 28) rfl (fun c => ?_) (fun c => ?_)
    · rw [if_pos c] at h
      refine q_li (k := 1) (i := 2) (q := (.iload_n 2, 1, 0, 0, .null)) rfl (fun _ => rfl) l2 ?_
      obtain rfl := Option.some.inj h
      exact q_ri (q := (.ireturn, 1, 0, 0, .null)) rfl (fun _ => rfl) rfl rfl
    · rw [if_neg (by rw [c]; decide)] at h
      refine q_li (k := 1) (i := 2) (q := (.iload_n 2, 1, 0, 0, .null)) rfl (fun _ => rfl) l2 ?_
      refine q_lr (k := 1) (i := 0) (q := (.aload_n 0, 1, 0, 0, .null)) rfl (fun _ => rfl) l0 ?_
      refine q_li (k := 1) (i := 3) (q := (.iload_n 3, 1, 0, 0, .null)) rfl (fun _ => rfl) l3 ?_
      refine q_li (k := 1) (i := 1) (q := (.iload_n 1, 1, 0, 0, .null)) rfl (fun _ => rfl) l1 ?_
      obtain ⟨q39, h39, h⟩ := xbind h
      refine r_call (ix := 70) (as := [.int v3, .int v1]) (rest := [.int v2]) (rv := some (.int q39.1)) (hp' := xW B q39.2) (pc := 39) rfl xr271 rfl rfl rfl (xkd H (by decide)) (Nat.le_of_ble_eq_true rfl) (Z271 H h39 (by omega)) (Nat.le_refl _) ?_
      refine r_if (len := 3) (a := 51) (b := 0) (v0 := .null) (cn := .eq) (off := 9) rfl (fun c => ?_) (fun c => ?_)
      · rw [if_pos c] at h
        refine r_s (fr' := (52, lv, [.int 0, .int v2])) (hp' := xW B q39.2) (q := (.iconst 0, 1, 0, 0, .null)) rfl (fun _ => rfl) (Nat.le_refl _) ?_
        exact T272_52 H he F _ ih l0 l1 l2 l3 h
      · rw [if_neg (by rw [c]; decide)] at h
        refine r_s (fr' := (46, lv, [.int 1, .int v2])) (hp' := xW B q39.2) (q := (.iconst 1, 1, 0, 0, .null)) rfl (fun _ => rfl) (Nat.le_refl _) ?_
        refine q_li (k := 1) (i := 3) (q := (.iload_n 3, 1, 0, 0, .null)) rfl (fun _ => rfl) l3 ?_
        refine r_s (fr' := (48, lv, [.int (1 <<< (v3 &&& 31)), .int v2])) (hp' := xW B q39.2) (q := (.ishl, 1, 0, 0, .null)) rfl (fun _ => rfl) (Nat.le_refl _) ?_
        refine r_s (fr' := (52, lv, [.int (1 <<< (v3 &&& 31)), .int v2])) (hp' := xW B q39.2) (q := (.goto 4, 3, 52, 0, .null)) rfl (fun _ => rfl) (Nat.le_refl _) ?_
        exact T272_52 H he F _ ih l0 l1 l2 l3 h
def D272 (F : Nat) (v1 : Int32) (m : xS) : Option (Int32 × xS) :=
  (D204 F m).bind fun q1 =>
    if zcmp .eq q1.1 0 = true then
      D272_19 F v1 q1.2
    else
      (D158 F (v1 : Int32).toInt64 0 4 q1.2).bind fun q13 =>
        if zcmp .ne q13.1 0 = true then
          D272_25 F F v1 0 0 q13.2
        else
          D272_19 F v1 q13.2
set_option maxRecDepth 20000 in
theorem T272 {B : zHp} (H : yH0 B) {e : Nat} (he : 9 ≤ e + 1) (F : Nat) {v1 : Int32} {lv : List (Nat × Value)} {m : xS} {x : Int32 × xS} (l0 : zld lv 0 = some (.ref 70)) (l1 : zld lv 1 = some (.int v1)) (h : D272 F v1 m = some x) : zR none e 4 (some .int) zc272 (0, lv, []) (xW B m) (some (.int x.1), xW B x.2) := by
  unfold D272 at h
  refine q_lr (k := 1) (i := 0) (q := (.aload_n 0, 1, 0, 0, .null)) rfl (fun _ => rfl) l0 ?_
  obtain ⟨q1, h1, h⟩ := xbind h
  refine r_call (ix := 70) (as := []) (rest := []) (rv := some (.int q1.1)) (hp' := xW B q1.2) (pc := 1) rfl xr204 rfl rfl rfl (xkd H (by decide)) (Nat.le_of_ble_eq_true rfl) (Z204 H h1 (by omega)) (Nat.le_refl _) ?_
  refine r_if (len := 3) (a := 19) (b := 0) (v0 := .null) (cn := .eq) (off := 15) rfl (fun c => ?_) (fun c => ?_)
  · rw [if_pos c] at h
    exact T272_19 H he F l0 l1 h
  · rw [if_neg (by rw [c]; decide)] at h
    refine q_li (k := 1) (i := 1) (q := (.iload_n 1, 1, 0, 0, .null)) rfl (fun _ => rfl) l1 ?_
    refine r_s (fr' := (9, lv, [.long (v1 : Int32).toInt64])) (hp' := xW B q1.2) (q := (.i2l, 1, 0, 0, .null)) rfl (fun _ => rfl) (Nat.le_refl _) ?_
    refine r_s (fr' := (10, lv, [.long 0, .long (v1 : Int32).toInt64])) (hp' := xW B q1.2) (q := (.lconst 0, 1, 0, 0, .null)) rfl (fun _ => rfl) (Nat.le_refl _) ?_
    refine r_s (fr' := (13, lv, [.long 4, .long 0, .long (v1 : Int32).toInt64])) (hp' := xW B q1.2) (q := (.ldc2_w 463, 3, 0, 0, .long 4)) rfl (fun _ => rfl) (Nat.le_refl _) ?_
    obtain ⟨q13, h13, h⟩ := xbind h
    refine r_callS (as := [.long (v1 : Int32).toInt64, .long 0, .long 4]) (rest := []) (rv := some (.int q13.1)) (hp' := xW B q13.2) (pc := 13) rfl xr158 rfl rfl rfl (Nat.le_of_ble_eq_true rfl) (Z158 H h13 (by omega)) (Nat.le_refl _) ?_
    refine r_if (len := 3) (a := 21) (b := 0) (v0 := .null) (cn := .ne) (off := 5) rfl (fun c => ?_) (fun c => ?_)
    · rw [if_pos c] at h
      refine r_s (fr' := (22, lv, [.int 0])) (hp' := xW B q13.2) (q := (.iconst 0, 1, 0, 0, .null)) rfl (fun _ => rfl) (Nat.le_refl _) ?_
      refine q_si (k := 1) (i := 2) (q := (.istore_n 2, 1, 0, 0, .null)) rfl (fun _ => rfl) (by decide) ?_
      have l0_1 : zld (zs1 lv 2 (.int 0)) 0 = some (.ref 70) := x_o1 l0 rfl rfl
      have l1_1 : zld (zs1 lv 2 (.int 0)) 1 = some (.int v1) := x_o1 l1 rfl rfl
      have l2_1 : zld (zs1 lv 2 (.int 0)) 2 = some (.int 0) := zs1_ld _ _ _
      generalize (zs1 lv 2 (.int 0)) = lv1 at *
      refine r_s (fr' := (24, lv1, [.int 0])) (hp' := xW B q13.2) (q := (.iconst 0, 1, 0, 0, .null)) rfl (fun _ => rfl) (Nat.le_refl _) ?_
      refine q_si (k := 1) (i := 3) (q := (.istore_n 3, 1, 0, 0, .null)) rfl (fun _ => rfl) (by decide) ?_
      have l0_2 : zld (zs1 lv1 3 (.int 0)) 0 = some (.ref 70) := x_o1 l0_1 rfl rfl
      have l1_2 : zld (zs1 lv1 3 (.int 0)) 1 = some (.int v1) := x_o1 l1_1 rfl rfl
      have l2_2 : zld (zs1 lv1 3 (.int 0)) 2 = some (.int 0) := x_o1 l2_1 rfl rfl
      have l3_2 : zld (zs1 lv1 3 (.int 0)) 3 = some (.int 0) := zs1_ld _ _ _
      generalize (zs1 lv1 3 (.int 0)) = lv2 at *
      exact T272_25 H he F F l0_2 l1_2 l2_2 l3_2 h
    · rw [if_neg (by rw [c]; decide)] at h
      exact T272_19 H he F l0 l1 h
set_option maxRecDepth 20000 in
theorem Z272 {B : zHp} (H : yH0 B) {F : Nat} {a1 : Int32} {m : xS} {x : Int32 × xS} (h : D272 F a1 m = some x) {d : Nat} (hd : 9 ≤ d) : zCan d 272 [.ref 70, .int a1] (xW B m) (some (.int x.1), xW B x.2) := by
  obtain ⟨e, rfl⟩ : ∃ e, d = e + 1 := ⟨d - 1, by omega⟩
  refine zCan_body (nL := 4) (rt := (some .int)) (cd := zc272) (xg272) ⟨Nat.le_of_ble_eq_true rfl, by decide⟩ (Nat.le_refl _) ?_
  exact T272 H hd F rfl rfl h
