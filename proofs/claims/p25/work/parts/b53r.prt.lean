/-! Methods as functions over the memory. -/
set_option maxRecDepth 4000 in
theorem xg1 : zg zms 1 = some (zm1.2.2.1, zm1.2.2.2.1, zc1) := rfl
theorem xr1 : zar 1 = (2, 0) := by decide +kernel
set_option maxRecDepth 4000 in
theorem xg2 : zg zms 2 = some (zm2.2.2.1, zm2.2.2.2.1, zc2) := rfl
theorem xr2 : zar 2 = (3, 0) := by decide +kernel
set_option maxRecDepth 4000 in
theorem xg3 : zg zms 3 = some (zm3.2.2.1, zm3.2.2.2.1, zc3) := rfl
theorem xr3 : zar 3 = (2, 0) := by decide +kernel
set_option maxRecDepth 4000 in
theorem xg5 : zg zms 5 = some (zm5.2.2.1, zm5.2.2.2.1, zc5) := rfl
theorem xr5 : zar 5 = (4, 0) := by decide +kernel
set_option maxRecDepth 4000 in
theorem xg7 : zg zms 7 = some (zm7.2.2.1, zm7.2.2.2.1, zc7) := rfl
theorem xr7 : zar 7 = (5, 0) := by decide +kernel
set_option maxRecDepth 4000 in
theorem xg8 : zg zms 8 = some (zm8.2.2.1, zm8.2.2.2.1, zc8) := rfl
theorem xr8 : zar 8 = (4, 0) := by decide +kernel
set_option maxRecDepth 4000 in
theorem xg9 : zg zms 9 = some (zm9.2.2.1, zm9.2.2.2.1, zc9) := rfl
theorem xr9 : zar 9 = (0, 0) := by decide +kernel
set_option maxRecDepth 4000 in
theorem xg141 : zg zms 141 = some (zm141.2.2.1, zm141.2.2.2.1, zc141) := rfl
theorem xr141 : zar 141 = (4, 10) := by decide +kernel
set_option maxRecDepth 4000 in
theorem xg280 : zg zms 280 = some (zm280.2.2.1, zm280.2.2.2.1, zc280) := rfl
theorem xr280 : zar 280 = (1, 200) := by decide +kernel
/-- java/util/Arrays.fill -/
def D291_45_5 (F : Nat) : Nat → Int32 → Int32 → Int32 → xS → Option (Unit × xS)
  | 0, _, _, _, _ => none
  | f + 1, v1, v2, v3, m =>
    if zcmp .ge v2 v3 = true then
      some ((), m)
    else
      if xib v2 6 = true then
        D291_45_5 F f v1 (v2 + Int32.ofInt 1) v3 (xu m 45 (v2 : Int32).toNatClampNeg v1)
      else none
set_option maxRecDepth 20000 in
theorem T291_45_5 {B : zHp} (H : yH0 B) {e : Nat} (he : 1 ≤ e + 1) (F : Nat) : ∀ (f : Nat) {v1 : Int32} {v2 : Int32} {v3 : Int32} {lv : List (Nat × Value)} {m : xS} {x : Unit × xS}, zld lv 0 = some (.ref 45) → zld lv 1 = some (.int v1) → zld lv 2 = some (.int v2) → zld lv 3 = some (.int v3) → D291_45_5 F f v1 v2 v3 m = some x → zR none e 4 none zc291 (5, lv, []) (xW B m) (none, xW B x.2) := by
  intro f
  induction f with
  | zero => intro v1 v2 v3 lv m x l0 l1 l2 l3 h; cases h
  | succ f ih =>
    intro v1 v2 v3 lv m x l0 l1 l2 l3 h
    unfold D291_45_5 at h
    refine q_li (k := 1) (i := 2) (q := (.iload_n 2, 1, 0, 0, .null)) rfl (fun _ => rfl) l2 ?_
    refine q_li (k := 1) (i := 3) (q := (.iload_n 3, 1, 0, 0, .null)) rfl (fun _ => rfl) l3 ?_
    refine r_ifc (len := 3) (a := 20) (b := 0) (v0 := .null) (cn := .ge) (off := 13) rfl (fun c => ?_) (fun c => ?_)
    · rw [if_pos c] at h
      obtain rfl := Option.some.inj h
      exact r_ret (q := (.return_, 1, 0, 0, .null)) rfl rfl (fun _ => rfl)
    · rw [if_neg (by rw [c]; decide)] at h
      refine q_lr (k := 1) (i := 0) (q := (.aload_n 0, 1, 0, 0, .null)) rfl (fun _ => rfl) l0 ?_
      refine q_li (k := 1) (i := 2) (q := (.iload_n 2, 1, 0, 0, .null)) rfl (fun _ => rfl) l2 ?_
      refine q_li (k := 1) (i := 1) (q := (.iload_n 1, 1, 0, 0, .null)) rfl (fun _ => rfl) l1 ?_
      obtain ⟨c1, h⟩ := xif h
      refine q_as (n := 6) (s2 := (xu m 45 (v2 : Int32).toNatClampNeg v1)) H (pc := 13) rfl (by decide) c1 rfl ?_
      refine q_inc (i := 2) (n := 1) (q := (.iinc 2 1, 3, 0, 0, .null)) rfl (fun _ => rfl) l2 (by decide) ?_
      have l0_2 : zld (zs1 lv 2 (.int (v2 + Int32.ofInt 1))) 0 = some (.ref 45) := x_o1 l0 rfl rfl
      have l1_2 : zld (zs1 lv 2 (.int (v2 + Int32.ofInt 1))) 1 = some (.int v1) := x_o1 l1 rfl rfl
      have l2_2 : zld (zs1 lv 2 (.int (v2 + Int32.ofInt 1))) 2 = some (.int (v2 + Int32.ofInt 1)) := zs1_ld _ _ _
      have l3_2 : zld (zs1 lv 2 (.int (v2 + Int32.ofInt 1))) 3 = some (.int v3) := x_o1 l3 rfl rfl
      generalize (zs1 lv 2 (.int (v2 + Int32.ofInt 1))) = lv2 at *
      refine r_s (fr' := (5, lv2, [])) (hp' := xW B (xu m 45 (v2 : Int32).toNatClampNeg v1)) (q := (.goto (-12), 3, 5, 0, .null)) rfl (fun _ => rfl) (Nat.le_refl _) ?_
      exact ih l0_2 l1_2 l2_2 l3_2 h
def D291_45 (F : Nat) (v1 : Int32) (m : xS) : Option (Unit × xS) :=
  D291_45_5 F F v1 0 (Int32.ofNat 6) m
set_option maxRecDepth 20000 in
theorem T291_45 {B : zHp} (H : yH0 B) {e : Nat} (he : 1 ≤ e + 1) (F : Nat) {v1 : Int32} {lv : List (Nat × Value)} {m : xS} {x : Unit × xS} (l0 : zld lv 0 = some (.ref 45)) (l1 : zld lv 1 = some (.int v1)) (h : D291_45 F v1 m = some x) : zR none e 4 none zc291 (0, lv, []) (xW B m) (none, xW B x.2) := by
  unfold D291_45 at h
  refine r_s (fr' := (1, lv, [.int 0])) (hp' := xW B m) (q := (.iconst 0, 1, 0, 0, .null)) rfl (fun _ => rfl) (Nat.le_refl _) ?_
  refine q_si (k := 1) (i := 2) (q := (.istore_n 2, 1, 0, 0, .null)) rfl (fun _ => rfl) (by decide) ?_
  have l0_1 : zld (zs1 lv 2 (.int 0)) 0 = some (.ref 45) := x_o1 l0 rfl rfl
  have l1_1 : zld (zs1 lv 2 (.int 0)) 1 = some (.int v1) := x_o1 l1 rfl rfl
  have l2_1 : zld (zs1 lv 2 (.int 0)) 2 = some (.int 0) := zs1_ld _ _ _
  generalize (zs1 lv 2 (.int 0)) = lv1 at *
  refine q_lr (k := 1) (i := 0) (q := (.aload_n 0, 1, 0, 0, .null)) rfl (fun _ => rfl) l0_1 ?_
  refine q_len (n := 6) (k := 0) H (pc := 3) rfl (by decide) ?_
  refine q_si (k := 1) (i := 3) (q := (.istore_n 3, 1, 0, 0, .null)) rfl (fun _ => rfl) (by decide) ?_
  have l0_2 : zld (zs1 lv1 3 (.int (Int32.ofNat 6))) 0 = some (.ref 45) := x_o1 l0_1 rfl rfl
  have l1_2 : zld (zs1 lv1 3 (.int (Int32.ofNat 6))) 1 = some (.int v1) := x_o1 l1_1 rfl rfl
  have l2_2 : zld (zs1 lv1 3 (.int (Int32.ofNat 6))) 2 = some (.int 0) := x_o1 l2_1 rfl rfl
  have l3_2 : zld (zs1 lv1 3 (.int (Int32.ofNat 6))) 3 = some (.int (Int32.ofNat 6)) := zs1_ld _ _ _
  generalize (zs1 lv1 3 (.int (Int32.ofNat 6))) = lv2 at *
  exact T291_45_5 H he F F l0_2 l1_2 l2_2 l3_2 h
set_option maxRecDepth 20000 in
theorem Z291_45 {B : zHp} (H : yH0 B) {F : Nat} {a1 : Int32} {m : xS} {x : Unit × xS} (h : D291_45 F a1 m = some x) {d : Nat} (hd : 1 ≤ d) : zCan d 291 [.ref 45, .int a1] (xW B m) (none, xW B x.2) := by
  obtain ⟨e, rfl⟩ : ∃ e, d = e + 1 := ⟨d - 1, by omega⟩
  refine zCan_body (nL := 4) (rt := none) (cd := zc291) (xg291) ⟨Nat.le_of_ble_eq_true rfl, by decide⟩ (Nat.le_refl _) ?_
  exact T291_45 H hd F rfl rfl h
/-- java/util/Arrays.fill -/
def D291_46_5 (F : Nat) : Nat → Int32 → Int32 → Int32 → xS → Option (Unit × xS)
  | 0, _, _, _, _ => none
  | f + 1, v1, v2, v3, m =>
    if zcmp .ge v2 v3 = true then
      some ((), m)
    else
      if xib v2 6 = true then
        D291_46_5 F f v1 (v2 + Int32.ofInt 1) v3 (xu m 46 (v2 : Int32).toNatClampNeg v1)
      else none
set_option maxRecDepth 20000 in
theorem T291_46_5 {B : zHp} (H : yH0 B) {e : Nat} (he : 1 ≤ e + 1) (F : Nat) : ∀ (f : Nat) {v1 : Int32} {v2 : Int32} {v3 : Int32} {lv : List (Nat × Value)} {m : xS} {x : Unit × xS}, zld lv 0 = some (.ref 46) → zld lv 1 = some (.int v1) → zld lv 2 = some (.int v2) → zld lv 3 = some (.int v3) → D291_46_5 F f v1 v2 v3 m = some x → zR none e 4 none zc291 (5, lv, []) (xW B m) (none, xW B x.2) := by
  intro f
  induction f with
  | zero => intro v1 v2 v3 lv m x l0 l1 l2 l3 h; cases h
  | succ f ih =>
    intro v1 v2 v3 lv m x l0 l1 l2 l3 h
    unfold D291_46_5 at h
    refine q_li (k := 1) (i := 2) (q := (.iload_n 2, 1, 0, 0, .null)) rfl (fun _ => rfl) l2 ?_
    refine q_li (k := 1) (i := 3) (q := (.iload_n 3, 1, 0, 0, .null)) rfl (fun _ => rfl) l3 ?_
    refine r_ifc (len := 3) (a := 20) (b := 0) (v0 := .null) (cn := .ge) (off := 13) rfl (fun c => ?_) (fun c => ?_)
    · rw [if_pos c] at h
      obtain rfl := Option.some.inj h
      exact r_ret (q := (.return_, 1, 0, 0, .null)) rfl rfl (fun _ => rfl)
    · rw [if_neg (by rw [c]; decide)] at h
      refine q_lr (k := 1) (i := 0) (q := (.aload_n 0, 1, 0, 0, .null)) rfl (fun _ => rfl) l0 ?_
      refine q_li (k := 1) (i := 2) (q := (.iload_n 2, 1, 0, 0, .null)) rfl (fun _ => rfl) l2 ?_
      refine q_li (k := 1) (i := 1) (q := (.iload_n 1, 1, 0, 0, .null)) rfl (fun _ => rfl) l1 ?_
      obtain ⟨c1, h⟩ := xif h
      refine q_as (n := 6) (s2 := (xu m 46 (v2 : Int32).toNatClampNeg v1)) H (pc := 13) rfl (by decide) c1 rfl ?_
      refine q_inc (i := 2) (n := 1) (q := (.iinc 2 1, 3, 0, 0, .null)) rfl (fun _ => rfl) l2 (by decide) ?_
      have l0_2 : zld (zs1 lv 2 (.int (v2 + Int32.ofInt 1))) 0 = some (.ref 46) := x_o1 l0 rfl rfl
      have l1_2 : zld (zs1 lv 2 (.int (v2 + Int32.ofInt 1))) 1 = some (.int v1) := x_o1 l1 rfl rfl
      have l2_2 : zld (zs1 lv 2 (.int (v2 + Int32.ofInt 1))) 2 = some (.int (v2 + Int32.ofInt 1)) := zs1_ld _ _ _
      have l3_2 : zld (zs1 lv 2 (.int (v2 + Int32.ofInt 1))) 3 = some (.int v3) := x_o1 l3 rfl rfl
      generalize (zs1 lv 2 (.int (v2 + Int32.ofInt 1))) = lv2 at *
      refine r_s (fr' := (5, lv2, [])) (hp' := xW B (xu m 46 (v2 : Int32).toNatClampNeg v1)) (q := (.goto (-12), 3, 5, 0, .null)) rfl (fun _ => rfl) (Nat.le_refl _) ?_
      exact ih l0_2 l1_2 l2_2 l3_2 h
def D291_46 (F : Nat) (v1 : Int32) (m : xS) : Option (Unit × xS) :=
  D291_46_5 F F v1 0 (Int32.ofNat 6) m
set_option maxRecDepth 20000 in
theorem T291_46 {B : zHp} (H : yH0 B) {e : Nat} (he : 1 ≤ e + 1) (F : Nat) {v1 : Int32} {lv : List (Nat × Value)} {m : xS} {x : Unit × xS} (l0 : zld lv 0 = some (.ref 46)) (l1 : zld lv 1 = some (.int v1)) (h : D291_46 F v1 m = some x) : zR none e 4 none zc291 (0, lv, []) (xW B m) (none, xW B x.2) := by
  unfold D291_46 at h
  refine r_s (fr' := (1, lv, [.int 0])) (hp' := xW B m) (q := (.iconst 0, 1, 0, 0, .null)) rfl (fun _ => rfl) (Nat.le_refl _) ?_
  refine q_si (k := 1) (i := 2) (q := (.istore_n 2, 1, 0, 0, .null)) rfl (fun _ => rfl) (by decide) ?_
  have l0_1 : zld (zs1 lv 2 (.int 0)) 0 = some (.ref 46) := x_o1 l0 rfl rfl
  have l1_1 : zld (zs1 lv 2 (.int 0)) 1 = some (.int v1) := x_o1 l1 rfl rfl
  have l2_1 : zld (zs1 lv 2 (.int 0)) 2 = some (.int 0) := zs1_ld _ _ _
  generalize (zs1 lv 2 (.int 0)) = lv1 at *
  refine q_lr (k := 1) (i := 0) (q := (.aload_n 0, 1, 0, 0, .null)) rfl (fun _ => rfl) l0_1 ?_
  refine q_len (n := 6) (k := 0) H (pc := 3) rfl (by decide) ?_
  refine q_si (k := 1) (i := 3) (q := (.istore_n 3, 1, 0, 0, .null)) rfl (fun _ => rfl) (by decide) ?_
  have l0_2 : zld (zs1 lv1 3 (.int (Int32.ofNat 6))) 0 = some (.ref 46) := x_o1 l0_1 rfl rfl
  have l1_2 : zld (zs1 lv1 3 (.int (Int32.ofNat 6))) 1 = some (.int v1) := x_o1 l1_1 rfl rfl
  have l2_2 : zld (zs1 lv1 3 (.int (Int32.ofNat 6))) 2 = some (.int 0) := x_o1 l2_1 rfl rfl
  have l3_2 : zld (zs1 lv1 3 (.int (Int32.ofNat 6))) 3 = some (.int (Int32.ofNat 6)) := zs1_ld _ _ _
  generalize (zs1 lv1 3 (.int (Int32.ofNat 6))) = lv2 at *
  exact T291_46_5 H he F F l0_2 l1_2 l2_2 l3_2 h
set_option maxRecDepth 20000 in
theorem Z291_46 {B : zHp} (H : yH0 B) {F : Nat} {a1 : Int32} {m : xS} {x : Unit × xS} (h : D291_46 F a1 m = some x) {d : Nat} (hd : 1 ≤ d) : zCan d 291 [.ref 46, .int a1] (xW B m) (none, xW B x.2) := by
  obtain ⟨e, rfl⟩ : ∃ e, d = e + 1 := ⟨d - 1, by omega⟩
  refine zCan_body (nL := 4) (rt := none) (cd := zc291) (xg291) ⟨Nat.le_of_ble_eq_true rfl, by decide⟩ (Nat.le_refl _) ?_
  exact T291_46 H hd F rfl rfl h
/-- java/util/Arrays.fill -/
def D291_47_5 (F : Nat) : Nat → Int32 → Int32 → Int32 → xS → Option (Unit × xS)
  | 0, _, _, _, _ => none
  | f + 1, v1, v2, v3, m =>
    if zcmp .ge v2 v3 = true then
      some ((), m)
    else
      if xib v2 64 = true then
        D291_47_5 F f v1 (v2 + Int32.ofInt 1) v3 (xu m 47 (v2 : Int32).toNatClampNeg v1)
      else none
set_option maxRecDepth 20000 in
theorem T291_47_5 {B : zHp} (H : yH0 B) {e : Nat} (he : 1 ≤ e + 1) (F : Nat) : ∀ (f : Nat) {v1 : Int32} {v2 : Int32} {v3 : Int32} {lv : List (Nat × Value)} {m : xS} {x : Unit × xS}, zld lv 0 = some (.ref 47) → zld lv 1 = some (.int v1) → zld lv 2 = some (.int v2) → zld lv 3 = some (.int v3) → D291_47_5 F f v1 v2 v3 m = some x → zR none e 4 none zc291 (5, lv, []) (xW B m) (none, xW B x.2) := by
  intro f
  induction f with
  | zero => intro v1 v2 v3 lv m x l0 l1 l2 l3 h; cases h
  | succ f ih =>
    intro v1 v2 v3 lv m x l0 l1 l2 l3 h
    unfold D291_47_5 at h
    refine q_li (k := 1) (i := 2) (q := (.iload_n 2, 1, 0, 0, .null)) rfl (fun _ => rfl) l2 ?_
    refine q_li (k := 1) (i := 3) (q := (.iload_n 3, 1, 0, 0, .null)) rfl (fun _ => rfl) l3 ?_
    refine r_ifc (len := 3) (a := 20) (b := 0) (v0 := .null) (cn := .ge) (off := 13) rfl (fun c => ?_) (fun c => ?_)
    · rw [if_pos c] at h
      obtain rfl := Option.some.inj h
      exact r_ret (q := (.return_, 1, 0, 0, .null)) rfl rfl (fun _ => rfl)
    · rw [if_neg (by rw [c]; decide)] at h
      refine q_lr (k := 1) (i := 0) (q := (.aload_n 0, 1, 0, 0, .null)) rfl (fun _ => rfl) l0 ?_
      refine q_li (k := 1) (i := 2) (q := (.iload_n 2, 1, 0, 0, .null)) rfl (fun _ => rfl) l2 ?_
      refine q_li (k := 1) (i := 1) (q := (.iload_n 1, 1, 0, 0, .null)) rfl (fun _ => rfl) l1 ?_
      obtain ⟨c1, h⟩ := xif h
      refine q_as (n := 64) (s2 := (xu m 47 (v2 : Int32).toNatClampNeg v1)) H (pc := 13) rfl (by decide) c1 rfl ?_
      refine q_inc (i := 2) (n := 1) (q := (.iinc 2 1, 3, 0, 0, .null)) rfl (fun _ => rfl) l2 (by decide) ?_
      have l0_2 : zld (zs1 lv 2 (.int (v2 + Int32.ofInt 1))) 0 = some (.ref 47) := x_o1 l0 rfl rfl
      have l1_2 : zld (zs1 lv 2 (.int (v2 + Int32.ofInt 1))) 1 = some (.int v1) := x_o1 l1 rfl rfl
      have l2_2 : zld (zs1 lv 2 (.int (v2 + Int32.ofInt 1))) 2 = some (.int (v2 + Int32.ofInt 1)) := zs1_ld _ _ _
      have l3_2 : zld (zs1 lv 2 (.int (v2 + Int32.ofInt 1))) 3 = some (.int v3) := x_o1 l3 rfl rfl
      generalize (zs1 lv 2 (.int (v2 + Int32.ofInt 1))) = lv2 at *
      refine r_s (fr' := (5, lv2, [])) (hp' := xW B (xu m 47 (v2 : Int32).toNatClampNeg v1)) (q := (.goto (-12), 3, 5, 0, .null)) rfl (fun _ => rfl) (Nat.le_refl _) ?_
      exact ih l0_2 l1_2 l2_2 l3_2 h
def D291_47 (F : Nat) (v1 : Int32) (m : xS) : Option (Unit × xS) :=
  D291_47_5 F F v1 0 (Int32.ofNat 64) m
set_option maxRecDepth 20000 in
theorem T291_47 {B : zHp} (H : yH0 B) {e : Nat} (he : 1 ≤ e + 1) (F : Nat) {v1 : Int32} {lv : List (Nat × Value)} {m : xS} {x : Unit × xS} (l0 : zld lv 0 = some (.ref 47)) (l1 : zld lv 1 = some (.int v1)) (h : D291_47 F v1 m = some x) : zR none e 4 none zc291 (0, lv, []) (xW B m) (none, xW B x.2) := by
  unfold D291_47 at h
  refine r_s (fr' := (1, lv, [.int 0])) (hp' := xW B m) (q := (.iconst 0, 1, 0, 0, .null)) rfl (fun _ => rfl) (Nat.le_refl _) ?_
  refine q_si (k := 1) (i := 2) (q := (.istore_n 2, 1, 0, 0, .null)) rfl (fun _ => rfl) (by decide) ?_
  have l0_1 : zld (zs1 lv 2 (.int 0)) 0 = some (.ref 47) := x_o1 l0 rfl rfl
  have l1_1 : zld (zs1 lv 2 (.int 0)) 1 = some (.int v1) := x_o1 l1 rfl rfl
  have l2_1 : zld (zs1 lv 2 (.int 0)) 2 = some (.int 0) := zs1_ld _ _ _
  generalize (zs1 lv 2 (.int 0)) = lv1 at *
  refine q_lr (k := 1) (i := 0) (q := (.aload_n 0, 1, 0, 0, .null)) rfl (fun _ => rfl) l0_1 ?_
  refine q_len (n := 64) (k := 0) H (pc := 3) rfl (by decide) ?_
  refine q_si (k := 1) (i := 3) (q := (.istore_n 3, 1, 0, 0, .null)) rfl (fun _ => rfl) (by decide) ?_
  have l0_2 : zld (zs1 lv1 3 (.int (Int32.ofNat 64))) 0 = some (.ref 47) := x_o1 l0_1 rfl rfl
  have l1_2 : zld (zs1 lv1 3 (.int (Int32.ofNat 64))) 1 = some (.int v1) := x_o1 l1_1 rfl rfl
  have l2_2 : zld (zs1 lv1 3 (.int (Int32.ofNat 64))) 2 = some (.int 0) := x_o1 l2_1 rfl rfl
  have l3_2 : zld (zs1 lv1 3 (.int (Int32.ofNat 64))) 3 = some (.int (Int32.ofNat 64)) := zs1_ld _ _ _
  generalize (zs1 lv1 3 (.int (Int32.ofNat 64))) = lv2 at *
  exact T291_47_5 H he F F l0_2 l1_2 l2_2 l3_2 h
set_option maxRecDepth 20000 in
theorem Z291_47 {B : zHp} (H : yH0 B) {F : Nat} {a1 : Int32} {m : xS} {x : Unit × xS} (h : D291_47 F a1 m = some x) {d : Nat} (hd : 1 ≤ d) : zCan d 291 [.ref 47, .int a1] (xW B m) (none, xW B x.2) := by
  obtain ⟨e, rfl⟩ : ∃ e, d = e + 1 := ⟨d - 1, by omega⟩
  refine zCan_body (nL := 4) (rt := none) (cd := zc291) (xg291) ⟨Nat.le_of_ble_eq_true rfl, by decide⟩ (Nat.le_refl _) ?_
  exact T291_47 H hd F rfl rfl h
/-- java/lang/Integer.bitCount -/
def D280 (F : Nat) (v0 : Int32) (m : xS) : Option (Int32 × xS) :=
  some (((((((((v0 - (((v0).toUInt32 >>> ((1 : Int32).toUInt32 &&& Int32.toUInt32 31)).toInt32 &&& 1431655765)) &&& 858993459) + ((((v0 - (((v0).toUInt32 >>> ((1 : Int32).toUInt32 &&& Int32.toUInt32 31)).toInt32 &&& 1431655765))).toUInt32 >>> ((2 : Int32).toUInt32 &&& Int32.toUInt32 31)).toInt32 &&& 858993459)) + (((((v0 - (((v0).toUInt32 >>> ((1 : Int32).toUInt32 &&& Int32.toUInt32 31)).toInt32 &&& 1431655765)) &&& 858993459) + ((((v0 - (((v0).toUInt32 >>> ((1 : Int32).toUInt32 &&& Int32.toUInt32 31)).toInt32 &&& 1431655765))).toUInt32 >>> ((2 : Int32).toUInt32 &&& Int32.toUInt32 31)).toInt32 &&& 858993459))).toUInt32 >>> ((4 : Int32).toUInt32 &&& Int32.toUInt32 31)).toInt32) &&& 252645135) + (((((((v0 - (((v0).toUInt32 >>> ((1 : Int32).toUInt32 &&& Int32.toUInt32 31)).toInt32 &&& 1431655765)) &&& 858993459) + ((((v0 - (((v0).toUInt32 >>> ((1 : Int32).toUInt32 &&& Int32.toUInt32 31)).toInt32 &&& 1431655765))).toUInt32 >>> ((2 : Int32).toUInt32 &&& Int32.toUInt32 31)).toInt32 &&& 858993459)) + (((((v0 - (((v0).toUInt32 >>> ((1 : Int32).toUInt32 &&& Int32.toUInt32 31)).toInt32 &&& 1431655765)) &&& 858993459) + ((((v0 - (((v0).toUInt32 >>> ((1 : Int32).toUInt32 &&& Int32.toUInt32 31)).toInt32 &&& 1431655765))).toUInt32 >>> ((2 : Int32).toUInt32 &&& Int32.toUInt32 31)).toInt32 &&& 858993459))).toUInt32 >>> ((4 : Int32).toUInt32 &&& Int32.toUInt32 31)).toInt32) &&& 252645135)).toUInt32 >>> ((8 : Int32).toUInt32 &&& Int32.toUInt32 31)).toInt32) + ((((((((v0 - (((v0).toUInt32 >>> ((1 : Int32).toUInt32 &&& Int32.toUInt32 31)).toInt32 &&& 1431655765)) &&& 858993459) + ((((v0 - (((v0).toUInt32 >>> ((1 : Int32).toUInt32 &&& Int32.toUInt32 31)).toInt32 &&& 1431655765))).toUInt32 >>> ((2 : Int32).toUInt32 &&& Int32.toUInt32 31)).toInt32 &&& 858993459)) + (((((v0 - (((v0).toUInt32 >>> ((1 : Int32).toUInt32 &&& Int32.toUInt32 31)).toInt32 &&& 1431655765)) &&& 858993459) + ((((v0 - (((v0).toUInt32 >>> ((1 : Int32).toUInt32 &&& Int32.toUInt32 31)).toInt32 &&& 1431655765))).toUInt32 >>> ((2 : Int32).toUInt32 &&& Int32.toUInt32 31)).toInt32 &&& 858993459))).toUInt32 >>> ((4 : Int32).toUInt32 &&& Int32.toUInt32 31)).toInt32) &&& 252645135) + (((((((v0 - (((v0).toUInt32 >>> ((1 : Int32).toUInt32 &&& Int32.toUInt32 31)).toInt32 &&& 1431655765)) &&& 858993459) + ((((v0 - (((v0).toUInt32 >>> ((1 : Int32).toUInt32 &&& Int32.toUInt32 31)).toInt32 &&& 1431655765))).toUInt32 >>> ((2 : Int32).toUInt32 &&& Int32.toUInt32 31)).toInt32 &&& 858993459)) + (((((v0 - (((v0).toUInt32 >>> ((1 : Int32).toUInt32 &&& Int32.toUInt32 31)).toInt32 &&& 1431655765)) &&& 858993459) + ((((v0 - (((v0).toUInt32 >>> ((1 : Int32).toUInt32 &&& Int32.toUInt32 31)).toInt32 &&& 1431655765))).toUInt32 >>> ((2 : Int32).toUInt32 &&& Int32.toUInt32 31)).toInt32 &&& 858993459))).toUInt32 >>> ((4 : Int32).toUInt32 &&& Int32.toUInt32 31)).toInt32) &&& 252645135)).toUInt32 >>> ((8 : Int32).toUInt32 &&& Int32.toUInt32 31)).toInt32)).toUInt32 >>> ((16 : Int32).toUInt32 &&& Int32.toUInt32 31)).toInt32) &&& 63), m)
set_option maxRecDepth 20000 in
theorem T280 {B : zHp} (H : yH0 B) {e : Nat} (he : 1 ≤ e + 1) (F : Nat) {v0 : Int32} {lv : List (Nat × Value)} {m : xS} {x : Int32 × xS} (l0 : zld lv 0 = some (.int v0)) (h : D280 F v0 m = some x) : zR none e 1 (some .int) zc280 (0, lv, []) (xW B m) (some (.int x.1), xW B x.2) := by
  unfold D280 at h
  refine q_li (k := 1) (i := 0) (q := (.iload_n 0, 1, 0, 0, .null)) rfl (fun _ => rfl) l0 ?_
  refine q_li (k := 1) (i := 0) (q := (.iload_n 0, 1, 0, 0, .null)) rfl (fun _ => rfl) l0 ?_
  refine r_s (fr' := (3, lv, [.int 1, .int v0, .int v0])) (hp' := xW B m) (q := (.iconst 1, 1, 0, 0, .null)) rfl (fun _ => rfl) (Nat.le_refl _) ?_
  refine r_s (fr' := (4, lv, [.int ((v0).toUInt32 >>> ((1 : Int32).toUInt32 &&& Int32.toUInt32 31)).toInt32, .int v0])) (hp' := xW B m) (q := (.iushr, 1, 0, 0, .null)) rfl (fun _ => rfl) (Nat.le_refl _) ?_
  refine r_s (fr' := (7, lv, [.int 1431655765, .int ((v0).toUInt32 >>> ((1 : Int32).toUInt32 &&& Int32.toUInt32 31)).toInt32, .int v0])) (hp' := xW B m) (q := (.ldc_w 265, 3, 0, 0, .int 1431655765)) rfl (fun _ => rfl) (Nat.le_refl _) ?_
  refine r_s (fr' := (8, lv, [.int (((v0).toUInt32 >>> ((1 : Int32).toUInt32 &&& Int32.toUInt32 31)).toInt32 &&& 1431655765), .int v0])) (hp' := xW B m) (q := (.iand, 1, 0, 0, .null)) rfl (fun _ => rfl) (Nat.le_refl _) ?_
  refine r_s (fr' := (9, lv, [.int (v0 - (((v0).toUInt32 >>> ((1 : Int32).toUInt32 &&& Int32.toUInt32 31)).toInt32 &&& 1431655765))])) (hp' := xW B m) (q := (.isub, 1, 0, 0, .null)) rfl (fun _ => rfl) (Nat.le_refl _) ?_
  refine q_si (k := 1) (i := 0) (q := (.istore_n 0, 1, 0, 0, .null)) rfl (fun _ => rfl) (by decide) ?_
  have l0_1 : zld (zs1 lv 0 (.int (v0 - (((v0).toUInt32 >>> ((1 : Int32).toUInt32 &&& Int32.toUInt32 31)).toInt32 &&& 1431655765)))) 0 = some (.int (v0 - (((v0).toUInt32 >>> ((1 : Int32).toUInt32 &&& Int32.toUInt32 31)).toInt32 &&& 1431655765))) := zs1_ld _ _ _
  generalize (zs1 lv 0 (.int (v0 - (((v0).toUInt32 >>> ((1 : Int32).toUInt32 &&& Int32.toUInt32 31)).toInt32 &&& 1431655765)))) = lv1 at *
  refine q_li (k := 1) (i := 0) (q := (.iload_n 0, 1, 0, 0, .null)) rfl (fun _ => rfl) l0_1 ?_
  refine r_s (fr' := (14, lv1, [.int 858993459, .int (v0 - (((v0).toUInt32 >>> ((1 : Int32).toUInt32 &&& Int32.toUInt32 31)).toInt32 &&& 1431655765))])) (hp' := xW B m) (q := (.ldc_w 266, 3, 0, 0, .int 858993459)) rfl (fun _ => rfl) (Nat.le_refl _) ?_
  refine r_s (fr' := (15, lv1, [.int ((v0 - (((v0).toUInt32 >>> ((1 : Int32).toUInt32 &&& Int32.toUInt32 31)).toInt32 &&& 1431655765)) &&& 858993459)])) (hp' := xW B m) (q := (.iand, 1, 0, 0, .null)) rfl (fun _ => rfl) (Nat.le_refl _) ?_
  refine q_li (k := 1) (i := 0) (q := (.iload_n 0, 1, 0, 0, .null)) rfl (fun _ => rfl) l0_1 ?_
  refine r_s (fr' := (17, lv1, [.int 2, .int (v0 - (((v0).toUInt32 >>> ((1 : Int32).toUInt32 &&& Int32.toUInt32 31)).toInt32 &&& 1431655765)), .int ((v0 - (((v0).toUInt32 >>> ((1 : Int32).toUInt32 &&& Int32.toUInt32 31)).toInt32 &&& 1431655765)) &&& 858993459)])) (hp' := xW B m) (q := (.iconst 2, 1, 0, 0, .null)) rfl (fun _ => rfl) (Nat.le_refl _) ?_
  refine r_s (fr' := (18, lv1, [.int (((v0 - (((v0).toUInt32 >>> ((1 : Int32).toUInt32 &&& Int32.toUInt32 31)).toInt32 &&& 1431655765))).toUInt32 >>> ((2 : Int32).toUInt32 &&& Int32.toUInt32 31)).toInt32, .int ((v0 - (((v0).toUInt32 >>> ((1 : Int32).toUInt32 &&& Int32.toUInt32 31)).toInt32 &&& 1431655765)) &&& 858993459)])) (hp' := xW B m) (q := (.iushr, 1, 0, 0, .null)) rfl (fun _ => rfl) (Nat.le_refl _) ?_
  refine r_s (fr' := (21, lv1, [.int 858993459, .int (((v0 - (((v0).toUInt32 >>> ((1 : Int32).toUInt32 &&& Int32.toUInt32 31)).toInt32 &&& 1431655765))).toUInt32 >>> ((2 : Int32).toUInt32 &&& Int32.toUInt32 31)).toInt32, .int ((v0 - (((v0).toUInt32 >>> ((1 : Int32).toUInt32 &&& Int32.toUInt32 31)).toInt32 &&& 1431655765)) &&& 858993459)])) (hp' := xW B m) (q := (.ldc_w 266, 3, 0, 0, .int 858993459)) rfl (fun _ => rfl) (Nat.le_refl _) ?_
  refine r_s (fr' := (22, lv1, [.int ((((v0 - (((v0).toUInt32 >>> ((1 : Int32).toUInt32 &&& Int32.toUInt32 31)).toInt32 &&& 1431655765))).toUInt32 >>> ((2 : Int32).toUInt32 &&& Int32.toUInt32 31)).toInt32 &&& 858993459), .int ((v0 - (((v0).toUInt32 >>> ((1 : Int32).toUInt32 &&& Int32.toUInt32 31)).toInt32 &&& 1431655765)) &&& 858993459)])) (hp' := xW B m) (q := (.iand, 1, 0, 0, .null)) rfl (fun _ => rfl) (Nat.le_refl _) ?_
  refine r_s (fr' := (23, lv1, [.int (((v0 - (((v0).toUInt32 >>> ((1 : Int32).toUInt32 &&& Int32.toUInt32 31)).toInt32 &&& 1431655765)) &&& 858993459) + ((((v0 - (((v0).toUInt32 >>> ((1 : Int32).toUInt32 &&& Int32.toUInt32 31)).toInt32 &&& 1431655765))).toUInt32 >>> ((2 : Int32).toUInt32 &&& Int32.toUInt32 31)).toInt32 &&& 858993459))])) (hp' := xW B m) (q := (.iadd, 1, 0, 0, .null)) rfl (fun _ => rfl) (Nat.le_refl _) ?_
  refine q_si (k := 1) (i := 0) (q := (.istore_n 0, 1, 0, 0, .null)) rfl (fun _ => rfl) (by decide) ?_
  have l0_2 : zld (zs1 lv1 0 (.int (((v0 - (((v0).toUInt32 >>> ((1 : Int32).toUInt32 &&& Int32.toUInt32 31)).toInt32 &&& 1431655765)) &&& 858993459) + ((((v0 - (((v0).toUInt32 >>> ((1 : Int32).toUInt32 &&& Int32.toUInt32 31)).toInt32 &&& 1431655765))).toUInt32 >>> ((2 : Int32).toUInt32 &&& Int32.toUInt32 31)).toInt32 &&& 858993459)))) 0 = some (.int (((v0 - (((v0).toUInt32 >>> ((1 : Int32).toUInt32 &&& Int32.toUInt32 31)).toInt32 &&& 1431655765)) &&& 858993459) + ((((v0 - (((v0).toUInt32 >>> ((1 : Int32).toUInt32 &&& Int32.toUInt32 31)).toInt32 &&& 1431655765))).toUInt32 >>> ((2 : Int32).toUInt32 &&& Int32.toUInt32 31)).toInt32 &&& 858993459))) := zs1_ld _ _ _
  generalize (zs1 lv1 0 (.int (((v0 - (((v0).toUInt32 >>> ((1 : Int32).toUInt32 &&& Int32.toUInt32 31)).toInt32 &&& 1431655765)) &&& 858993459) + ((((v0 - (((v0).toUInt32 >>> ((1 : Int32).toUInt32 &&& Int32.toUInt32 31)).toInt32 &&& 1431655765))).toUInt32 >>> ((2 : Int32).toUInt32 &&& Int32.toUInt32 31)).toInt32 &&& 858993459)))) = lv2 at *
  refine q_li (k := 1) (i := 0) (q := (.iload_n 0, 1, 0, 0, .null)) rfl (fun _ => rfl) l0_2 ?_
  refine q_li (k := 1) (i := 0) (q := (.iload_n 0, 1, 0, 0, .null)) rfl (fun _ => rfl) l0_2 ?_
  refine r_s (fr' := (27, lv2, [.int 4, .int (((v0 - (((v0).toUInt32 >>> ((1 : Int32).toUInt32 &&& Int32.toUInt32 31)).toInt32 &&& 1431655765)) &&& 858993459) + ((((v0 - (((v0).toUInt32 >>> ((1 : Int32).toUInt32 &&& Int32.toUInt32 31)).toInt32 &&& 1431655765))).toUInt32 >>> ((2 : Int32).toUInt32 &&& Int32.toUInt32 31)).toInt32 &&& 858993459)), .int (((v0 - (((v0).toUInt32 >>> ((1 : Int32).toUInt32 &&& Int32.toUInt32 31)).toInt32 &&& 1431655765)) &&& 858993459) + ((((v0 - (((v0).toUInt32 >>> ((1 : Int32).toUInt32 &&& Int32.toUInt32 31)).toInt32 &&& 1431655765))).toUInt32 >>> ((2 : Int32).toUInt32 &&& Int32.toUInt32 31)).toInt32 &&& 858993459))])) (hp' := xW B m) (q := (.iconst 4, 1, 0, 0, .null)) rfl (fun _ => rfl) (Nat.le_refl _) ?_
  refine r_s (fr' := (28, lv2, [.int (((((v0 - (((v0).toUInt32 >>> ((1 : Int32).toUInt32 &&& Int32.toUInt32 31)).toInt32 &&& 1431655765)) &&& 858993459) + ((((v0 - (((v0).toUInt32 >>> ((1 : Int32).toUInt32 &&& Int32.toUInt32 31)).toInt32 &&& 1431655765))).toUInt32 >>> ((2 : Int32).toUInt32 &&& Int32.toUInt32 31)).toInt32 &&& 858993459))).toUInt32 >>> ((4 : Int32).toUInt32 &&& Int32.toUInt32 31)).toInt32, .int (((v0 - (((v0).toUInt32 >>> ((1 : Int32).toUInt32 &&& Int32.toUInt32 31)).toInt32 &&& 1431655765)) &&& 858993459) + ((((v0 - (((v0).toUInt32 >>> ((1 : Int32).toUInt32 &&& Int32.toUInt32 31)).toInt32 &&& 1431655765))).toUInt32 >>> ((2 : Int32).toUInt32 &&& Int32.toUInt32 31)).toInt32 &&& 858993459))])) (hp' := xW B m) (q := (.iushr, 1, 0, 0, .null)) rfl (fun _ => rfl) (Nat.le_refl _) ?_
  refine r_s (fr' := (29, lv2, [.int ((((v0 - (((v0).toUInt32 >>> ((1 : Int32).toUInt32 &&& Int32.toUInt32 31)).toInt32 &&& 1431655765)) &&& 858993459) + ((((v0 - (((v0).toUInt32 >>> ((1 : Int32).toUInt32 &&& Int32.toUInt32 31)).toInt32 &&& 1431655765))).toUInt32 >>> ((2 : Int32).toUInt32 &&& Int32.toUInt32 31)).toInt32 &&& 858993459)) + (((((v0 - (((v0).toUInt32 >>> ((1 : Int32).toUInt32 &&& Int32.toUInt32 31)).toInt32 &&& 1431655765)) &&& 858993459) + ((((v0 - (((v0).toUInt32 >>> ((1 : Int32).toUInt32 &&& Int32.toUInt32 31)).toInt32 &&& 1431655765))).toUInt32 >>> ((2 : Int32).toUInt32 &&& Int32.toUInt32 31)).toInt32 &&& 858993459))).toUInt32 >>> ((4 : Int32).toUInt32 &&& Int32.toUInt32 31)).toInt32)])) (hp' := xW B m) (q := (.iadd, 1, 0, 0, .null)) rfl (fun _ => rfl) (Nat.le_refl _) ?_
  refine r_s (fr' := (32, lv2, [.int 252645135, .int ((((v0 - (((v0).toUInt32 >>> ((1 : Int32).toUInt32 &&& Int32.toUInt32 31)).toInt32 &&& 1431655765)) &&& 858993459) + ((((v0 - (((v0).toUInt32 >>> ((1 : Int32).toUInt32 &&& Int32.toUInt32 31)).toInt32 &&& 1431655765))).toUInt32 >>> ((2 : Int32).toUInt32 &&& Int32.toUInt32 31)).toInt32 &&& 858993459)) + (((((v0 - (((v0).toUInt32 >>> ((1 : Int32).toUInt32 &&& Int32.toUInt32 31)).toInt32 &&& 1431655765)) &&& 858993459) + ((((v0 - (((v0).toUInt32 >>> ((1 : Int32).toUInt32 &&& Int32.toUInt32 31)).toInt32 &&& 1431655765))).toUInt32 >>> ((2 : Int32).toUInt32 &&& Int32.toUInt32 31)).toInt32 &&& 858993459))).toUInt32 >>> ((4 : Int32).toUInt32 &&& Int32.toUInt32 31)).toInt32)])) (hp' := xW B m) (q := (.ldc_w 267, 3, 0, 0, .int 252645135)) rfl (fun _ => rfl) (Nat.le_refl _) ?_
  refine r_s (fr' := (33, lv2, [.int (((((v0 - (((v0).toUInt32 >>> ((1 : Int32).toUInt32 &&& Int32.toUInt32 31)).toInt32 &&& 1431655765)) &&& 858993459) + ((((v0 - (((v0).toUInt32 >>> ((1 : Int32).toUInt32 &&& Int32.toUInt32 31)).toInt32 &&& 1431655765))).toUInt32 >>> ((2 : Int32).toUInt32 &&& Int32.toUInt32 31)).toInt32 &&& 858993459)) + (((((v0 - (((v0).toUInt32 >>> ((1 : Int32).toUInt32 &&& Int32.toUInt32 31)).toInt32 &&& 1431655765)) &&& 858993459) + ((((v0 - (((v0).toUInt32 >>> ((1 : Int32).toUInt32 &&& Int32.toUInt32 31)).toInt32 &&& 1431655765))).toUInt32 >>> ((2 : Int32).toUInt32 &&& Int32.toUInt32 31)).toInt32 &&& 858993459))).toUInt32 >>> ((4 : Int32).toUInt32 &&& Int32.toUInt32 31)).toInt32) &&& 252645135)])) (hp' := xW B m) (q := (.iand, 1, 0, 0, .null)) rfl (fun _ => rfl) (Nat.le_refl _) ?_
  refine q_si (k := 1) (i := 0) (q := (.istore_n 0, 1, 0, 0, .null)) rfl (fun _ => rfl) (by decide) ?_
  have l0_3 : zld (zs1 lv2 0 (.int (((((v0 - (((v0).toUInt32 >>> ((1 : Int32).toUInt32 &&& Int32.toUInt32 31)).toInt32 &&& 1431655765)) &&& 858993459) + ((((v0 - (((v0).toUInt32 >>> ((1 : Int32).toUInt32 &&& Int32.toUInt32 31)).toInt32 &&& 1431655765))).toUInt32 >>> ((2 : Int32).toUInt32 &&& Int32.toUInt32 31)).toInt32 &&& 858993459)) + (((((v0 - (((v0).toUInt32 >>> ((1 : Int32).toUInt32 &&& Int32.toUInt32 31)).toInt32 &&& 1431655765)) &&& 858993459) + ((((v0 - (((v0).toUInt32 >>> ((1 : Int32).toUInt32 &&& Int32.toUInt32 31)).toInt32 &&& 1431655765))).toUInt32 >>> ((2 : Int32).toUInt32 &&& Int32.toUInt32 31)).toInt32 &&& 858993459))).toUInt32 >>> ((4 : Int32).toUInt32 &&& Int32.toUInt32 31)).toInt32) &&& 252645135))) 0 = some (.int (((((v0 - (((v0).toUInt32 >>> ((1 : Int32).toUInt32 &&& Int32.toUInt32 31)).toInt32 &&& 1431655765)) &&& 858993459) + ((((v0 - (((v0).toUInt32 >>> ((1 : Int32).toUInt32 &&& Int32.toUInt32 31)).toInt32 &&& 1431655765))).toUInt32 >>> ((2 : Int32).toUInt32 &&& Int32.toUInt32 31)).toInt32 &&& 858993459)) + (((((v0 - (((v0).toUInt32 >>> ((1 : Int32).toUInt32 &&& Int32.toUInt32 31)).toInt32 &&& 1431655765)) &&& 858993459) + ((((v0 - (((v0).toUInt32 >>> ((1 : Int32).toUInt32 &&& Int32.toUInt32 31)).toInt32 &&& 1431655765))).toUInt32 >>> ((2 : Int32).toUInt32 &&& Int32.toUInt32 31)).toInt32 &&& 858993459))).toUInt32 >>> ((4 : Int32).toUInt32 &&& Int32.toUInt32 31)).toInt32) &&& 252645135)) := zs1_ld _ _ _
  generalize (zs1 lv2 0 (.int (((((v0 - (((v0).toUInt32 >>> ((1 : Int32).toUInt32 &&& Int32.toUInt32 31)).toInt32 &&& 1431655765)) &&& 858993459) + ((((v0 - (((v0).toUInt32 >>> ((1 : Int32).toUInt32 &&& Int32.toUInt32 31)).toInt32 &&& 1431655765))).toUInt32 >>> ((2 : Int32).toUInt32 &&& Int32.toUInt32 31)).toInt32 &&& 858993459)) + (((((v0 - (((v0).toUInt32 >>> ((1 : Int32).toUInt32 &&& Int32.toUInt32 31)).toInt32 &&& 1431655765)) &&& 858993459) + ((((v0 - (((v0).toUInt32 >>> ((1 : Int32).toUInt32 &&& Int32.toUInt32 31)).toInt32 &&& 1431655765))).toUInt32 >>> ((2 : Int32).toUInt32 &&& Int32.toUInt32 31)).toInt32 &&& 858993459))).toUInt32 >>> ((4 : Int32).toUInt32 &&& Int32.toUInt32 31)).toInt32) &&& 252645135))) = lv3 at *
  refine q_li (k := 1) (i := 0) (q := (.iload_n 0, 1, 0, 0, .null)) rfl (fun _ => rfl) l0_3 ?_
  refine q_li (k := 1) (i := 0) (q := (.iload_n 0, 1, 0, 0, .null)) rfl (fun _ => rfl) l0_3 ?_
  refine r_s (fr' := (38, lv3, [.int 8, .int (((((v0 - (((v0).toUInt32 >>> ((1 : Int32).toUInt32 &&& Int32.toUInt32 31)).toInt32 &&& 1431655765)) &&& 858993459) + ((((v0 - (((v0).toUInt32 >>> ((1 : Int32).toUInt32 &&& Int32.toUInt32 31)).toInt32 &&& 1431655765))).toUInt32 >>> ((2 : Int32).toUInt32 &&& Int32.toUInt32 31)).toInt32 &&& 858993459)) + (((((v0 - (((v0).toUInt32 >>> ((1 : Int32).toUInt32 &&& Int32.toUInt32 31)).toInt32 &&& 1431655765)) &&& 858993459) + ((((v0 - (((v0).toUInt32 >>> ((1 : Int32).toUInt32 &&& Int32.toUInt32 31)).toInt32 &&& 1431655765))).toUInt32 >>> ((2 : Int32).toUInt32 &&& Int32.toUInt32 31)).toInt32 &&& 858993459))).toUInt32 >>> ((4 : Int32).toUInt32 &&& Int32.toUInt32 31)).toInt32) &&& 252645135), .int (((((v0 - (((v0).toUInt32 >>> ((1 : Int32).toUInt32 &&& Int32.toUInt32 31)).toInt32 &&& 1431655765)) &&& 858993459) + ((((v0 - (((v0).toUInt32 >>> ((1 : Int32).toUInt32 &&& Int32.toUInt32 31)).toInt32 &&& 1431655765))).toUInt32 >>> ((2 : Int32).toUInt32 &&& Int32.toUInt32 31)).toInt32 &&& 858993459)) + (((((v0 - (((v0).toUInt32 >>> ((1 : Int32).toUInt32 &&& Int32.toUInt32 31)).toInt32 &&& 1431655765)) &&& 858993459) + ((((v0 - (((v0).toUInt32 >>> ((1 : Int32).toUInt32 &&& Int32.toUInt32 31)).toInt32 &&& 1431655765))).toUInt32 >>> ((2 : Int32).toUInt32 &&& Int32.toUInt32 31)).toInt32 &&& 858993459))).toUInt32 >>> ((4 : Int32).toUInt32 &&& Int32.toUInt32 31)).toInt32) &&& 252645135)])) (hp' := xW B m) (q := (.bipush 8, 2, 0, 0, .null)) rfl (fun _ => rfl) (Nat.le_refl _) ?_
  refine r_s (fr' := (39, lv3, [.int (((((((v0 - (((v0).toUInt32 >>> ((1 : Int32).toUInt32 &&& Int32.toUInt32 31)).toInt32 &&& 1431655765)) &&& 858993459) + ((((v0 - (((v0).toUInt32 >>> ((1 : Int32).toUInt32 &&& Int32.toUInt32 31)).toInt32 &&& 1431655765))).toUInt32 >>> ((2 : Int32).toUInt32 &&& Int32.toUInt32 31)).toInt32 &&& 858993459)) + (((((v0 - (((v0).toUInt32 >>> ((1 : Int32).toUInt32 &&& Int32.toUInt32 31)).toInt32 &&& 1431655765)) &&& 858993459) + ((((v0 - (((v0).toUInt32 >>> ((1 : Int32).toUInt32 &&& Int32.toUInt32 31)).toInt32 &&& 1431655765))).toUInt32 >>> ((2 : Int32).toUInt32 &&& Int32.toUInt32 31)).toInt32 &&& 858993459))).toUInt32 >>> ((4 : Int32).toUInt32 &&& Int32.toUInt32 31)).toInt32) &&& 252645135)).toUInt32 >>> ((8 : Int32).toUInt32 &&& Int32.toUInt32 31)).toInt32, .int (((((v0 - (((v0).toUInt32 >>> ((1 : Int32).toUInt32 &&& Int32.toUInt32 31)).toInt32 &&& 1431655765)) &&& 858993459) + ((((v0 - (((v0).toUInt32 >>> ((1 : Int32).toUInt32 &&& Int32.toUInt32 31)).toInt32 &&& 1431655765))).toUInt32 >>> ((2 : Int32).toUInt32 &&& Int32.toUInt32 31)).toInt32 &&& 858993459)) + (((((v0 - (((v0).toUInt32 >>> ((1 : Int32).toUInt32 &&& Int32.toUInt32 31)).toInt32 &&& 1431655765)) &&& 858993459) + ((((v0 - (((v0).toUInt32 >>> ((1 : Int32).toUInt32 &&& Int32.toUInt32 31)).toInt32 &&& 1431655765))).toUInt32 >>> ((2 : Int32).toUInt32 &&& Int32.toUInt32 31)).toInt32 &&& 858993459))).toUInt32 >>> ((4 : Int32).toUInt32 &&& Int32.toUInt32 31)).toInt32) &&& 252645135)])) (hp' := xW B m) (q := (.iushr, 1, 0, 0, .null)) rfl (fun _ => rfl) (Nat.le_refl _) ?_
  refine r_s (fr' := (40, lv3, [.int ((((((v0 - (((v0).toUInt32 >>> ((1 : Int32).toUInt32 &&& Int32.toUInt32 31)).toInt32 &&& 1431655765)) &&& 858993459) + ((((v0 - (((v0).toUInt32 >>> ((1 : Int32).toUInt32 &&& Int32.toUInt32 31)).toInt32 &&& 1431655765))).toUInt32 >>> ((2 : Int32).toUInt32 &&& Int32.toUInt32 31)).toInt32 &&& 858993459)) + (((((v0 - (((v0).toUInt32 >>> ((1 : Int32).toUInt32 &&& Int32.toUInt32 31)).toInt32 &&& 1431655765)) &&& 858993459) + ((((v0 - (((v0).toUInt32 >>> ((1 : Int32).toUInt32 &&& Int32.toUInt32 31)).toInt32 &&& 1431655765))).toUInt32 >>> ((2 : Int32).toUInt32 &&& Int32.toUInt32 31)).toInt32 &&& 858993459))).toUInt32 >>> ((4 : Int32).toUInt32 &&& Int32.toUInt32 31)).toInt32) &&& 252645135) + (((((((v0 - (((v0).toUInt32 >>> ((1 : Int32).toUInt32 &&& Int32.toUInt32 31)).toInt32 &&& 1431655765)) &&& 858993459) + ((((v0 - (((v0).toUInt32 >>> ((1 : Int32).toUInt32 &&& Int32.toUInt32 31)).toInt32 &&& 1431655765))).toUInt32 >>> ((2 : Int32).toUInt32 &&& Int32.toUInt32 31)).toInt32 &&& 858993459)) + (((((v0 - (((v0).toUInt32 >>> ((1 : Int32).toUInt32 &&& Int32.toUInt32 31)).toInt32 &&& 1431655765)) &&& 858993459) + ((((v0 - (((v0).toUInt32 >>> ((1 : Int32).toUInt32 &&& Int32.toUInt32 31)).toInt32 &&& 1431655765))).toUInt32 >>> ((2 : Int32).toUInt32 &&& Int32.toUInt32 31)).toInt32 &&& 858993459))).toUInt32 >>> ((4 : Int32).toUInt32 &&& Int32.toUInt32 31)).toInt32) &&& 252645135)).toUInt32 >>> ((8 : Int32).toUInt32 &&& Int32.toUInt32 31)).toInt32)])) (hp' := xW B m) (q := (.iadd, 1, 0, 0, .null)) rfl (fun _ => rfl) (Nat.le_refl _) ?_
  refine q_si (k := 1) (i := 0) (q := (.istore_n 0, 1, 0, 0, .null)) rfl (fun _ => rfl) (by decide) ?_
  have l0_4 : zld (zs1 lv3 0 (.int ((((((v0 - (((v0).toUInt32 >>> ((1 : Int32).toUInt32 &&& Int32.toUInt32 31)).toInt32 &&& 1431655765)) &&& 858993459) + ((((v0 - (((v0).toUInt32 >>> ((1 : Int32).toUInt32 &&& Int32.toUInt32 31)).toInt32 &&& 1431655765))).toUInt32 >>> ((2 : Int32).toUInt32 &&& Int32.toUInt32 31)).toInt32 &&& 858993459)) + (((((v0 - (((v0).toUInt32 >>> ((1 : Int32).toUInt32 &&& Int32.toUInt32 31)).toInt32 &&& 1431655765)) &&& 858993459) + ((((v0 - (((v0).toUInt32 >>> ((1 : Int32).toUInt32 &&& Int32.toUInt32 31)).toInt32 &&& 1431655765))).toUInt32 >>> ((2 : Int32).toUInt32 &&& Int32.toUInt32 31)).toInt32 &&& 858993459))).toUInt32 >>> ((4 : Int32).toUInt32 &&& Int32.toUInt32 31)).toInt32) &&& 252645135) + (((((((v0 - (((v0).toUInt32 >>> ((1 : Int32).toUInt32 &&& Int32.toUInt32 31)).toInt32 &&& 1431655765)) &&& 858993459) + ((((v0 - (((v0).toUInt32 >>> ((1 : Int32).toUInt32 &&& Int32.toUInt32 31)).toInt32 &&& 1431655765))).toUInt32 >>> ((2 : Int32).toUInt32 &&& Int32.toUInt32 31)).toInt32 &&& 858993459)) + (((((v0 - (((v0).toUInt32 >>> ((1 : Int32).toUInt32 &&& Int32.toUInt32 31)).toInt32 &&& 1431655765)) &&& 858993459) + ((((v0 - (((v0).toUInt32 >>> ((1 : Int32).toUInt32 &&& Int32.toUInt32 31)).toInt32 &&& 1431655765))).toUInt32 >>> ((2 : Int32).toUInt32 &&& Int32.toUInt32 31)).toInt32 &&& 858993459))).toUInt32 >>> ((4 : Int32).toUInt32 &&& Int32.toUInt32 31)).toInt32) &&& 252645135)).toUInt32 >>> ((8 : Int32).toUInt32 &&& Int32.toUInt32 31)).toInt32))) 0 = some (.int ((((((v0 - (((v0).toUInt32 >>> ((1 : Int32).toUInt32 &&& Int32.toUInt32 31)).toInt32 &&& 1431655765)) &&& 858993459) + ((((v0 - (((v0).toUInt32 >>> ((1 : Int32).toUInt32 &&& Int32.toUInt32 31)).toInt32 &&& 1431655765))).toUInt32 >>> ((2 : Int32).toUInt32 &&& Int32.toUInt32 31)).toInt32 &&& 858993459)) + (((((v0 - (((v0).toUInt32 >>> ((1 : Int32).toUInt32 &&& Int32.toUInt32 31)).toInt32 &&& 1431655765)) &&& 858993459) + ((((v0 - (((v0).toUInt32 >>> ((1 : Int32).toUInt32 &&& Int32.toUInt32 31)).toInt32 &&& 1431655765))).toUInt32 >>> ((2 : Int32).toUInt32 &&& Int32.toUInt32 31)).toInt32 &&& 858993459))).toUInt32 >>> ((4 : Int32).toUInt32 &&& Int32.toUInt32 31)).toInt32) &&& 252645135) + (((((((v0 - (((v0).toUInt32 >>> ((1 : Int32).toUInt32 &&& Int32.toUInt32 31)).toInt32 &&& 1431655765)) &&& 858993459) + ((((v0 - (((v0).toUInt32 >>> ((1 : Int32).toUInt32 &&& Int32.toUInt32 31)).toInt32 &&& 1431655765))).toUInt32 >>> ((2 : Int32).toUInt32 &&& Int32.toUInt32 31)).toInt32 &&& 858993459)) + (((((v0 - (((v0).toUInt32 >>> ((1 : Int32).toUInt32 &&& Int32.toUInt32 31)).toInt32 &&& 1431655765)) &&& 858993459) + ((((v0 - (((v0).toUInt32 >>> ((1 : Int32).toUInt32 &&& Int32.toUInt32 31)).toInt32 &&& 1431655765))).toUInt32 >>> ((2 : Int32).toUInt32 &&& Int32.toUInt32 31)).toInt32 &&& 858993459))).toUInt32 >>> ((4 : Int32).toUInt32 &&& Int32.toUInt32 31)).toInt32) &&& 252645135)).toUInt32 >>> ((8 : Int32).toUInt32 &&& Int32.toUInt32 31)).toInt32)) := zs1_ld _ _ _
  generalize (zs1 lv3 0 (.int ((((((v0 - (((v0).toUInt32 >>> ((1 : Int32).toUInt32 &&& Int32.toUInt32 31)).toInt32 &&& 1431655765)) &&& 858993459) + ((((v0 - (((v0).toUInt32 >>> ((1 : Int32).toUInt32 &&& Int32.toUInt32 31)).toInt32 &&& 1431655765))).toUInt32 >>> ((2 : Int32).toUInt32 &&& Int32.toUInt32 31)).toInt32 &&& 858993459)) + (((((v0 - (((v0).toUInt32 >>> ((1 : Int32).toUInt32 &&& Int32.toUInt32 31)).toInt32 &&& 1431655765)) &&& 858993459) + ((((v0 - (((v0).toUInt32 >>> ((1 : Int32).toUInt32 &&& Int32.toUInt32 31)).toInt32 &&& 1431655765))).toUInt32 >>> ((2 : Int32).toUInt32 &&& Int32.toUInt32 31)).toInt32 &&& 858993459))).toUInt32 >>> ((4 : Int32).toUInt32 &&& Int32.toUInt32 31)).toInt32) &&& 252645135) + (((((((v0 - (((v0).toUInt32 >>> ((1 : Int32).toUInt32 &&& Int32.toUInt32 31)).toInt32 &&& 1431655765)) &&& 858993459) + ((((v0 - (((v0).toUInt32 >>> ((1 : Int32).toUInt32 &&& Int32.toUInt32 31)).toInt32 &&& 1431655765))).toUInt32 >>> ((2 : Int32).toUInt32 &&& Int32.toUInt32 31)).toInt32 &&& 858993459)) + (((((v0 - (((v0).toUInt32 >>> ((1 : Int32).toUInt32 &&& Int32.toUInt32 31)).toInt32 &&& 1431655765)) &&& 858993459) + ((((v0 - (((v0).toUInt32 >>> ((1 : Int32).toUInt32 &&& Int32.toUInt32 31)).toInt32 &&& 1431655765))).toUInt32 >>> ((2 : Int32).toUInt32 &&& Int32.toUInt32 31)).toInt32 &&& 858993459))).toUInt32 >>> ((4 : Int32).toUInt32 &&& Int32.toUInt32 31)).toInt32) &&& 252645135)).toUInt32 >>> ((8 : Int32).toUInt32 &&& Int32.toUInt32 31)).toInt32))) = lv4 at *
  refine q_li (k := 1) (i := 0) (q := (.iload_n 0, 1, 0, 0, .null)) rfl (fun _ => rfl) l0_4 ?_
  refine q_li (k := 1) (i := 0) (q := (.iload_n 0, 1, 0, 0, .null)) rfl (fun _ => rfl) l0_4 ?_
  refine r_s (fr' := (45, lv4, [.int 16, .int ((((((v0 - (((v0).toUInt32 >>> ((1 : Int32).toUInt32 &&& Int32.toUInt32 31)).toInt32 &&& 1431655765)) &&& 858993459) + ((((v0 - (((v0).toUInt32 >>> ((1 : Int32).toUInt32 &&& Int32.toUInt32 31)).toInt32 &&& 1431655765))).toUInt32 >>> ((2 : Int32).toUInt32 &&& Int32.toUInt32 31)).toInt32 &&& 858993459)) + (((((v0 - (((v0).toUInt32 >>> ((1 : Int32).toUInt32 &&& Int32.toUInt32 31)).toInt32 &&& 1431655765)) &&& 858993459) + ((((v0 - (((v0).toUInt32 >>> ((1 : Int32).toUInt32 &&& Int32.toUInt32 31)).toInt32 &&& 1431655765))).toUInt32 >>> ((2 : Int32).toUInt32 &&& Int32.toUInt32 31)).toInt32 &&& 858993459))).toUInt32 >>> ((4 : Int32).toUInt32 &&& Int32.toUInt32 31)).toInt32) &&& 252645135) + (((((((v0 - (((v0).toUInt32 >>> ((1 : Int32).toUInt32 &&& Int32.toUInt32 31)).toInt32 &&& 1431655765)) &&& 858993459) + ((((v0 - (((v0).toUInt32 >>> ((1 : Int32).toUInt32 &&& Int32.toUInt32 31)).toInt32 &&& 1431655765))).toUInt32 >>> ((2 : Int32).toUInt32 &&& Int32.toUInt32 31)).toInt32 &&& 858993459)) + (((((v0 - (((v0).toUInt32 >>> ((1 : Int32).toUInt32 &&& Int32.toUInt32 31)).toInt32 &&& 1431655765)) &&& 858993459) + ((((v0 - (((v0).toUInt32 >>> ((1 : Int32).toUInt32 &&& Int32.toUInt32 31)).toInt32 &&& 1431655765))).toUInt32 >>> ((2 : Int32).toUInt32 &&& Int32.toUInt32 31)).toInt32 &&& 858993459))).toUInt32 >>> ((4 : Int32).toUInt32 &&& Int32.toUInt32 31)).toInt32) &&& 252645135)).toUInt32 >>> ((8 : Int32).toUInt32 &&& Int32.toUInt32 31)).toInt32), .int ((((((v0 - (((v0).toUInt32 >>> ((1 : Int32).toUInt32 &&& Int32.toUInt32 31)).toInt32 &&& 1431655765)) &&& 858993459) + ((((v0 - (((v0).toUInt32 >>> ((1 : Int32).toUInt32 &&& Int32.toUInt32 31)).toInt32 &&& 1431655765))).toUInt32 >>> ((2 : Int32).toUInt32 &&& Int32.toUInt32 31)).toInt32 &&& 858993459)) + (((((v0 - (((v0).toUInt32 >>> ((1 : Int32).toUInt32 &&& Int32.toUInt32 31)).toInt32 &&& 1431655765)) &&& 858993459) + ((((v0 - (((v0).toUInt32 >>> ((1 : Int32).toUInt32 &&& Int32.toUInt32 31)).toInt32 &&& 1431655765))).toUInt32 >>> ((2 : Int32).toUInt32 &&& Int32.toUInt32 31)).toInt32 &&& 858993459))).toUInt32 >>> ((4 : Int32).toUInt32 &&& Int32.toUInt32 31)).toInt32) &&& 252645135) + (((((((v0 - (((v0).toUInt32 >>> ((1 : Int32).toUInt32 &&& Int32.toUInt32 31)).toInt32 &&& 1431655765)) &&& 858993459) + ((((v0 - (((v0).toUInt32 >>> ((1 : Int32).toUInt32 &&& Int32.toUInt32 31)).toInt32 &&& 1431655765))).toUInt32 >>> ((2 : Int32).toUInt32 &&& Int32.toUInt32 31)).toInt32 &&& 858993459)) + (((((v0 - (((v0).toUInt32 >>> ((1 : Int32).toUInt32 &&& Int32.toUInt32 31)).toInt32 &&& 1431655765)) &&& 858993459) + ((((v0 - (((v0).toUInt32 >>> ((1 : Int32).toUInt32 &&& Int32.toUInt32 31)).toInt32 &&& 1431655765))).toUInt32 >>> ((2 : Int32).toUInt32 &&& Int32.toUInt32 31)).toInt32 &&& 858993459))).toUInt32 >>> ((4 : Int32).toUInt32 &&& Int32.toUInt32 31)).toInt32) &&& 252645135)).toUInt32 >>> ((8 : Int32).toUInt32 &&& Int32.toUInt32 31)).toInt32)])) (hp' := xW B m) (q := (.bipush 16, 2, 0, 0, .null)) rfl (fun _ => rfl) (Nat.le_refl _) ?_
  refine r_s (fr' := (46, lv4, [.int ((((((((v0 - (((v0).toUInt32 >>> ((1 : Int32).toUInt32 &&& Int32.toUInt32 31)).toInt32 &&& 1431655765)) &&& 858993459) + ((((v0 - (((v0).toUInt32 >>> ((1 : Int32).toUInt32 &&& Int32.toUInt32 31)).toInt32 &&& 1431655765))).toUInt32 >>> ((2 : Int32).toUInt32 &&& Int32.toUInt32 31)).toInt32 &&& 858993459)) + (((((v0 - (((v0).toUInt32 >>> ((1 : Int32).toUInt32 &&& Int32.toUInt32 31)).toInt32 &&& 1431655765)) &&& 858993459) + ((((v0 - (((v0).toUInt32 >>> ((1 : Int32).toUInt32 &&& Int32.toUInt32 31)).toInt32 &&& 1431655765))).toUInt32 >>> ((2 : Int32).toUInt32 &&& Int32.toUInt32 31)).toInt32 &&& 858993459))).toUInt32 >>> ((4 : Int32).toUInt32 &&& Int32.toUInt32 31)).toInt32) &&& 252645135) + (((((((v0 - (((v0).toUInt32 >>> ((1 : Int32).toUInt32 &&& Int32.toUInt32 31)).toInt32 &&& 1431655765)) &&& 858993459) + ((((v0 - (((v0).toUInt32 >>> ((1 : Int32).toUInt32 &&& Int32.toUInt32 31)).toInt32 &&& 1431655765))).toUInt32 >>> ((2 : Int32).toUInt32 &&& Int32.toUInt32 31)).toInt32 &&& 858993459)) + (((((v0 - (((v0).toUInt32 >>> ((1 : Int32).toUInt32 &&& Int32.toUInt32 31)).toInt32 &&& 1431655765)) &&& 858993459) + ((((v0 - (((v0).toUInt32 >>> ((1 : Int32).toUInt32 &&& Int32.toUInt32 31)).toInt32 &&& 1431655765))).toUInt32 >>> ((2 : Int32).toUInt32 &&& Int32.toUInt32 31)).toInt32 &&& 858993459))).toUInt32 >>> ((4 : Int32).toUInt32 &&& Int32.toUInt32 31)).toInt32) &&& 252645135)).toUInt32 >>> ((8 : Int32).toUInt32 &&& Int32.toUInt32 31)).toInt32)).toUInt32 >>> ((16 : Int32).toUInt32 &&& Int32.toUInt32 31)).toInt32, .int ((((((v0 - (((v0).toUInt32 >>> ((1 : Int32).toUInt32 &&& Int32.toUInt32 31)).toInt32 &&& 1431655765)) &&& 858993459) + ((((v0 - (((v0).toUInt32 >>> ((1 : Int32).toUInt32 &&& Int32.toUInt32 31)).toInt32 &&& 1431655765))).toUInt32 >>> ((2 : Int32).toUInt32 &&& Int32.toUInt32 31)).toInt32 &&& 858993459)) + (((((v0 - (((v0).toUInt32 >>> ((1 : Int32).toUInt32 &&& Int32.toUInt32 31)).toInt32 &&& 1431655765)) &&& 858993459) + ((((v0 - (((v0).toUInt32 >>> ((1 : Int32).toUInt32 &&& Int32.toUInt32 31)).toInt32 &&& 1431655765))).toUInt32 >>> ((2 : Int32).toUInt32 &&& Int32.toUInt32 31)).toInt32 &&& 858993459))).toUInt32 >>> ((4 : Int32).toUInt32 &&& Int32.toUInt32 31)).toInt32) &&& 252645135) + (((((((v0 - (((v0).toUInt32 >>> ((1 : Int32).toUInt32 &&& Int32.toUInt32 31)).toInt32 &&& 1431655765)) &&& 858993459) + ((((v0 - (((v0).toUInt32 >>> ((1 : Int32).toUInt32 &&& Int32.toUInt32 31)).toInt32 &&& 1431655765))).toUInt32 >>> ((2 : Int32).toUInt32 &&& Int32.toUInt32 31)).toInt32 &&& 858993459)) + (((((v0 - (((v0).toUInt32 >>> ((1 : Int32).toUInt32 &&& Int32.toUInt32 31)).toInt32 &&& 1431655765)) &&& 858993459) + ((((v0 - (((v0).toUInt32 >>> ((1 : Int32).toUInt32 &&& Int32.toUInt32 31)).toInt32 &&& 1431655765))).toUInt32 >>> ((2 : Int32).toUInt32 &&& Int32.toUInt32 31)).toInt32 &&& 858993459))).toUInt32 >>> ((4 : Int32).toUInt32 &&& Int32.toUInt32 31)).toInt32) &&& 252645135)).toUInt32 >>> ((8 : Int32).toUInt32 &&& Int32.toUInt32 31)).toInt32)])) (hp' := xW B m) (q := (.iushr, 1, 0, 0, .null)) rfl (fun _ => rfl) (Nat.le_refl _) ?_
  refine r_s (fr' := (47, lv4, [.int (((((((v0 - (((v0).toUInt32 >>> ((1 : Int32).toUInt32 &&& Int32.toUInt32 31)).toInt32 &&& 1431655765)) &&& 858993459) + ((((v0 - (((v0).toUInt32 >>> ((1 : Int32).toUInt32 &&& Int32.toUInt32 31)).toInt32 &&& 1431655765))).toUInt32 >>> ((2 : Int32).toUInt32 &&& Int32.toUInt32 31)).toInt32 &&& 858993459)) + (((((v0 - (((v0).toUInt32 >>> ((1 : Int32).toUInt32 &&& Int32.toUInt32 31)).toInt32 &&& 1431655765)) &&& 858993459) + ((((v0 - (((v0).toUInt32 >>> ((1 : Int32).toUInt32 &&& Int32.toUInt32 31)).toInt32 &&& 1431655765))).toUInt32 >>> ((2 : Int32).toUInt32 &&& Int32.toUInt32 31)).toInt32 &&& 858993459))).toUInt32 >>> ((4 : Int32).toUInt32 &&& Int32.toUInt32 31)).toInt32) &&& 252645135) + (((((((v0 - (((v0).toUInt32 >>> ((1 : Int32).toUInt32 &&& Int32.toUInt32 31)).toInt32 &&& 1431655765)) &&& 858993459) + ((((v0 - (((v0).toUInt32 >>> ((1 : Int32).toUInt32 &&& Int32.toUInt32 31)).toInt32 &&& 1431655765))).toUInt32 >>> ((2 : Int32).toUInt32 &&& Int32.toUInt32 31)).toInt32 &&& 858993459)) + (((((v0 - (((v0).toUInt32 >>> ((1 : Int32).toUInt32 &&& Int32.toUInt32 31)).toInt32 &&& 1431655765)) &&& 858993459) + ((((v0 - (((v0).toUInt32 >>> ((1 : Int32).toUInt32 &&& Int32.toUInt32 31)).toInt32 &&& 1431655765))).toUInt32 >>> ((2 : Int32).toUInt32 &&& Int32.toUInt32 31)).toInt32 &&& 858993459))).toUInt32 >>> ((4 : Int32).toUInt32 &&& Int32.toUInt32 31)).toInt32) &&& 252645135)).toUInt32 >>> ((8 : Int32).toUInt32 &&& Int32.toUInt32 31)).toInt32) + ((((((((v0 - (((v0).toUInt32 >>> ((1 : Int32).toUInt32 &&& Int32.toUInt32 31)).toInt32 &&& 1431655765)) &&& 858993459) + ((((v0 - (((v0).toUInt32 >>> ((1 : Int32).toUInt32 &&& Int32.toUInt32 31)).toInt32 &&& 1431655765))).toUInt32 >>> ((2 : Int32).toUInt32 &&& Int32.toUInt32 31)).toInt32 &&& 858993459)) + (((((v0 - (((v0).toUInt32 >>> ((1 : Int32).toUInt32 &&& Int32.toUInt32 31)).toInt32 &&& 1431655765)) &&& 858993459) + ((((v0 - (((v0).toUInt32 >>> ((1 : Int32).toUInt32 &&& Int32.toUInt32 31)).toInt32 &&& 1431655765))).toUInt32 >>> ((2 : Int32).toUInt32 &&& Int32.toUInt32 31)).toInt32 &&& 858993459))).toUInt32 >>> ((4 : Int32).toUInt32 &&& Int32.toUInt32 31)).toInt32) &&& 252645135) + (((((((v0 - (((v0).toUInt32 >>> ((1 : Int32).toUInt32 &&& Int32.toUInt32 31)).toInt32 &&& 1431655765)) &&& 858993459) + ((((v0 - (((v0).toUInt32 >>> ((1 : Int32).toUInt32 &&& Int32.toUInt32 31)).toInt32 &&& 1431655765))).toUInt32 >>> ((2 : Int32).toUInt32 &&& Int32.toUInt32 31)).toInt32 &&& 858993459)) + (((((v0 - (((v0).toUInt32 >>> ((1 : Int32).toUInt32 &&& Int32.toUInt32 31)).toInt32 &&& 1431655765)) &&& 858993459) + ((((v0 - (((v0).toUInt32 >>> ((1 : Int32).toUInt32 &&& Int32.toUInt32 31)).toInt32 &&& 1431655765))).toUInt32 >>> ((2 : Int32).toUInt32 &&& Int32.toUInt32 31)).toInt32 &&& 858993459))).toUInt32 >>> ((4 : Int32).toUInt32 &&& Int32.toUInt32 31)).toInt32) &&& 252645135)).toUInt32 >>> ((8 : Int32).toUInt32 &&& Int32.toUInt32 31)).toInt32)).toUInt32 >>> ((16 : Int32).toUInt32 &&& Int32.toUInt32 31)).toInt32)])) (hp' := xW B m) (q := (.iadd, 1, 0, 0, .null)) rfl (fun _ => rfl) (Nat.le_refl _) ?_
  refine q_si (k := 1) (i := 0) (q := (.istore_n 0, 1, 0, 0, .null)) rfl (fun _ => rfl) (by decide) ?_
  have l0_5 : zld (zs1 lv4 0 (.int (((((((v0 - (((v0).toUInt32 >>> ((1 : Int32).toUInt32 &&& Int32.toUInt32 31)).toInt32 &&& 1431655765)) &&& 858993459) + ((((v0 - (((v0).toUInt32 >>> ((1 : Int32).toUInt32 &&& Int32.toUInt32 31)).toInt32 &&& 1431655765))).toUInt32 >>> ((2 : Int32).toUInt32 &&& Int32.toUInt32 31)).toInt32 &&& 858993459)) + (((((v0 - (((v0).toUInt32 >>> ((1 : Int32).toUInt32 &&& Int32.toUInt32 31)).toInt32 &&& 1431655765)) &&& 858993459) + ((((v0 - (((v0).toUInt32 >>> ((1 : Int32).toUInt32 &&& Int32.toUInt32 31)).toInt32 &&& 1431655765))).toUInt32 >>> ((2 : Int32).toUInt32 &&& Int32.toUInt32 31)).toInt32 &&& 858993459))).toUInt32 >>> ((4 : Int32).toUInt32 &&& Int32.toUInt32 31)).toInt32) &&& 252645135) + (((((((v0 - (((v0).toUInt32 >>> ((1 : Int32).toUInt32 &&& Int32.toUInt32 31)).toInt32 &&& 1431655765)) &&& 858993459) + ((((v0 - (((v0).toUInt32 >>> ((1 : Int32).toUInt32 &&& Int32.toUInt32 31)).toInt32 &&& 1431655765))).toUInt32 >>> ((2 : Int32).toUInt32 &&& Int32.toUInt32 31)).toInt32 &&& 858993459)) + (((((v0 - (((v0).toUInt32 >>> ((1 : Int32).toUInt32 &&& Int32.toUInt32 31)).toInt32 &&& 1431655765)) &&& 858993459) + ((((v0 - (((v0).toUInt32 >>> ((1 : Int32).toUInt32 &&& Int32.toUInt32 31)).toInt32 &&& 1431655765))).toUInt32 >>> ((2 : Int32).toUInt32 &&& Int32.toUInt32 31)).toInt32 &&& 858993459))).toUInt32 >>> ((4 : Int32).toUInt32 &&& Int32.toUInt32 31)).toInt32) &&& 252645135)).toUInt32 >>> ((8 : Int32).toUInt32 &&& Int32.toUInt32 31)).toInt32) + ((((((((v0 - (((v0).toUInt32 >>> ((1 : Int32).toUInt32 &&& Int32.toUInt32 31)).toInt32 &&& 1431655765)) &&& 858993459) + ((((v0 - (((v0).toUInt32 >>> ((1 : Int32).toUInt32 &&& Int32.toUInt32 31)).toInt32 &&& 1431655765))).toUInt32 >>> ((2 : Int32).toUInt32 &&& Int32.toUInt32 31)).toInt32 &&& 858993459)) + (((((v0 - (((v0).toUInt32 >>> ((1 : Int32).toUInt32 &&& Int32.toUInt32 31)).toInt32 &&& 1431655765)) &&& 858993459) + ((((v0 - (((v0).toUInt32 >>> ((1 : Int32).toUInt32 &&& Int32.toUInt32 31)).toInt32 &&& 1431655765))).toUInt32 >>> ((2 : Int32).toUInt32 &&& Int32.toUInt32 31)).toInt32 &&& 858993459))).toUInt32 >>> ((4 : Int32).toUInt32 &&& Int32.toUInt32 31)).toInt32) &&& 252645135) + (((((((v0 - (((v0).toUInt32 >>> ((1 : Int32).toUInt32 &&& Int32.toUInt32 31)).toInt32 &&& 1431655765)) &&& 858993459) + ((((v0 - (((v0).toUInt32 >>> ((1 : Int32).toUInt32 &&& Int32.toUInt32 31)).toInt32 &&& 1431655765))).toUInt32 >>> ((2 : Int32).toUInt32 &&& Int32.toUInt32 31)).toInt32 &&& 858993459)) + (((((v0 - (((v0).toUInt32 >>> ((1 : Int32).toUInt32 &&& Int32.toUInt32 31)).toInt32 &&& 1431655765)) &&& 858993459) + ((((v0 - (((v0).toUInt32 >>> ((1 : Int32).toUInt32 &&& Int32.toUInt32 31)).toInt32 &&& 1431655765))).toUInt32 >>> ((2 : Int32).toUInt32 &&& Int32.toUInt32 31)).toInt32 &&& 858993459))).toUInt32 >>> ((4 : Int32).toUInt32 &&& Int32.toUInt32 31)).toInt32) &&& 252645135)).toUInt32 >>> ((8 : Int32).toUInt32 &&& Int32.toUInt32 31)).toInt32)).toUInt32 >>> ((16 : Int32).toUInt32 &&& Int32.toUInt32 31)).toInt32))) 0 = some (.int (((((((v0 - (((v0).toUInt32 >>> ((1 : Int32).toUInt32 &&& Int32.toUInt32 31)).toInt32 &&& 1431655765)) &&& 858993459) + ((((v0 - (((v0).toUInt32 >>> ((1 : Int32).toUInt32 &&& Int32.toUInt32 31)).toInt32 &&& 1431655765))).toUInt32 >>> ((2 : Int32).toUInt32 &&& Int32.toUInt32 31)).toInt32 &&& 858993459)) + (((((v0 - (((v0).toUInt32 >>> ((1 : Int32).toUInt32 &&& Int32.toUInt32 31)).toInt32 &&& 1431655765)) &&& 858993459) + ((((v0 - (((v0).toUInt32 >>> ((1 : Int32).toUInt32 &&& Int32.toUInt32 31)).toInt32 &&& 1431655765))).toUInt32 >>> ((2 : Int32).toUInt32 &&& Int32.toUInt32 31)).toInt32 &&& 858993459))).toUInt32 >>> ((4 : Int32).toUInt32 &&& Int32.toUInt32 31)).toInt32) &&& 252645135) + (((((((v0 - (((v0).toUInt32 >>> ((1 : Int32).toUInt32 &&& Int32.toUInt32 31)).toInt32 &&& 1431655765)) &&& 858993459) + ((((v0 - (((v0).toUInt32 >>> ((1 : Int32).toUInt32 &&& Int32.toUInt32 31)).toInt32 &&& 1431655765))).toUInt32 >>> ((2 : Int32).toUInt32 &&& Int32.toUInt32 31)).toInt32 &&& 858993459)) + (((((v0 - (((v0).toUInt32 >>> ((1 : Int32).toUInt32 &&& Int32.toUInt32 31)).toInt32 &&& 1431655765)) &&& 858993459) + ((((v0 - (((v0).toUInt32 >>> ((1 : Int32).toUInt32 &&& Int32.toUInt32 31)).toInt32 &&& 1431655765))).toUInt32 >>> ((2 : Int32).toUInt32 &&& Int32.toUInt32 31)).toInt32 &&& 858993459))).toUInt32 >>> ((4 : Int32).toUInt32 &&& Int32.toUInt32 31)).toInt32) &&& 252645135)).toUInt32 >>> ((8 : Int32).toUInt32 &&& Int32.toUInt32 31)).toInt32) + ((((((((v0 - (((v0).toUInt32 >>> ((1 : Int32).toUInt32 &&& Int32.toUInt32 31)).toInt32 &&& 1431655765)) &&& 858993459) + ((((v0 - (((v0).toUInt32 >>> ((1 : Int32).toUInt32 &&& Int32.toUInt32 31)).toInt32 &&& 1431655765))).toUInt32 >>> ((2 : Int32).toUInt32 &&& Int32.toUInt32 31)).toInt32 &&& 858993459)) + (((((v0 - (((v0).toUInt32 >>> ((1 : Int32).toUInt32 &&& Int32.toUInt32 31)).toInt32 &&& 1431655765)) &&& 858993459) + ((((v0 - (((v0).toUInt32 >>> ((1 : Int32).toUInt32 &&& Int32.toUInt32 31)).toInt32 &&& 1431655765))).toUInt32 >>> ((2 : Int32).toUInt32 &&& Int32.toUInt32 31)).toInt32 &&& 858993459))).toUInt32 >>> ((4 : Int32).toUInt32 &&& Int32.toUInt32 31)).toInt32) &&& 252645135) + (((((((v0 - (((v0).toUInt32 >>> ((1 : Int32).toUInt32 &&& Int32.toUInt32 31)).toInt32 &&& 1431655765)) &&& 858993459) + ((((v0 - (((v0).toUInt32 >>> ((1 : Int32).toUInt32 &&& Int32.toUInt32 31)).toInt32 &&& 1431655765))).toUInt32 >>> ((2 : Int32).toUInt32 &&& Int32.toUInt32 31)).toInt32 &&& 858993459)) + (((((v0 - (((v0).toUInt32 >>> ((1 : Int32).toUInt32 &&& Int32.toUInt32 31)).toInt32 &&& 1431655765)) &&& 858993459) + ((((v0 - (((v0).toUInt32 >>> ((1 : Int32).toUInt32 &&& Int32.toUInt32 31)).toInt32 &&& 1431655765))).toUInt32 >>> ((2 : Int32).toUInt32 &&& Int32.toUInt32 31)).toInt32 &&& 858993459))).toUInt32 >>> ((4 : Int32).toUInt32 &&& Int32.toUInt32 31)).toInt32) &&& 252645135)).toUInt32 >>> ((8 : Int32).toUInt32 &&& Int32.toUInt32 31)).toInt32)).toUInt32 >>> ((16 : Int32).toUInt32 &&& Int32.toUInt32 31)).toInt32)) := zs1_ld _ _ _
  generalize (zs1 lv4 0 (.int (((((((v0 - (((v0).toUInt32 >>> ((1 : Int32).toUInt32 &&& Int32.toUInt32 31)).toInt32 &&& 1431655765)) &&& 858993459) + ((((v0 - (((v0).toUInt32 >>> ((1 : Int32).toUInt32 &&& Int32.toUInt32 31)).toInt32 &&& 1431655765))).toUInt32 >>> ((2 : Int32).toUInt32 &&& Int32.toUInt32 31)).toInt32 &&& 858993459)) + (((((v0 - (((v0).toUInt32 >>> ((1 : Int32).toUInt32 &&& Int32.toUInt32 31)).toInt32 &&& 1431655765)) &&& 858993459) + ((((v0 - (((v0).toUInt32 >>> ((1 : Int32).toUInt32 &&& Int32.toUInt32 31)).toInt32 &&& 1431655765))).toUInt32 >>> ((2 : Int32).toUInt32 &&& Int32.toUInt32 31)).toInt32 &&& 858993459))).toUInt32 >>> ((4 : Int32).toUInt32 &&& Int32.toUInt32 31)).toInt32) &&& 252645135) + (((((((v0 - (((v0).toUInt32 >>> ((1 : Int32).toUInt32 &&& Int32.toUInt32 31)).toInt32 &&& 1431655765)) &&& 858993459) + ((((v0 - (((v0).toUInt32 >>> ((1 : Int32).toUInt32 &&& Int32.toUInt32 31)).toInt32 &&& 1431655765))).toUInt32 >>> ((2 : Int32).toUInt32 &&& Int32.toUInt32 31)).toInt32 &&& 858993459)) + (((((v0 - (((v0).toUInt32 >>> ((1 : Int32).toUInt32 &&& Int32.toUInt32 31)).toInt32 &&& 1431655765)) &&& 858993459) + ((((v0 - (((v0).toUInt32 >>> ((1 : Int32).toUInt32 &&& Int32.toUInt32 31)).toInt32 &&& 1431655765))).toUInt32 >>> ((2 : Int32).toUInt32 &&& Int32.toUInt32 31)).toInt32 &&& 858993459))).toUInt32 >>> ((4 : Int32).toUInt32 &&& Int32.toUInt32 31)).toInt32) &&& 252645135)).toUInt32 >>> ((8 : Int32).toUInt32 &&& Int32.toUInt32 31)).toInt32) + ((((((((v0 - (((v0).toUInt32 >>> ((1 : Int32).toUInt32 &&& Int32.toUInt32 31)).toInt32 &&& 1431655765)) &&& 858993459) + ((((v0 - (((v0).toUInt32 >>> ((1 : Int32).toUInt32 &&& Int32.toUInt32 31)).toInt32 &&& 1431655765))).toUInt32 >>> ((2 : Int32).toUInt32 &&& Int32.toUInt32 31)).toInt32 &&& 858993459)) + (((((v0 - (((v0).toUInt32 >>> ((1 : Int32).toUInt32 &&& Int32.toUInt32 31)).toInt32 &&& 1431655765)) &&& 858993459) + ((((v0 - (((v0).toUInt32 >>> ((1 : Int32).toUInt32 &&& Int32.toUInt32 31)).toInt32 &&& 1431655765))).toUInt32 >>> ((2 : Int32).toUInt32 &&& Int32.toUInt32 31)).toInt32 &&& 858993459))).toUInt32 >>> ((4 : Int32).toUInt32 &&& Int32.toUInt32 31)).toInt32) &&& 252645135) + (((((((v0 - (((v0).toUInt32 >>> ((1 : Int32).toUInt32 &&& Int32.toUInt32 31)).toInt32 &&& 1431655765)) &&& 858993459) + ((((v0 - (((v0).toUInt32 >>> ((1 : Int32).toUInt32 &&& Int32.toUInt32 31)).toInt32 &&& 1431655765))).toUInt32 >>> ((2 : Int32).toUInt32 &&& Int32.toUInt32 31)).toInt32 &&& 858993459)) + (((((v0 - (((v0).toUInt32 >>> ((1 : Int32).toUInt32 &&& Int32.toUInt32 31)).toInt32 &&& 1431655765)) &&& 858993459) + ((((v0 - (((v0).toUInt32 >>> ((1 : Int32).toUInt32 &&& Int32.toUInt32 31)).toInt32 &&& 1431655765))).toUInt32 >>> ((2 : Int32).toUInt32 &&& Int32.toUInt32 31)).toInt32 &&& 858993459))).toUInt32 >>> ((4 : Int32).toUInt32 &&& Int32.toUInt32 31)).toInt32) &&& 252645135)).toUInt32 >>> ((8 : Int32).toUInt32 &&& Int32.toUInt32 31)).toInt32)).toUInt32 >>> ((16 : Int32).toUInt32 &&& Int32.toUInt32 31)).toInt32))) = lv5 at *
  refine q_li (k := 1) (i := 0) (q := (.iload_n 0, 1, 0, 0, .null)) rfl (fun _ => rfl) l0_5 ?_
  refine r_s (fr' := (51, lv5, [.int 63, .int (((((((v0 - (((v0).toUInt32 >>> ((1 : Int32).toUInt32 &&& Int32.toUInt32 31)).toInt32 &&& 1431655765)) &&& 858993459) + ((((v0 - (((v0).toUInt32 >>> ((1 : Int32).toUInt32 &&& Int32.toUInt32 31)).toInt32 &&& 1431655765))).toUInt32 >>> ((2 : Int32).toUInt32 &&& Int32.toUInt32 31)).toInt32 &&& 858993459)) + (((((v0 - (((v0).toUInt32 >>> ((1 : Int32).toUInt32 &&& Int32.toUInt32 31)).toInt32 &&& 1431655765)) &&& 858993459) + ((((v0 - (((v0).toUInt32 >>> ((1 : Int32).toUInt32 &&& Int32.toUInt32 31)).toInt32 &&& 1431655765))).toUInt32 >>> ((2 : Int32).toUInt32 &&& Int32.toUInt32 31)).toInt32 &&& 858993459))).toUInt32 >>> ((4 : Int32).toUInt32 &&& Int32.toUInt32 31)).toInt32) &&& 252645135) + (((((((v0 - (((v0).toUInt32 >>> ((1 : Int32).toUInt32 &&& Int32.toUInt32 31)).toInt32 &&& 1431655765)) &&& 858993459) + ((((v0 - (((v0).toUInt32 >>> ((1 : Int32).toUInt32 &&& Int32.toUInt32 31)).toInt32 &&& 1431655765))).toUInt32 >>> ((2 : Int32).toUInt32 &&& Int32.toUInt32 31)).toInt32 &&& 858993459)) + (((((v0 - (((v0).toUInt32 >>> ((1 : Int32).toUInt32 &&& Int32.toUInt32 31)).toInt32 &&& 1431655765)) &&& 858993459) + ((((v0 - (((v0).toUInt32 >>> ((1 : Int32).toUInt32 &&& Int32.toUInt32 31)).toInt32 &&& 1431655765))).toUInt32 >>> ((2 : Int32).toUInt32 &&& Int32.toUInt32 31)).toInt32 &&& 858993459))).toUInt32 >>> ((4 : Int32).toUInt32 &&& Int32.toUInt32 31)).toInt32) &&& 252645135)).toUInt32 >>> ((8 : Int32).toUInt32 &&& Int32.toUInt32 31)).toInt32) + ((((((((v0 - (((v0).toUInt32 >>> ((1 : Int32).toUInt32 &&& Int32.toUInt32 31)).toInt32 &&& 1431655765)) &&& 858993459) + ((((v0 - (((v0).toUInt32 >>> ((1 : Int32).toUInt32 &&& Int32.toUInt32 31)).toInt32 &&& 1431655765))).toUInt32 >>> ((2 : Int32).toUInt32 &&& Int32.toUInt32 31)).toInt32 &&& 858993459)) + (((((v0 - (((v0).toUInt32 >>> ((1 : Int32).toUInt32 &&& Int32.toUInt32 31)).toInt32 &&& 1431655765)) &&& 858993459) + ((((v0 - (((v0).toUInt32 >>> ((1 : Int32).toUInt32 &&& Int32.toUInt32 31)).toInt32 &&& 1431655765))).toUInt32 >>> ((2 : Int32).toUInt32 &&& Int32.toUInt32 31)).toInt32 &&& 858993459))).toUInt32 >>> ((4 : Int32).toUInt32 &&& Int32.toUInt32 31)).toInt32) &&& 252645135) + (((((((v0 - (((v0).toUInt32 >>> ((1 : Int32).toUInt32 &&& Int32.toUInt32 31)).toInt32 &&& 1431655765)) &&& 858993459) + ((((v0 - (((v0).toUInt32 >>> ((1 : Int32).toUInt32 &&& Int32.toUInt32 31)).toInt32 &&& 1431655765))).toUInt32 >>> ((2 : Int32).toUInt32 &&& Int32.toUInt32 31)).toInt32 &&& 858993459)) + (((((v0 - (((v0).toUInt32 >>> ((1 : Int32).toUInt32 &&& Int32.toUInt32 31)).toInt32 &&& 1431655765)) &&& 858993459) + ((((v0 - (((v0).toUInt32 >>> ((1 : Int32).toUInt32 &&& Int32.toUInt32 31)).toInt32 &&& 1431655765))).toUInt32 >>> ((2 : Int32).toUInt32 &&& Int32.toUInt32 31)).toInt32 &&& 858993459))).toUInt32 >>> ((4 : Int32).toUInt32 &&& Int32.toUInt32 31)).toInt32) &&& 252645135)).toUInt32 >>> ((8 : Int32).toUInt32 &&& Int32.toUInt32 31)).toInt32)).toUInt32 >>> ((16 : Int32).toUInt32 &&& Int32.toUInt32 31)).toInt32)])) (hp' := xW B m) (q := (.bipush 63, 2, 0, 0, .null)) rfl (fun _ => rfl) (Nat.le_refl _) ?_
  refine r_s (fr' := (52, lv5, [.int ((((((((v0 - (((v0).toUInt32 >>> ((1 : Int32).toUInt32 &&& Int32.toUInt32 31)).toInt32 &&& 1431655765)) &&& 858993459) + ((((v0 - (((v0).toUInt32 >>> ((1 : Int32).toUInt32 &&& Int32.toUInt32 31)).toInt32 &&& 1431655765))).toUInt32 >>> ((2 : Int32).toUInt32 &&& Int32.toUInt32 31)).toInt32 &&& 858993459)) + (((((v0 - (((v0).toUInt32 >>> ((1 : Int32).toUInt32 &&& Int32.toUInt32 31)).toInt32 &&& 1431655765)) &&& 858993459) + ((((v0 - (((v0).toUInt32 >>> ((1 : Int32).toUInt32 &&& Int32.toUInt32 31)).toInt32 &&& 1431655765))).toUInt32 >>> ((2 : Int32).toUInt32 &&& Int32.toUInt32 31)).toInt32 &&& 858993459))).toUInt32 >>> ((4 : Int32).toUInt32 &&& Int32.toUInt32 31)).toInt32) &&& 252645135) + (((((((v0 - (((v0).toUInt32 >>> ((1 : Int32).toUInt32 &&& Int32.toUInt32 31)).toInt32 &&& 1431655765)) &&& 858993459) + ((((v0 - (((v0).toUInt32 >>> ((1 : Int32).toUInt32 &&& Int32.toUInt32 31)).toInt32 &&& 1431655765))).toUInt32 >>> ((2 : Int32).toUInt32 &&& Int32.toUInt32 31)).toInt32 &&& 858993459)) + (((((v0 - (((v0).toUInt32 >>> ((1 : Int32).toUInt32 &&& Int32.toUInt32 31)).toInt32 &&& 1431655765)) &&& 858993459) + ((((v0 - (((v0).toUInt32 >>> ((1 : Int32).toUInt32 &&& Int32.toUInt32 31)).toInt32 &&& 1431655765))).toUInt32 >>> ((2 : Int32).toUInt32 &&& Int32.toUInt32 31)).toInt32 &&& 858993459))).toUInt32 >>> ((4 : Int32).toUInt32 &&& Int32.toUInt32 31)).toInt32) &&& 252645135)).toUInt32 >>> ((8 : Int32).toUInt32 &&& Int32.toUInt32 31)).toInt32) + ((((((((v0 - (((v0).toUInt32 >>> ((1 : Int32).toUInt32 &&& Int32.toUInt32 31)).toInt32 &&& 1431655765)) &&& 858993459) + ((((v0 - (((v0).toUInt32 >>> ((1 : Int32).toUInt32 &&& Int32.toUInt32 31)).toInt32 &&& 1431655765))).toUInt32 >>> ((2 : Int32).toUInt32 &&& Int32.toUInt32 31)).toInt32 &&& 858993459)) + (((((v0 - (((v0).toUInt32 >>> ((1 : Int32).toUInt32 &&& Int32.toUInt32 31)).toInt32 &&& 1431655765)) &&& 858993459) + ((((v0 - (((v0).toUInt32 >>> ((1 : Int32).toUInt32 &&& Int32.toUInt32 31)).toInt32 &&& 1431655765))).toUInt32 >>> ((2 : Int32).toUInt32 &&& Int32.toUInt32 31)).toInt32 &&& 858993459))).toUInt32 >>> ((4 : Int32).toUInt32 &&& Int32.toUInt32 31)).toInt32) &&& 252645135) + (((((((v0 - (((v0).toUInt32 >>> ((1 : Int32).toUInt32 &&& Int32.toUInt32 31)).toInt32 &&& 1431655765)) &&& 858993459) + ((((v0 - (((v0).toUInt32 >>> ((1 : Int32).toUInt32 &&& Int32.toUInt32 31)).toInt32 &&& 1431655765))).toUInt32 >>> ((2 : Int32).toUInt32 &&& Int32.toUInt32 31)).toInt32 &&& 858993459)) + (((((v0 - (((v0).toUInt32 >>> ((1 : Int32).toUInt32 &&& Int32.toUInt32 31)).toInt32 &&& 1431655765)) &&& 858993459) + ((((v0 - (((v0).toUInt32 >>> ((1 : Int32).toUInt32 &&& Int32.toUInt32 31)).toInt32 &&& 1431655765))).toUInt32 >>> ((2 : Int32).toUInt32 &&& Int32.toUInt32 31)).toInt32 &&& 858993459))).toUInt32 >>> ((4 : Int32).toUInt32 &&& Int32.toUInt32 31)).toInt32) &&& 252645135)).toUInt32 >>> ((8 : Int32).toUInt32 &&& Int32.toUInt32 31)).toInt32)).toUInt32 >>> ((16 : Int32).toUInt32 &&& Int32.toUInt32 31)).toInt32) &&& 63)])) (hp' := xW B m) (q := (.iand, 1, 0, 0, .null)) rfl (fun _ => rfl) (Nat.le_refl _) ?_
  obtain rfl := Option.some.inj h
  exact q_ri (q := (.ireturn, 1, 0, 0, .null)) rfl (fun _ => rfl) rfl rfl
set_option maxRecDepth 20000 in
theorem Z280 {B : zHp} (H : yH0 B) {F : Nat} {a0 : Int32} {m : xS} {x : Int32 × xS} (h : D280 F a0 m = some x) {d : Nat} (hd : 1 ≤ d) : zCan d 280 [.int a0] (xW B m) (some (.int x.1), xW B x.2) := by
  obtain ⟨e, rfl⟩ : ∃ e, d = e + 1 := ⟨d - 1, by omega⟩
  refine zCan_body (nL := 1) (rt := (some .int)) (cd := zc280) (xg280) ⟨Nat.le_of_ble_eq_true rfl, by decide⟩ (Nat.le_refl _) ?_
  exact T280 H hd F rfl h
/-- LentTools$Chains.noteLength -/
def D2_44_66 (F : Nat) (g3 : Int32 → Int32 → Int32 → Int32 → xS → Option (Unit × xS)) (v1 : Int32) (v2 : Int32) (v3 : Int32) (v4 : Int32) (m : xS) : Option (Unit × xS) :=
  g3 v1 v2 v3 (v4 + Int32.ofInt 1) m
set_option maxRecDepth 20000 in
theorem T2_44_66 {B : zHp} (H : yH0 B) {e : Nat} (he : 1 ≤ e + 1) (F : Nat) (g3 : Int32 → Int32 → Int32 → Int32 → xS → Option (Unit × xS)) (k3 : ∀ {v1 : Int32} {v2 : Int32} {v3 : Int32} {v4 : Int32} {lv : List (Nat × Value)} {m : xS} {x : Unit × xS}, zld lv 0 = some (.ref 44) → zld lv 1 = some (.int v1) → zld lv 2 = some (.int v2) → zld lv 3 = some (.int v3) → zld lv 4 = some (.int v4) → g3 v1 v2 v3 v4 m = some x → zR none e 5 none zc2 (3, lv, []) (xW B m) (none, xW B x.2)) {v1 : Int32} {v2 : Int32} {v3 : Int32} {v4 : Int32} {lv : List (Nat × Value)} {m : xS} {x : Unit × xS} (l0 : zld lv 0 = some (.ref 44)) (l1 : zld lv 1 = some (.int v1)) (l2 : zld lv 2 = some (.int v2)) (l3 : zld lv 3 = some (.int v3)) (l4 : zld lv 4 = some (.int v4)) (h : D2_44_66 F g3 v1 v2 v3 v4 m = some x) : zR none e 5 none zc2 (66, lv, []) (xW B m) (none, xW B x.2) := by
  unfold D2_44_66 at h
  refine q_inc (i := 4) (n := 1) (q := (.iinc 4 1, 3, 0, 0, .null)) rfl (fun _ => rfl) l4 (by decide) ?_
  have l0_1 : zld (zs1 lv 4 (.int (v4 + Int32.ofInt 1))) 0 = some (.ref 44) := x_o1 l0 rfl rfl
  have l1_1 : zld (zs1 lv 4 (.int (v4 + Int32.ofInt 1))) 1 = some (.int v1) := x_o1 l1 rfl rfl
  have l2_1 : zld (zs1 lv 4 (.int (v4 + Int32.ofInt 1))) 2 = some (.int v2) := x_o1 l2 rfl rfl
  have l3_1 : zld (zs1 lv 4 (.int (v4 + Int32.ofInt 1))) 3 = some (.int v3) := x_o1 l3 rfl rfl
  have l4_1 : zld (zs1 lv 4 (.int (v4 + Int32.ofInt 1))) 4 = some (.int (v4 + Int32.ofInt 1)) := zs1_ld _ _ _
  generalize (zs1 lv 4 (.int (v4 + Int32.ofInt 1))) = lv1 at *
  refine r_s (fr' := (3, lv1, [])) (hp' := xW B m) (q := (.goto (-66), 3, 3, 0, .null)) rfl (fun _ => rfl) (Nat.le_refl _) ?_
  exact k3 l0_1 l1_1 l2_1 l3_1 l4_1 h
def D2_44_58 (F : Nat) (g3 : Int32 → Int32 → Int32 → Int32 → xS → Option (Unit × xS)) (v1 : Int32) (v2 : Int32) (v3 : Int32) (v4 : Int32) (m : xS) : Option (Unit × xS) :=
  if xib v4 6 = true then
    D2_44_66 F g3 v1 v2 v3 v4 (xu m 46 (v4 : Int32).toNatClampNeg v3)
  else none
set_option maxRecDepth 20000 in
theorem T2_44_58 {B : zHp} (H : yH0 B) {e : Nat} (he : 1 ≤ e + 1) (F : Nat) (g3 : Int32 → Int32 → Int32 → Int32 → xS → Option (Unit × xS)) (k3 : ∀ {v1 : Int32} {v2 : Int32} {v3 : Int32} {v4 : Int32} {lv : List (Nat × Value)} {m : xS} {x : Unit × xS}, zld lv 0 = some (.ref 44) → zld lv 1 = some (.int v1) → zld lv 2 = some (.int v2) → zld lv 3 = some (.int v3) → zld lv 4 = some (.int v4) → g3 v1 v2 v3 v4 m = some x → zR none e 5 none zc2 (3, lv, []) (xW B m) (none, xW B x.2)) {v1 : Int32} {v2 : Int32} {v3 : Int32} {v4 : Int32} {lv : List (Nat × Value)} {m : xS} {x : Unit × xS} (l0 : zld lv 0 = some (.ref 44)) (l1 : zld lv 1 = some (.int v1)) (l2 : zld lv 2 = some (.int v2)) (l3 : zld lv 3 = some (.int v3)) (l4 : zld lv 4 = some (.int v4)) (h : D2_44_58 F g3 v1 v2 v3 v4 m = some x) : zR none e 5 none zc2 (58, lv, []) (xW B m) (none, xW B x.2) := by
  unfold D2_44_58 at h
  refine q_lr (k := 1) (i := 0) (q := (.aload_n 0, 1, 0, 0, .null)) rfl (fun _ => rfl) l0 ?_
  refine r_gr (c := 46) H (pc := 59) rfl (by decide) (by decide) ?_
  refine q_li (k := 2) (i := 4) (q := (.iload 4, 2, 0, 0, .null)) rfl (fun _ => rfl) l4 ?_
  refine q_li (k := 1) (i := 3) (q := (.iload_n 3, 1, 0, 0, .null)) rfl (fun _ => rfl) l3 ?_
  obtain ⟨c1, h⟩ := xif h
  refine q_as (n := 6) (s2 := (xu m 46 (v4 : Int32).toNatClampNeg v3)) H (pc := 65) rfl (by decide) c1 rfl ?_
  exact T2_44_66 H he F _ k3 l0 l1 l2 l3 l4 h
def D2_44_3 (F : Nat) : Nat → Int32 → Int32 → Int32 → Int32 → xS → Option (Unit × xS)
  | 0, _, _, _, _, _ => none
  | f + 1, v1, v2, v3, v4, m =>
    if zcmp .ge v4 v1 = true then
      some ((), m)
    else
      if zcmp .eq ((v2 >>> (v4 &&& 31)) &&& 1) 0 = true then
        D2_44_66 F (D2_44_3 F f) v1 v2 v3 v4 m
      else
        if xib v4 6 = true then
          if xib v4 6 = true then
            if xib v4 6 = true then
              if zcmp .eq (m.1 46 (v4 : Int32).toNatClampNeg) (-1) = true then
                D2_44_58 F (D2_44_3 F f) v1 v2 v3 v4 (xu m 45 (v4 : Int32).toNatClampNeg (if (m.1 45 (v4 : Int32).toNatClampNeg) < v3 then v3 else (m.1 45 (v4 : Int32).toNatClampNeg)))
              else
                if xib v4 6 = true then
                  if zcmp .ge v3 (m.1 46 (v4 : Int32).toNatClampNeg) = true then
                    D2_44_66 F (D2_44_3 F f) v1 v2 v3 v4 (xu m 45 (v4 : Int32).toNatClampNeg (if (m.1 45 (v4 : Int32).toNatClampNeg) < v3 then v3 else (m.1 45 (v4 : Int32).toNatClampNeg)))
                  else
                    D2_44_58 F (D2_44_3 F f) v1 v2 v3 v4 (xu m 45 (v4 : Int32).toNatClampNeg (if (m.1 45 (v4 : Int32).toNatClampNeg) < v3 then v3 else (m.1 45 (v4 : Int32).toNatClampNeg)))
                else none
            else none
          else none
        else none
set_option maxRecDepth 20000 in
theorem T2_44_3 {B : zHp} (H : yH0 B) {e : Nat} (he : 1 ≤ e + 1) (F : Nat) : ∀ (f : Nat) {v1 : Int32} {v2 : Int32} {v3 : Int32} {v4 : Int32} {lv : List (Nat × Value)} {m : xS} {x : Unit × xS}, zld lv 0 = some (.ref 44) → zld lv 1 = some (.int v1) → zld lv 2 = some (.int v2) → zld lv 3 = some (.int v3) → zld lv 4 = some (.int v4) → D2_44_3 F f v1 v2 v3 v4 m = some x → zR none e 5 none zc2 (3, lv, []) (xW B m) (none, xW B x.2) := by
  intro f
  induction f with
  | zero => intro v1 v2 v3 v4 lv m x l0 l1 l2 l3 l4 h; cases h
  | succ f ih =>
    intro v1 v2 v3 v4 lv m x l0 l1 l2 l3 l4 h
    unfold D2_44_3 at h
    refine q_li (k := 2) (i := 4) (q := (.iload 4, 2, 0, 0, .null)) rfl (fun _ => rfl) l4 ?_
    refine q_li (k := 1) (i := 1) (q := (.iload_n 1, 1, 0, 0, .null)) rfl (fun _ => rfl) l1 ?_
    refine r_ifc (len := 3) (a := 72) (b := 0) (v0 := .null) (cn := .ge) (off := 66) rfl (fun c => ?_) (fun c => ?_)
    · rw [if_pos c] at h
      obtain rfl := Option.some.inj h
      exact r_ret (q := (.return_, 1, 0, 0, .null)) rfl rfl (fun _ => rfl)
    · rw [if_neg (by rw [c]; decide)] at h
      refine q_li (k := 1) (i := 2) (q := (.iload_n 2, 1, 0, 0, .null)) rfl (fun _ => rfl) l2 ?_
      refine q_li (k := 2) (i := 4) (q := (.iload 4, 2, 0, 0, .null)) rfl (fun _ => rfl) l4 ?_
      refine r_s (fr' := (13, lv, [.int (v2 >>> (v4 &&& 31))])) (hp' := xW B m) (q := (.ishr, 1, 0, 0, .null)) rfl (fun _ => rfl) (Nat.le_refl _) ?_
      refine r_s (fr' := (14, lv, [.int 1, .int (v2 >>> (v4 &&& 31))])) (hp' := xW B m) (q := (.iconst 1, 1, 0, 0, .null)) rfl (fun _ => rfl) (Nat.le_refl _) ?_
      refine r_s (fr' := (15, lv, [.int ((v2 >>> (v4 &&& 31)) &&& 1)])) (hp' := xW B m) (q := (.iand, 1, 0, 0, .null)) rfl (fun _ => rfl) (Nat.le_refl _) ?_
      refine r_if (len := 3) (a := 66) (b := 0) (v0 := .null) (cn := .eq) (off := 51) rfl (fun c => ?_) (fun c => ?_)
      · rw [if_pos c] at h
        exact T2_44_66 H he F _ ih l0 l1 l2 l3 l4 h
      · rw [if_neg (by rw [c]; decide)] at h
        refine q_lr (k := 1) (i := 0) (q := (.aload_n 0, 1, 0, 0, .null)) rfl (fun _ => rfl) l0 ?_
        refine r_gr (c := 45) H (pc := 19) rfl (by decide) (by decide) ?_
        refine q_li (k := 2) (i := 4) (q := (.iload 4, 2, 0, 0, .null)) rfl (fun _ => rfl) l4 ?_
        refine q_lr (k := 1) (i := 0) (q := (.aload_n 0, 1, 0, 0, .null)) rfl (fun _ => rfl) l0 ?_
        refine r_gr (c := 45) H (pc := 25) rfl (by decide) (by decide) ?_
        refine q_li (k := 2) (i := 4) (q := (.iload 4, 2, 0, 0, .null)) rfl (fun _ => rfl) l4 ?_
        obtain ⟨c1, h⟩ := xif h
        refine q_al (n := 6) (v := (m.1 45 (v4 : Int32).toNatClampNeg)) H (pc := 30) rfl (by decide) c1 rfl ?_
        refine q_li (k := 1) (i := 3) (q := (.iload_n 3, 1, 0, 0, .null)) rfl (fun _ => rfl) l3 ?_
        refine r_s (fr' := (35, lv, [.int (if (m.1 45 (v4 : Int32).toNatClampNeg) < v3 then v3 else (m.1 45 (v4 : Int32).toNatClampNeg)), .int v4, .ref 45])) (hp' := xW B m) (q := (.invokestatic 57, 3, 0, 2, .null)) rfl (fun _ => rfl) (Nat.le_refl _) ?_
        obtain ⟨c2, h⟩ := xif h
        refine q_as (n := 6) (s2 := (xu m 45 (v4 : Int32).toNatClampNeg (if (m.1 45 (v4 : Int32).toNatClampNeg) < v3 then v3 else (m.1 45 (v4 : Int32).toNatClampNeg)))) H (pc := 35) rfl (by decide) c2 rfl ?_
        refine q_lr (k := 1) (i := 0) (q := (.aload_n 0, 1, 0, 0, .null)) rfl (fun _ => rfl) l0 ?_
        refine r_gr (c := 46) H (pc := 37) rfl (by decide) (by decide) ?_
        refine q_li (k := 2) (i := 4) (q := (.iload 4, 2, 0, 0, .null)) rfl (fun _ => rfl) l4 ?_
        obtain ⟨c3, h⟩ := xif h
        refine q_al (n := 6) (v := (m.1 46 (v4 : Int32).toNatClampNeg)) H (pc := 42) rfl (by decide) c3 rfl ?_
        refine r_s (fr' := (44, lv, [.int (-1), .int (m.1 46 (v4 : Int32).toNatClampNeg)])) (hp' := xW B (xu m 45 (v4 : Int32).toNatClampNeg (if (m.1 45 (v4 : Int32).toNatClampNeg) < v3 then v3 else (m.1 45 (v4 : Int32).toNatClampNeg)))) (q := (.iconst (-1), 1, 0, 0, .null)) rfl (fun _ => rfl) (Nat.le_refl _) ?_
        refine r_ifc (len := 3) (a := 58) (b := 0) (v0 := .null) (cn := .eq) (off := 14) rfl (fun c => ?_) (fun c => ?_)
        · rw [if_pos c] at h
          exact T2_44_58 H he F _ ih l0 l1 l2 l3 l4 h
        · rw [if_neg (by rw [c]; decide)] at h
          refine q_li (k := 1) (i := 3) (q := (.iload_n 3, 1, 0, 0, .null)) rfl (fun _ => rfl) l3 ?_
          refine q_lr (k := 1) (i := 0) (q := (.aload_n 0, 1, 0, 0, .null)) rfl (fun _ => rfl) l0 ?_
          refine r_gr (c := 46) H (pc := 49) rfl (by decide) (by decide) ?_
          refine q_li (k := 2) (i := 4) (q := (.iload 4, 2, 0, 0, .null)) rfl (fun _ => rfl) l4 ?_
          obtain ⟨c4, h⟩ := xif h
          refine q_al (n := 6) (v := (m.1 46 (v4 : Int32).toNatClampNeg)) H (pc := 54) rfl (by decide) c4 rfl ?_
          refine r_ifc (len := 3) (a := 66) (b := 0) (v0 := .null) (cn := .ge) (off := 11) rfl (fun c => ?_) (fun c => ?_)
          · rw [if_pos c] at h
            exact T2_44_66 H he F _ ih l0 l1 l2 l3 l4 h
          · rw [if_neg (by rw [c]; decide)] at h
            exact T2_44_58 H he F _ ih l0 l1 l2 l3 l4 h
def D2_44 (F : Nat) (v1 : Int32) (v2 : Int32) (v3 : Int32) (m : xS) : Option (Unit × xS) :=
  D2_44_3 F F v1 v2 v3 0 m
set_option maxRecDepth 20000 in
theorem T2_44 {B : zHp} (H : yH0 B) {e : Nat} (he : 1 ≤ e + 1) (F : Nat) {v1 : Int32} {v2 : Int32} {v3 : Int32} {lv : List (Nat × Value)} {m : xS} {x : Unit × xS} (l0 : zld lv 0 = some (.ref 44)) (l1 : zld lv 1 = some (.int v1)) (l2 : zld lv 2 = some (.int v2)) (l3 : zld lv 3 = some (.int v3)) (h : D2_44 F v1 v2 v3 m = some x) : zR none e 5 none zc2 (0, lv, []) (xW B m) (none, xW B x.2) := by
  unfold D2_44 at h
  refine r_s (fr' := (1, lv, [.int 0])) (hp' := xW B m) (q := (.iconst 0, 1, 0, 0, .null)) rfl (fun _ => rfl) (Nat.le_refl _) ?_
  refine q_si (k := 2) (i := 4) (q := (.istore 4, 2, 0, 0, .null)) rfl (fun _ => rfl) (by decide) ?_
  have l0_1 : zld (zs1 lv 4 (.int 0)) 0 = some (.ref 44) := x_o1 l0 rfl rfl
  have l1_1 : zld (zs1 lv 4 (.int 0)) 1 = some (.int v1) := x_o1 l1 rfl rfl
  have l2_1 : zld (zs1 lv 4 (.int 0)) 2 = some (.int v2) := x_o1 l2 rfl rfl
  have l3_1 : zld (zs1 lv 4 (.int 0)) 3 = some (.int v3) := x_o1 l3 rfl rfl
  have l4_1 : zld (zs1 lv 4 (.int 0)) 4 = some (.int 0) := zs1_ld _ _ _
  generalize (zs1 lv 4 (.int 0)) = lv1 at *
  exact T2_44_3 H he F F l0_1 l1_1 l2_1 l3_1 l4_1 h
set_option maxRecDepth 20000 in
theorem Z2_44 {B : zHp} (H : yH0 B) {F : Nat} {a1 : Int32} {a2 : Int32} {a3 : Int32} {m : xS} {x : Unit × xS} (h : D2_44 F a1 a2 a3 m = some x) {d : Nat} (hd : 1 ≤ d) : zCan d 2 [.ref 44, .int a1, .int a2, .int a3] (xW B m) (none, xW B x.2) := by
  obtain ⟨e, rfl⟩ : ∃ e, d = e + 1 := ⟨d - 1, by omega⟩
  refine zCan_body (nL := 5) (rt := none) (cd := zc2) (xg2) ⟨Nat.le_of_ble_eq_true rfl, by decide⟩ (Nat.le_refl _) ?_
  exact T2_44 H hd F rfl rfl rfl rfl h
/-- LentTools$Chains.goFurther -/
def D3_44_9_37 (F : Nat) (g5 : Int32 → Int32 → Int32 → xS → Option (Unit × xS)) (v2 : Int32) (v3 : Int32) (v4 : Int32) (m : xS) : Option (Unit × xS) :=
  g5 v2 v3 (v4 + Int32.ofInt 1) m
set_option maxRecDepth 20000 in
theorem T3_44_9_37 {B : zHp} (H : yH0 B) {e : Nat} (he : 2 ≤ e + 1) (F : Nat) (g5 : Int32 → Int32 → Int32 → xS → Option (Unit × xS)) (k5 : ∀ {v2 : Int32} {v3 : Int32} {v4 : Int32} {lv : List (Nat × Value)} {m : xS} {x : Unit × xS}, zld lv 0 = some (.ref 44) → zld lv 1 = some (.ref 9) → zld lv 2 = some (.int v2) → zld lv 3 = some (.int v3) → zld lv 4 = some (.int v4) → g5 v2 v3 v4 m = some x → zR none e 5 none zc3 (5, lv, []) (xW B m) (none, xW B x.2)) {v2 : Int32} {v3 : Int32} {v4 : Int32} {lv : List (Nat × Value)} {m : xS} {x : Unit × xS} (l0 : zld lv 0 = some (.ref 44)) (l1 : zld lv 1 = some (.ref 9)) (l2 : zld lv 2 = some (.int v2)) (l3 : zld lv 3 = some (.int v3)) (l4 : zld lv 4 = some (.int v4)) (h : D3_44_9_37 F g5 v2 v3 v4 m = some x) : zR none e 5 none zc3 (37, lv, []) (xW B m) (none, xW B x.2) := by
  unfold D3_44_9_37 at h
  refine q_inc (i := 4) (n := 1) (q := (.iinc 4 1, 3, 0, 0, .null)) rfl (fun _ => rfl) l4 (by decide) ?_
  have l0_1 : zld (zs1 lv 4 (.int (v4 + Int32.ofInt 1))) 0 = some (.ref 44) := x_o1 l0 rfl rfl
  have l1_1 : zld (zs1 lv 4 (.int (v4 + Int32.ofInt 1))) 1 = some (.ref 9) := x_o1 l1 rfl rfl
  have l2_1 : zld (zs1 lv 4 (.int (v4 + Int32.ofInt 1))) 2 = some (.int v2) := x_o1 l2 rfl rfl
  have l3_1 : zld (zs1 lv 4 (.int (v4 + Int32.ofInt 1))) 3 = some (.int v3) := x_o1 l3 rfl rfl
  have l4_1 : zld (zs1 lv 4 (.int (v4 + Int32.ofInt 1))) 4 = some (.int (v4 + Int32.ofInt 1)) := zs1_ld _ _ _
  generalize (zs1 lv 4 (.int (v4 + Int32.ofInt 1))) = lv1 at *
  refine r_s (fr' := (5, lv1, [])) (hp' := xW B m) (q := (.goto (-35), 3, 5, 0, .null)) rfl (fun _ => rfl) (Nat.le_refl _) ?_
  exact k5 l0_1 l1_1 l2_1 l3_1 l4_1 h
def D3_44_9_88 (F : Nat) (g52 : Int32 → Int32 → Int32 → xS → Option (Unit × xS)) (v2 : Int32) (v3 : Int32) (v4 : Int32) (m : xS) : Option (Unit × xS) :=
  g52 v2 v3 (v4 + Int32.ofInt 1) m
set_option maxRecDepth 20000 in
theorem T3_44_9_88 {B : zHp} (H : yH0 B) {e : Nat} (he : 2 ≤ e + 1) (F : Nat) (g52 : Int32 → Int32 → Int32 → xS → Option (Unit × xS)) (k52 : ∀ {v2 : Int32} {v3 : Int32} {v4 : Int32} {lv : List (Nat × Value)} {m : xS} {x : Unit × xS}, zld lv 0 = some (.ref 44) → zld lv 1 = some (.ref 9) → zld lv 2 = some (.int v2) → zld lv 3 = some (.int v3) → zld lv 4 = some (.int v4) → g52 v2 v3 v4 m = some x → zR none e 5 none zc3 (52, lv, []) (xW B m) (none, xW B x.2)) {v2 : Int32} {v3 : Int32} {v4 : Int32} {lv : List (Nat × Value)} {m : xS} {x : Unit × xS} (l0 : zld lv 0 = some (.ref 44)) (l1 : zld lv 1 = some (.ref 9)) (l2 : zld lv 2 = some (.int v2)) (l3 : zld lv 3 = some (.int v3)) (l4 : zld lv 4 = some (.int v4)) (h : D3_44_9_88 F g52 v2 v3 v4 m = some x) : zR none e 5 none zc3 (88, lv, []) (xW B m) (none, xW B x.2) := by
  unfold D3_44_9_88 at h
  refine q_inc (i := 4) (n := 1) (q := (.iinc 4 1, 3, 0, 0, .null)) rfl (fun _ => rfl) l4 (by decide) ?_
  have l0_1 : zld (zs1 lv 4 (.int (v4 + Int32.ofInt 1))) 0 = some (.ref 44) := x_o1 l0 rfl rfl
  have l1_1 : zld (zs1 lv 4 (.int (v4 + Int32.ofInt 1))) 1 = some (.ref 9) := x_o1 l1 rfl rfl
  have l2_1 : zld (zs1 lv 4 (.int (v4 + Int32.ofInt 1))) 2 = some (.int v2) := x_o1 l2 rfl rfl
  have l3_1 : zld (zs1 lv 4 (.int (v4 + Int32.ofInt 1))) 3 = some (.int v3) := x_o1 l3 rfl rfl
  have l4_1 : zld (zs1 lv 4 (.int (v4 + Int32.ofInt 1))) 4 = some (.int (v4 + Int32.ofInt 1)) := zs1_ld _ _ _
  generalize (zs1 lv 4 (.int (v4 + Int32.ofInt 1))) = lv1 at *
  refine r_s (fr' := (52, lv1, [])) (hp' := xW B m) (q := (.goto (-39), 3, 52, 0, .null)) rfl (fun _ => rfl) (Nat.le_refl _) ?_
  exact k52 l0_1 l1_1 l2_1 l3_1 l4_1 h
def D3_44_9_52 (F : Nat) : Nat → Int32 → Int32 → Int32 → xS → Option (Unit × xS)
  | 0, _, _, _, _ => none
  | f + 1, v2, v3, v4, m =>
    (D77_9 F m).bind fun q55 =>
      if zcmp .ge v4 q55.1 = true then
        some ((), q55.2)
      else
        if zcmp .eq ((v3 >>> (v4 &&& 31)) &&& 1) 0 = true then
          D3_44_9_88 F (D3_44_9_52 F f) v2 v3 v4 q55.2
        else
          if xib (v2 ||| (1 <<< (v4 &&& 31))) 64 = true then
            if xib (v2 ||| (1 <<< (v4 &&& 31))) 64 = true then
              D3_44_9_88 F (D3_44_9_52 F f) v2 v3 v4 (xu q55.2 47 ((v2 ||| (1 <<< (v4 &&& 31))) : Int32).toNatClampNeg ((q55.2.1 47 ((v2 ||| (1 <<< (v4 &&& 31))) : Int32).toNatClampNeg) ||| (1 <<< (v4 &&& 31))))
            else none
          else none
set_option maxRecDepth 20000 in
theorem T3_44_9_52 {B : zHp} (H : yH0 B) {e : Nat} (he : 2 ≤ e + 1) (F : Nat) : ∀ (f : Nat) {v2 : Int32} {v3 : Int32} {v4 : Int32} {lv : List (Nat × Value)} {m : xS} {x : Unit × xS}, zld lv 0 = some (.ref 44) → zld lv 1 = some (.ref 9) → zld lv 2 = some (.int v2) → zld lv 3 = some (.int v3) → zld lv 4 = some (.int v4) → D3_44_9_52 F f v2 v3 v4 m = some x → zR none e 5 none zc3 (52, lv, []) (xW B m) (none, xW B x.2) := by
  intro f
  induction f with
  | zero => intro v2 v3 v4 lv m x l0 l1 l2 l3 l4 h; cases h
  | succ f ih =>
    intro v2 v3 v4 lv m x l0 l1 l2 l3 l4 h
    unfold D3_44_9_52 at h
    refine q_li (k := 2) (i := 4) (q := (.iload 4, 2, 0, 0, .null)) rfl (fun _ => rfl) l4 ?_
    refine q_lr (k := 1) (i := 1) (q := (.aload_n 1, 1, 0, 0, .null)) rfl (fun _ => rfl) l1 ?_
    obtain ⟨q55, h55, h⟩ := xbind h
    refine r_call (ix := 9) (as := []) (rest := [.int v4]) (rv := some (.int q55.1)) (hp' := xW B q55.2) (pc := 55) rfl xr77 rfl rfl rfl (xkd H (by decide)) (Nat.le_of_ble_eq_true rfl) (Z77_9 H h55 (by omega)) (Nat.le_refl _) ?_
    refine r_ifc (len := 3) (a := 94) (b := 0) (v0 := .null) (cn := .ge) (off := 36) rfl (fun c => ?_) (fun c => ?_)
    · rw [if_pos c] at h
      obtain rfl := Option.some.inj h
      exact r_ret (q := (.return_, 1, 0, 0, .null)) rfl rfl (fun _ => rfl)
    · rw [if_neg (by rw [c]; decide)] at h
      refine q_li (k := 1) (i := 3) (q := (.iload_n 3, 1, 0, 0, .null)) rfl (fun _ => rfl) l3 ?_
      refine q_li (k := 2) (i := 4) (q := (.iload 4, 2, 0, 0, .null)) rfl (fun _ => rfl) l4 ?_
      refine r_s (fr' := (65, lv, [.int (v3 >>> (v4 &&& 31))])) (hp' := xW B q55.2) (q := (.ishr, 1, 0, 0, .null)) rfl (fun _ => rfl) (Nat.le_refl _) ?_
      refine r_s (fr' := (66, lv, [.int 1, .int (v3 >>> (v4 &&& 31))])) (hp' := xW B q55.2) (q := (.iconst 1, 1, 0, 0, .null)) rfl (fun _ => rfl) (Nat.le_refl _) ?_
      refine r_s (fr' := (67, lv, [.int ((v3 >>> (v4 &&& 31)) &&& 1)])) (hp' := xW B q55.2) (q := (.iand, 1, 0, 0, .null)) rfl (fun _ => rfl) (Nat.le_refl _) ?_
      refine r_if (len := 3) (a := 88) (b := 0) (v0 := .null) (cn := .eq) (off := 21) rfl (fun c => ?_) (fun c => ?_)
      · rw [if_pos c] at h
        exact T3_44_9_88 H he F _ ih l0 l1 l2 l3 l4 h
      · rw [if_neg (by rw [c]; decide)] at h
        refine q_lr (k := 1) (i := 0) (q := (.aload_n 0, 1, 0, 0, .null)) rfl (fun _ => rfl) l0 ?_
        refine r_gr (c := 47) H (pc := 71) rfl (by decide) (by decide) ?_
        refine q_li (k := 1) (i := 2) (q := (.iload_n 2, 1, 0, 0, .null)) rfl (fun _ => rfl) l2 ?_
        refine r_s (fr' := (76, lv, [.int 1, .int v2, .ref 47])) (hp' := xW B q55.2) (q := (.iconst 1, 1, 0, 0, .null)) rfl (fun _ => rfl) (Nat.le_refl _) ?_
        refine q_li (k := 2) (i := 4) (q := (.iload 4, 2, 0, 0, .null)) rfl (fun _ => rfl) l4 ?_
        refine r_s (fr' := (79, lv, [.int (1 <<< (v4 &&& 31)), .int v2, .ref 47])) (hp' := xW B q55.2) (q := (.ishl, 1, 0, 0, .null)) rfl (fun _ => rfl) (Nat.le_refl _) ?_
        refine r_s (fr' := (80, lv, [.int (v2 ||| (1 <<< (v4 &&& 31))), .ref 47])) (hp' := xW B q55.2) (q := (.ior, 1, 0, 0, .null)) rfl (fun _ => rfl) (Nat.le_refl _) ?_
        refine r_s (fr' := (81, lv, [.int (v2 ||| (1 <<< (v4 &&& 31))), .ref 47, .int (v2 ||| (1 <<< (v4 &&& 31))), .ref 47])) (hp' := xW B q55.2) (q := (.dup2, 1, 0, 0, .null)) rfl (fun _ => rfl) (Nat.le_refl _) ?_
        obtain ⟨c1, h⟩ := xif h
        refine q_al (n := 64) (v := (q55.2.1 47 ((v2 ||| (1 <<< (v4 &&& 31))) : Int32).toNatClampNeg)) H (pc := 81) rfl (by decide) c1 rfl ?_
        refine r_s (fr' := (83, lv, [.int 1, .int (q55.2.1 47 ((v2 ||| (1 <<< (v4 &&& 31))) : Int32).toNatClampNeg), .int (v2 ||| (1 <<< (v4 &&& 31))), .ref 47])) (hp' := xW B q55.2) (q := (.iconst 1, 1, 0, 0, .null)) rfl (fun _ => rfl) (Nat.le_refl _) ?_
        refine q_li (k := 2) (i := 4) (q := (.iload 4, 2, 0, 0, .null)) rfl (fun _ => rfl) l4 ?_
        refine r_s (fr' := (86, lv, [.int (1 <<< (v4 &&& 31)), .int (q55.2.1 47 ((v2 ||| (1 <<< (v4 &&& 31))) : Int32).toNatClampNeg), .int (v2 ||| (1 <<< (v4 &&& 31))), .ref 47])) (hp' := xW B q55.2) (q := (.ishl, 1, 0, 0, .null)) rfl (fun _ => rfl) (Nat.le_refl _) ?_
        refine r_s (fr' := (87, lv, [.int ((q55.2.1 47 ((v2 ||| (1 <<< (v4 &&& 31))) : Int32).toNatClampNeg) ||| (1 <<< (v4 &&& 31))), .int (v2 ||| (1 <<< (v4 &&& 31))), .ref 47])) (hp' := xW B q55.2) (q := (.ior, 1, 0, 0, .null)) rfl (fun _ => rfl) (Nat.le_refl _) ?_
        obtain ⟨c2, h⟩ := xif h
        refine q_as (n := 64) (s2 := (xu q55.2 47 ((v2 ||| (1 <<< (v4 &&& 31))) : Int32).toNatClampNeg ((q55.2.1 47 ((v2 ||| (1 <<< (v4 &&& 31))) : Int32).toNatClampNeg) ||| (1 <<< (v4 &&& 31))))) H (pc := 87) rfl (by decide) c2 rfl ?_
        exact T3_44_9_88 H he F _ ih l0 l1 l2 l3 l4 h
def D3_44_9_5 (F : Nat) : Nat → Int32 → Int32 → Int32 → xS → Option (Unit × xS)
  | 0, _, _, _, _ => none
  | f + 1, v2, v3, v4, m =>
    (D77_9 F m).bind fun q8 =>
      if zcmp .ge v4 q8.1 = true then
        D3_44_9_52 F F v2 (v3 &&& (v2 ^^^ (-1))) 0 q8.2
      else
        if xib v2 64 = true then
          if zcmp .eq (((q8.2.1 47 (v2 : Int32).toNatClampNeg) >>> (v4 &&& 31)) &&& 1) 0 = true then
            D3_44_9_37 F (D3_44_9_5 F f) v2 v3 v4 q8.2
          else
            (D91_9 F v4 q8.2).bind fun q32 =>
              D3_44_9_37 F (D3_44_9_5 F f) v2 (v3 ||| q32.1) v4 q32.2
        else none
set_option maxRecDepth 20000 in
theorem T3_44_9_5 {B : zHp} (H : yH0 B) {e : Nat} (he : 2 ≤ e + 1) (F : Nat) : ∀ (f : Nat) {v2 : Int32} {v3 : Int32} {v4 : Int32} {lv : List (Nat × Value)} {m : xS} {x : Unit × xS}, zld lv 0 = some (.ref 44) → zld lv 1 = some (.ref 9) → zld lv 2 = some (.int v2) → zld lv 3 = some (.int v3) → zld lv 4 = some (.int v4) → D3_44_9_5 F f v2 v3 v4 m = some x → zR none e 5 none zc3 (5, lv, []) (xW B m) (none, xW B x.2) := by
  intro f
  induction f with
  | zero => intro v2 v3 v4 lv m x l0 l1 l2 l3 l4 h; cases h
  | succ f ih =>
    intro v2 v3 v4 lv m x l0 l1 l2 l3 l4 h
    unfold D3_44_9_5 at h
    refine q_li (k := 2) (i := 4) (q := (.iload 4, 2, 0, 0, .null)) rfl (fun _ => rfl) l4 ?_
    refine q_lr (k := 1) (i := 1) (q := (.aload_n 1, 1, 0, 0, .null)) rfl (fun _ => rfl) l1 ?_
    obtain ⟨q8, h8, h⟩ := xbind h
    refine r_call (ix := 9) (as := []) (rest := [.int v4]) (rv := some (.int q8.1)) (hp' := xW B q8.2) (pc := 8) rfl xr77 rfl rfl rfl (xkd H (by decide)) (Nat.le_of_ble_eq_true rfl) (Z77_9 H h8 (by omega)) (Nat.le_refl _) ?_
    refine r_ifc (len := 3) (a := 43) (b := 0) (v0 := .null) (cn := .ge) (off := 32) rfl (fun c => ?_) (fun c => ?_)
    · rw [if_pos c] at h
      refine q_li (k := 1) (i := 3) (q := (.iload_n 3, 1, 0, 0, .null)) rfl (fun _ => rfl) l3 ?_
      refine q_li (k := 1) (i := 2) (q := (.iload_n 2, 1, 0, 0, .null)) rfl (fun _ => rfl) l2 ?_
      refine r_s (fr' := (46, lv, [.int (-1), .int v2, .int v3])) (hp' := xW B q8.2) (q := (.iconst (-1), 1, 0, 0, .null)) rfl (fun _ => rfl) (Nat.le_refl _) ?_
      refine r_s (fr' := (47, lv, [.int (v2 ^^^ (-1)), .int v3])) (hp' := xW B q8.2) (q := (.ixor, 1, 0, 0, .null)) rfl (fun _ => rfl) (Nat.le_refl _) ?_
      refine r_s (fr' := (48, lv, [.int (v3 &&& (v2 ^^^ (-1)))])) (hp' := xW B q8.2) (q := (.iand, 1, 0, 0, .null)) rfl (fun _ => rfl) (Nat.le_refl _) ?_
      refine q_si (k := 1) (i := 3) (q := (.istore_n 3, 1, 0, 0, .null)) rfl (fun _ => rfl) (by decide) ?_
      have l0_1 : zld (zs1 lv 3 (.int (v3 &&& (v2 ^^^ (-1))))) 0 = some (.ref 44) := x_o1 l0 rfl rfl
      have l1_1 : zld (zs1 lv 3 (.int (v3 &&& (v2 ^^^ (-1))))) 1 = some (.ref 9) := x_o1 l1 rfl rfl
      have l2_1 : zld (zs1 lv 3 (.int (v3 &&& (v2 ^^^ (-1))))) 2 = some (.int v2) := x_o1 l2 rfl rfl
      have l3_1 : zld (zs1 lv 3 (.int (v3 &&& (v2 ^^^ (-1))))) 3 = some (.int (v3 &&& (v2 ^^^ (-1)))) := zs1_ld _ _ _
      have l4_1 : zld (zs1 lv 3 (.int (v3 &&& (v2 ^^^ (-1))))) 4 = some (.int v4) := x_o1 l4 rfl rfl
      generalize (zs1 lv 3 (.int (v3 &&& (v2 ^^^ (-1))))) = lv1 at *
      refine r_s (fr' := (50, lv1, [.int 0])) (hp' := xW B q8.2) (q := (.iconst 0, 1, 0, 0, .null)) rfl (fun _ => rfl) (Nat.le_refl _) ?_
      refine q_si (k := 2) (i := 4) (q := (.istore 4, 2, 0, 0, .null)) rfl (fun _ => rfl) (by decide) ?_
      have l0_2 : zld (zs1 lv1 4 (.int 0)) 0 = some (.ref 44) := x_o1 l0_1 rfl rfl
      have l1_2 : zld (zs1 lv1 4 (.int 0)) 1 = some (.ref 9) := x_o1 l1_1 rfl rfl
      have l2_2 : zld (zs1 lv1 4 (.int 0)) 2 = some (.int v2) := x_o1 l2_1 rfl rfl
      have l3_2 : zld (zs1 lv1 4 (.int 0)) 3 = some (.int (v3 &&& (v2 ^^^ (-1)))) := x_o1 l3_1 rfl rfl
      have l4_2 : zld (zs1 lv1 4 (.int 0)) 4 = some (.int 0) := zs1_ld _ _ _
      generalize (zs1 lv1 4 (.int 0)) = lv2 at *
      exact T3_44_9_52 H he F F l0_2 l1_2 l2_2 l3_2 l4_2 h
    · rw [if_neg (by rw [c]; decide)] at h
      refine q_lr (k := 1) (i := 0) (q := (.aload_n 0, 1, 0, 0, .null)) rfl (fun _ => rfl) l0 ?_
      refine r_gr (c := 47) H (pc := 15) rfl (by decide) (by decide) ?_
      refine q_li (k := 1) (i := 2) (q := (.iload_n 2, 1, 0, 0, .null)) rfl (fun _ => rfl) l2 ?_
      obtain ⟨c3, h⟩ := xif h
      refine q_al (n := 64) (v := (q8.2.1 47 (v2 : Int32).toNatClampNeg)) H (pc := 19) rfl (by decide) c3 rfl ?_
      refine q_li (k := 2) (i := 4) (q := (.iload 4, 2, 0, 0, .null)) rfl (fun _ => rfl) l4 ?_
      refine r_s (fr' := (23, lv, [.int ((q8.2.1 47 (v2 : Int32).toNatClampNeg) >>> (v4 &&& 31))])) (hp' := xW B q8.2) (q := (.ishr, 1, 0, 0, .null)) rfl (fun _ => rfl) (Nat.le_refl _) ?_
      refine r_s (fr' := (24, lv, [.int 1, .int ((q8.2.1 47 (v2 : Int32).toNatClampNeg) >>> (v4 &&& 31))])) (hp' := xW B q8.2) (q := (.iconst 1, 1, 0, 0, .null)) rfl (fun _ => rfl) (Nat.le_refl _) ?_
      refine r_s (fr' := (25, lv, [.int (((q8.2.1 47 (v2 : Int32).toNatClampNeg) >>> (v4 &&& 31)) &&& 1)])) (hp' := xW B q8.2) (q := (.iand, 1, 0, 0, .null)) rfl (fun _ => rfl) (Nat.le_refl _) ?_
      refine r_if (len := 3) (a := 37) (b := 0) (v0 := .null) (cn := .eq) (off := 12) rfl (fun c => ?_) (fun c => ?_)
      · rw [if_pos c] at h
        exact T3_44_9_37 H he F _ ih l0 l1 l2 l3 l4 h
      · rw [if_neg (by rw [c]; decide)] at h
        refine q_li (k := 1) (i := 3) (q := (.iload_n 3, 1, 0, 0, .null)) rfl (fun _ => rfl) l3 ?_
        refine q_lr (k := 1) (i := 1) (q := (.aload_n 1, 1, 0, 0, .null)) rfl (fun _ => rfl) l1 ?_
        refine q_li (k := 2) (i := 4) (q := (.iload 4, 2, 0, 0, .null)) rfl (fun _ => rfl) l4 ?_
        obtain ⟨q32, h32, h⟩ := xbind h
        refine r_call (ix := 9) (as := [.int v4]) (rest := [.int v3]) (rv := some (.int q32.1)) (hp' := xW B q32.2) (pc := 32) rfl xr91 rfl rfl rfl (xkd H (by decide)) (Nat.le_of_ble_eq_true rfl) (Z91_9 H h32 (by omega)) (Nat.le_refl _) ?_
        refine r_s (fr' := (36, lv, [.int (v3 ||| q32.1)])) (hp' := xW B q32.2) (q := (.ior, 1, 0, 0, .null)) rfl (fun _ => rfl) (Nat.le_refl _) ?_
        refine q_si (k := 1) (i := 3) (q := (.istore_n 3, 1, 0, 0, .null)) rfl (fun _ => rfl) (by decide) ?_
        have l0_4 : zld (zs1 lv 3 (.int (v3 ||| q32.1))) 0 = some (.ref 44) := x_o1 l0 rfl rfl
        have l1_4 : zld (zs1 lv 3 (.int (v3 ||| q32.1))) 1 = some (.ref 9) := x_o1 l1 rfl rfl
        have l2_4 : zld (zs1 lv 3 (.int (v3 ||| q32.1))) 2 = some (.int v2) := x_o1 l2 rfl rfl
        have l3_4 : zld (zs1 lv 3 (.int (v3 ||| q32.1))) 3 = some (.int (v3 ||| q32.1)) := zs1_ld _ _ _
        have l4_4 : zld (zs1 lv 3 (.int (v3 ||| q32.1))) 4 = some (.int v4) := x_o1 l4 rfl rfl
        generalize (zs1 lv 3 (.int (v3 ||| q32.1))) = lv4 at *
        exact T3_44_9_37 H he F _ ih l0_4 l1_4 l2_4 l3_4 l4_4 h
def D3_44_9 (F : Nat) (v2 : Int32) (m : xS) : Option (Unit × xS) :=
  D3_44_9_5 F F v2 0 0 m
set_option maxRecDepth 20000 in
theorem T3_44_9 {B : zHp} (H : yH0 B) {e : Nat} (he : 2 ≤ e + 1) (F : Nat) {v2 : Int32} {lv : List (Nat × Value)} {m : xS} {x : Unit × xS} (l0 : zld lv 0 = some (.ref 44)) (l1 : zld lv 1 = some (.ref 9)) (l2 : zld lv 2 = some (.int v2)) (h : D3_44_9 F v2 m = some x) : zR none e 5 none zc3 (0, lv, []) (xW B m) (none, xW B x.2) := by
  unfold D3_44_9 at h
  refine r_s (fr' := (1, lv, [.int 0])) (hp' := xW B m) (q := (.iconst 0, 1, 0, 0, .null)) rfl (fun _ => rfl) (Nat.le_refl _) ?_
  refine q_si (k := 1) (i := 3) (q := (.istore_n 3, 1, 0, 0, .null)) rfl (fun _ => rfl) (by decide) ?_
  have l0_1 : zld (zs1 lv 3 (.int 0)) 0 = some (.ref 44) := x_o1 l0 rfl rfl
  have l1_1 : zld (zs1 lv 3 (.int 0)) 1 = some (.ref 9) := x_o1 l1 rfl rfl
  have l2_1 : zld (zs1 lv 3 (.int 0)) 2 = some (.int v2) := x_o1 l2 rfl rfl
  have l3_1 : zld (zs1 lv 3 (.int 0)) 3 = some (.int 0) := zs1_ld _ _ _
  generalize (zs1 lv 3 (.int 0)) = lv1 at *
  refine r_s (fr' := (3, lv1, [.int 0])) (hp' := xW B m) (q := (.iconst 0, 1, 0, 0, .null)) rfl (fun _ => rfl) (Nat.le_refl _) ?_
  refine q_si (k := 2) (i := 4) (q := (.istore 4, 2, 0, 0, .null)) rfl (fun _ => rfl) (by decide) ?_
  have l0_2 : zld (zs1 lv1 4 (.int 0)) 0 = some (.ref 44) := x_o1 l0_1 rfl rfl
  have l1_2 : zld (zs1 lv1 4 (.int 0)) 1 = some (.ref 9) := x_o1 l1_1 rfl rfl
  have l2_2 : zld (zs1 lv1 4 (.int 0)) 2 = some (.int v2) := x_o1 l2_1 rfl rfl
  have l3_2 : zld (zs1 lv1 4 (.int 0)) 3 = some (.int 0) := x_o1 l3_1 rfl rfl
  have l4_2 : zld (zs1 lv1 4 (.int 0)) 4 = some (.int 0) := zs1_ld _ _ _
  generalize (zs1 lv1 4 (.int 0)) = lv2 at *
  exact T3_44_9_5 H he F F l0_2 l1_2 l2_2 l3_2 l4_2 h
set_option maxRecDepth 20000 in
theorem Z3_44_9 {B : zHp} (H : yH0 B) {F : Nat} {a2 : Int32} {m : xS} {x : Unit × xS} (h : D3_44_9 F a2 m = some x) {d : Nat} (hd : 2 ≤ d) : zCan d 3 [.ref 44, .ref 9, .int a2] (xW B m) (none, xW B x.2) := by
  obtain ⟨e, rfl⟩ : ∃ e, d = e + 1 := ⟨d - 1, by omega⟩
  refine zCan_body (nL := 5) (rt := none) (cd := zc3) (xg3) ⟨Nat.le_of_ble_eq_true rfl, by decide⟩ (Nat.le_refl _) ?_
  exact T3_44_9 H hd F rfl rfl rfl h
/-- LentTools$Chains.measure -/
def D1_44_9_124 (F : Nat) (g67 : Int32 → Int32 → Int32 → Int32 → Int32 → xS → Option (Unit × xS)) (v2 : Int32) (v3 : Int32) (v4 : Int32) (v5 : Int32) (v6 : Int32) (m : xS) : Option (Unit × xS) :=
  g67 v2 v3 v4 v5 (v6 + Int32.ofInt 1) m
set_option maxRecDepth 20000 in
theorem T1_44_9_124 {B : zHp} (H : yH0 B) {e : Nat} (he : 3 ≤ e + 1) (F : Nat) (g67 : Int32 → Int32 → Int32 → Int32 → Int32 → xS → Option (Unit × xS)) (k67 : ∀ {v2 : Int32} {v3 : Int32} {v4 : Int32} {v5 : Int32} {v6 : Int32} {lv : List (Nat × Value)} {m : xS} {x : Unit × xS}, zld lv 0 = some (.ref 44) → zld lv 1 = some (.ref 9) → zld lv 2 = some (.int v2) → zld lv 3 = some (.int v3) → zld lv 4 = some (.int v4) → zld lv 5 = some (.int v5) → zld lv 6 = some (.int v6) → g67 v2 v3 v4 v5 v6 m = some x → zR none e 7 none zc1 (67, lv, []) (xW B m) (none, xW B x.2)) {v2 : Int32} {v3 : Int32} {v4 : Int32} {v5 : Int32} {v6 : Int32} {lv : List (Nat × Value)} {m : xS} {x : Unit × xS} (l0 : zld lv 0 = some (.ref 44)) (l1 : zld lv 1 = some (.ref 9)) (l2 : zld lv 2 = some (.int v2)) (l3 : zld lv 3 = some (.int v3)) (l4 : zld lv 4 = some (.int v4)) (l5 : zld lv 5 = some (.int v5)) (l6 : zld lv 6 = some (.int v6)) (h : D1_44_9_124 F g67 v2 v3 v4 v5 v6 m = some x) : zR none e 7 none zc1 (124, lv, []) (xW B m) (none, xW B x.2) := by
  unfold D1_44_9_124 at h
  refine q_inc (i := 6) (n := 1) (q := (.iinc 6 1, 3, 0, 0, .null)) rfl (fun _ => rfl) l6 (by decide) ?_
  have l0_1 : zld (zs1 lv 6 (.int (v6 + Int32.ofInt 1))) 0 = some (.ref 44) := x_o1 l0 rfl rfl
  have l1_1 : zld (zs1 lv 6 (.int (v6 + Int32.ofInt 1))) 1 = some (.ref 9) := x_o1 l1 rfl rfl
  have l2_1 : zld (zs1 lv 6 (.int (v6 + Int32.ofInt 1))) 2 = some (.int v2) := x_o1 l2 rfl rfl
  have l3_1 : zld (zs1 lv 6 (.int (v6 + Int32.ofInt 1))) 3 = some (.int v3) := x_o1 l3 rfl rfl
  have l4_1 : zld (zs1 lv 6 (.int (v6 + Int32.ofInt 1))) 4 = some (.int v4) := x_o1 l4 rfl rfl
  have l5_1 : zld (zs1 lv 6 (.int (v6 + Int32.ofInt 1))) 5 = some (.int v5) := x_o1 l5 rfl rfl
  have l6_1 : zld (zs1 lv 6 (.int (v6 + Int32.ofInt 1))) 6 = some (.int (v6 + Int32.ofInt 1)) := zs1_ld _ _ _
  generalize (zs1 lv 6 (.int (v6 + Int32.ofInt 1))) = lv1 at *
  refine r_s (fr' := (67, lv1, [])) (hp' := xW B m) (q := (.goto (-60), 3, 67, 0, .null)) rfl (fun _ => rfl) (Nat.le_refl _) ?_
  exact k67 l0_1 l1_1 l2_1 l3_1 l4_1 l5_1 l6_1 h
def D1_44_9_67 (F : Nat) : Nat → Int32 → Int32 → Int32 → Int32 → Int32 → xS → Option (Unit × xS)
  | 0, _, _, _, _, _, _ => none
  | f + 1, v2, v3, v4, v5, v6, m =>
    if zcmp .ge v6 v5 = true then
      some ((), m)
    else
      if zcmp .ge v6 (Int32.ofNat 64) = true then
        some ((), m)
      else
        if xib v6 64 = true then
          if zcmp .eq (m.1 47 (v6 : Int32).toNatClampNeg) 0 = true then
            D1_44_9_124 F (D1_44_9_67 F f) v2 v3 v4 v5 v6 m
          else
            (D77_9 F m).bind fun q96 =>
              if xib v6 64 = true then
                (D280 F (v6 ^^^ v4) q96.2).bind fun q111 =>
                  (D2_44 F q96.1 (q96.2.1 47 (v6 : Int32).toNatClampNeg) q111.1 q111.2).bind fun q114 =>
                    (D3_44_9 F v6 q114.2).bind fun q121 =>
                      D1_44_9_124 F (D1_44_9_67 F f) v2 v3 v4 v5 v6 q121.2
              else none
        else none
set_option maxRecDepth 20000 in
theorem T1_44_9_67 {B : zHp} (H : yH0 B) {e : Nat} (he : 3 ≤ e + 1) (F : Nat) : ∀ (f : Nat) {v2 : Int32} {v3 : Int32} {v4 : Int32} {v5 : Int32} {v6 : Int32} {lv : List (Nat × Value)} {m : xS} {x : Unit × xS}, zld lv 0 = some (.ref 44) → zld lv 1 = some (.ref 9) → zld lv 2 = some (.int v2) → zld lv 3 = some (.int v3) → zld lv 4 = some (.int v4) → zld lv 5 = some (.int v5) → zld lv 6 = some (.int v6) → D1_44_9_67 F f v2 v3 v4 v5 v6 m = some x → zR none e 7 none zc1 (67, lv, []) (xW B m) (none, xW B x.2) := by
  intro f
  induction f with
  | zero => intro v2 v3 v4 v5 v6 lv m x l0 l1 l2 l3 l4 l5 l6 h; cases h
  | succ f ih =>
    intro v2 v3 v4 v5 v6 lv m x l0 l1 l2 l3 l4 l5 l6 h
    unfold D1_44_9_67 at h
    refine q_li (k := 2) (i := 6) (q := (.iload 6, 2, 0, 0, .null)) rfl (fun _ => rfl) l6 ?_
    refine q_li (k := 2) (i := 5) (q := (.iload 5, 2, 0, 0, .null)) rfl (fun _ => rfl) l5 ?_
    refine r_ifc (len := 3) (a := 130) (b := 0) (v0 := .null) (cn := .ge) (off := 59) rfl (fun c => ?_) (fun c => ?_)
    · rw [if_pos c] at h
      obtain rfl := Option.some.inj h
      exact r_ret (q := (.return_, 1, 0, 0, .null)) rfl rfl (fun _ => rfl)
    · rw [if_neg (by rw [c]; decide)] at h
      refine q_li (k := 2) (i := 6) (q := (.iload 6, 2, 0, 0, .null)) rfl (fun _ => rfl) l6 ?_
      refine q_lr (k := 1) (i := 0) (q := (.aload_n 0, 1, 0, 0, .null)) rfl (fun _ => rfl) l0 ?_
      refine r_gr (c := 47) H (pc := 77) rfl (by decide) (by decide) ?_
      refine q_len (n := 64) (k := 0) H (pc := 80) rfl (by decide) ?_
      refine r_ifc (len := 3) (a := 130) (b := 0) (v0 := .null) (cn := .ge) (off := 49) rfl (fun c => ?_) (fun c => ?_)
      · rw [if_pos c] at h
        obtain rfl := Option.some.inj h
        exact r_ret (q := (.return_, 1, 0, 0, .null)) rfl rfl (fun _ => rfl)
      · rw [if_neg (by rw [c]; decide)] at h
        refine q_lr (k := 1) (i := 0) (q := (.aload_n 0, 1, 0, 0, .null)) rfl (fun _ => rfl) l0 ?_
        refine r_gr (c := 47) H (pc := 85) rfl (by decide) (by decide) ?_
        refine q_li (k := 2) (i := 6) (q := (.iload 6, 2, 0, 0, .null)) rfl (fun _ => rfl) l6 ?_
        obtain ⟨c1, h⟩ := xif h
        refine q_al (n := 64) (v := (m.1 47 (v6 : Int32).toNatClampNeg)) H (pc := 90) rfl (by decide) c1 rfl ?_
        refine r_if (len := 3) (a := 124) (b := 0) (v0 := .null) (cn := .eq) (off := 33) rfl (fun c => ?_) (fun c => ?_)
        · rw [if_pos c] at h
          exact T1_44_9_124 H he F _ ih l0 l1 l2 l3 l4 l5 l6 h
        · rw [if_neg (by rw [c]; decide)] at h
          refine q_lr (k := 1) (i := 0) (q := (.aload_n 0, 1, 0, 0, .null)) rfl (fun _ => rfl) l0 ?_
          refine q_lr (k := 1) (i := 1) (q := (.aload_n 1, 1, 0, 0, .null)) rfl (fun _ => rfl) l1 ?_
          obtain ⟨q96, h96, h⟩ := xbind h
          refine r_call (ix := 9) (as := []) (rest := [.ref 44]) (rv := some (.int q96.1)) (hp' := xW B q96.2) (pc := 96) rfl xr77 rfl rfl rfl (xkd H (by decide)) (Nat.le_of_ble_eq_true rfl) (Z77_9 H h96 (by omega)) (Nat.le_refl _) ?_
          refine q_lr (k := 1) (i := 0) (q := (.aload_n 0, 1, 0, 0, .null)) rfl (fun _ => rfl) l0 ?_
          refine r_gr (c := 47) H (pc := 100) rfl (by decide) (by decide) ?_
          refine q_li (k := 2) (i := 6) (q := (.iload 6, 2, 0, 0, .null)) rfl (fun _ => rfl) l6 ?_
          obtain ⟨c2, h⟩ := xif h
          refine q_al (n := 64) (v := (q96.2.1 47 (v6 : Int32).toNatClampNeg)) H (pc := 105) rfl (by decide) c2 rfl ?_
          refine q_li (k := 2) (i := 6) (q := (.iload 6, 2, 0, 0, .null)) rfl (fun _ => rfl) l6 ?_
          refine q_li (k := 2) (i := 4) (q := (.iload 4, 2, 0, 0, .null)) rfl (fun _ => rfl) l4 ?_
          refine r_s (fr' := (111, lv, [.int (v6 ^^^ v4), .int (q96.2.1 47 (v6 : Int32).toNatClampNeg), .int q96.1, .ref 44])) (hp' := xW B q96.2) (q := (.ixor, 1, 0, 0, .null)) rfl (fun _ => rfl) (Nat.le_refl _) ?_
          obtain ⟨q111, h111, h⟩ := xbind h
          refine r_callS (as := [.int (v6 ^^^ v4)]) (rest := [.int (q96.2.1 47 (v6 : Int32).toNatClampNeg), .int q96.1, .ref 44]) (rv := some (.int q111.1)) (hp' := xW B q111.2) (pc := 111) rfl xr280 rfl rfl rfl (Nat.le_of_ble_eq_true rfl) (Z280 H h111 (by omega)) (Nat.le_refl _) ?_
          obtain ⟨q114, h114, h⟩ := xbind h
          refine r_call (ix := 44) (as := [.int q96.1, .int (q96.2.1 47 (v6 : Int32).toNatClampNeg), .int q111.1]) (rest := []) (rv := none) (hp' := xW B q114.2) (pc := 114) rfl xr2 rfl rfl rfl (xkd H (by decide)) (Nat.le_of_ble_eq_true rfl) (Z2_44 H h114 (by omega)) (Nat.le_refl _) ?_
          refine q_lr (k := 1) (i := 0) (q := (.aload_n 0, 1, 0, 0, .null)) rfl (fun _ => rfl) l0 ?_
          refine q_lr (k := 1) (i := 1) (q := (.aload_n 1, 1, 0, 0, .null)) rfl (fun _ => rfl) l1 ?_
          refine q_li (k := 2) (i := 6) (q := (.iload 6, 2, 0, 0, .null)) rfl (fun _ => rfl) l6 ?_
          obtain ⟨q121, h121, h⟩ := xbind h
          refine r_call (ix := 44) (as := [.ref 9, .int v6]) (rest := []) (rv := none) (hp' := xW B q121.2) (pc := 121) rfl xr3 rfl rfl rfl (xkd H (by decide)) (Nat.le_of_ble_eq_true rfl) (Z3_44_9 H h121 (by omega)) (Nat.le_refl _) ?_
          exact T1_44_9_124 H he F _ ih l0 l1 l2 l3 l4 l5 l6 h
def D1_44_9 (F : Nat) (v2 : Int32) (m : xS) : Option (Unit × xS) :=
  (D291_45 F (-1) m).bind fun q5 =>
    (D291_46 F (-1) q5.2).bind fun q13 =>
      (D291_47 F 0 q13.2).bind fun q21 =>
        (D87_9 F v2 3 q21.2).bind fun q27 =>
          (D87_9 F v2 0 q27.2).bind fun q38 =>
            if xib ((1 <<< (q27.1 &&& 31)) ||| (1 <<< (q38.1 &&& 31))) 64 = true then
              (D77_9 F (xu q38.2 47 (((1 <<< (q27.1 &&& 31)) ||| (1 <<< (q38.1 &&& 31))) : Int32).toNatClampNeg (1 <<< (q27.1 &&& 31)))).bind fun q57 =>
                D1_44_9_67 F F v2 q27.1 ((1 <<< (q27.1 &&& 31)) ||| (1 <<< (q38.1 &&& 31))) (1 <<< (q57.1 &&& 31)) ((1 <<< (q27.1 &&& 31)) ||| (1 <<< (q38.1 &&& 31))) q57.2
            else none
set_option maxRecDepth 20000 in
theorem T1_44_9 {B : zHp} (H : yH0 B) {e : Nat} (he : 3 ≤ e + 1) (F : Nat) {v2 : Int32} {lv : List (Nat × Value)} {m : xS} {x : Unit × xS} (l0 : zld lv 0 = some (.ref 44)) (l1 : zld lv 1 = some (.ref 9)) (l2 : zld lv 2 = some (.int v2)) (h : D1_44_9 F v2 m = some x) : zR none e 7 none zc1 (0, lv, []) (xW B m) (none, xW B x.2) := by
  unfold D1_44_9 at h
  refine q_lr (k := 1) (i := 0) (q := (.aload_n 0, 1, 0, 0, .null)) rfl (fun _ => rfl) l0 ?_
  refine r_gr (c := 45) H (pc := 1) rfl (by decide) (by decide) ?_
  refine r_s (fr' := (5, lv, [.int (-1), .ref 45])) (hp' := xW B m) (q := (.iconst (-1), 1, 0, 0, .null)) rfl (fun _ => rfl) (Nat.le_refl _) ?_
  obtain ⟨q5, h5, h⟩ := xbind h
  refine r_callS (as := [.ref 45, .int (-1)]) (rest := []) (rv := none) (hp' := xW B q5.2) (pc := 5) rfl xr291 rfl rfl rfl (Nat.le_of_ble_eq_true rfl) (Z291_45 H h5 (by omega)) (Nat.le_refl _) ?_
  refine q_lr (k := 1) (i := 0) (q := (.aload_n 0, 1, 0, 0, .null)) rfl (fun _ => rfl) l0 ?_
  refine r_gr (c := 46) H (pc := 9) rfl (by decide) (by decide) ?_
  refine r_s (fr' := (13, lv, [.int (-1), .ref 46])) (hp' := xW B q5.2) (q := (.iconst (-1), 1, 0, 0, .null)) rfl (fun _ => rfl) (Nat.le_refl _) ?_
  obtain ⟨q13, h13, h⟩ := xbind h
  refine r_callS (as := [.ref 46, .int (-1)]) (rest := []) (rv := none) (hp' := xW B q13.2) (pc := 13) rfl xr291 rfl rfl rfl (Nat.le_of_ble_eq_true rfl) (Z291_46 H h13 (by omega)) (Nat.le_refl _) ?_
  refine q_lr (k := 1) (i := 0) (q := (.aload_n 0, 1, 0, 0, .null)) rfl (fun _ => rfl) l0 ?_
  refine r_gr (c := 47) H (pc := 17) rfl (by decide) (by decide) ?_
  refine r_s (fr' := (21, lv, [.int 0, .ref 47])) (hp' := xW B q13.2) (q := (.iconst 0, 1, 0, 0, .null)) rfl (fun _ => rfl) (Nat.le_refl _) ?_
  obtain ⟨q21, h21, h⟩ := xbind h
  refine r_callS (as := [.ref 47, .int 0]) (rest := []) (rv := none) (hp' := xW B q21.2) (pc := 21) rfl xr291 rfl rfl rfl (Nat.le_of_ble_eq_true rfl) (Z291_47 H h21 (by omega)) (Nat.le_refl _) ?_
  refine q_lr (k := 1) (i := 1) (q := (.aload_n 1, 1, 0, 0, .null)) rfl (fun _ => rfl) l1 ?_
  refine q_li (k := 1) (i := 2) (q := (.iload_n 2, 1, 0, 0, .null)) rfl (fun _ => rfl) l2 ?_
  refine r_s (fr' := (27, lv, [.int 3, .int v2, .ref 9])) (hp' := xW B q21.2) (q := (.iconst 3, 1, 0, 0, .null)) rfl (fun _ => rfl) (Nat.le_refl _) ?_
  obtain ⟨q27, h27, h⟩ := xbind h
  refine r_call (ix := 9) (as := [.int v2, .int 3]) (rest := []) (rv := some (.int q27.1)) (hp' := xW B q27.2) (pc := 27) rfl xr87 rfl rfl rfl (xkd H (by decide)) (Nat.le_of_ble_eq_true rfl) (Z87_9 H h27 (by omega)) (Nat.le_refl _) ?_
  refine q_si (k := 1) (i := 3) (q := (.istore_n 3, 1, 0, 0, .null)) rfl (fun _ => rfl) (by decide) ?_
  have l0_1 : zld (zs1 lv 3 (.int q27.1)) 0 = some (.ref 44) := x_o1 l0 rfl rfl
  have l1_1 : zld (zs1 lv 3 (.int q27.1)) 1 = some (.ref 9) := x_o1 l1 rfl rfl
  have l2_1 : zld (zs1 lv 3 (.int q27.1)) 2 = some (.int v2) := x_o1 l2 rfl rfl
  have l3_1 : zld (zs1 lv 3 (.int q27.1)) 3 = some (.int q27.1) := zs1_ld _ _ _
  generalize (zs1 lv 3 (.int q27.1)) = lv1 at *
  refine r_s (fr' := (32, lv1, [.int 1])) (hp' := xW B q27.2) (q := (.iconst 1, 1, 0, 0, .null)) rfl (fun _ => rfl) (Nat.le_refl _) ?_
  refine q_li (k := 1) (i := 3) (q := (.iload_n 3, 1, 0, 0, .null)) rfl (fun _ => rfl) l3_1 ?_
  refine r_s (fr' := (34, lv1, [.int (1 <<< (q27.1 &&& 31))])) (hp' := xW B q27.2) (q := (.ishl, 1, 0, 0, .null)) rfl (fun _ => rfl) (Nat.le_refl _) ?_
  refine r_s (fr' := (35, lv1, [.int 1, .int (1 <<< (q27.1 &&& 31))])) (hp' := xW B q27.2) (q := (.iconst 1, 1, 0, 0, .null)) rfl (fun _ => rfl) (Nat.le_refl _) ?_
  refine q_lr (k := 1) (i := 1) (q := (.aload_n 1, 1, 0, 0, .null)) rfl (fun _ => rfl) l1_1 ?_
  refine q_li (k := 1) (i := 2) (q := (.iload_n 2, 1, 0, 0, .null)) rfl (fun _ => rfl) l2_1 ?_
  refine r_s (fr' := (38, lv1, [.int 0, .int v2, .ref 9, .int 1, .int (1 <<< (q27.1 &&& 31))])) (hp' := xW B q27.2) (q := (.iconst 0, 1, 0, 0, .null)) rfl (fun _ => rfl) (Nat.le_refl _) ?_
  obtain ⟨q38, h38, h⟩ := xbind h
  refine r_call (ix := 9) (as := [.int v2, .int 0]) (rest := [.int 1, .int (1 <<< (q27.1 &&& 31))]) (rv := some (.int q38.1)) (hp' := xW B q38.2) (pc := 38) rfl xr87 rfl rfl rfl (xkd H (by decide)) (Nat.le_of_ble_eq_true rfl) (Z87_9 H h38 (by omega)) (Nat.le_refl _) ?_
  refine r_s (fr' := (42, lv1, [.int (1 <<< (q38.1 &&& 31)), .int (1 <<< (q27.1 &&& 31))])) (hp' := xW B q38.2) (q := (.ishl, 1, 0, 0, .null)) rfl (fun _ => rfl) (Nat.le_refl _) ?_
  refine r_s (fr' := (43, lv1, [.int ((1 <<< (q27.1 &&& 31)) ||| (1 <<< (q38.1 &&& 31)))])) (hp' := xW B q38.2) (q := (.ior, 1, 0, 0, .null)) rfl (fun _ => rfl) (Nat.le_refl _) ?_
  refine q_si (k := 2) (i := 4) (q := (.istore 4, 2, 0, 0, .null)) rfl (fun _ => rfl) (by decide) ?_
  have l0_2 : zld (zs1 lv1 4 (.int ((1 <<< (q27.1 &&& 31)) ||| (1 <<< (q38.1 &&& 31))))) 0 = some (.ref 44) := x_o1 l0_1 rfl rfl
  have l1_2 : zld (zs1 lv1 4 (.int ((1 <<< (q27.1 &&& 31)) ||| (1 <<< (q38.1 &&& 31))))) 1 = some (.ref 9) := x_o1 l1_1 rfl rfl
  have l2_2 : zld (zs1 lv1 4 (.int ((1 <<< (q27.1 &&& 31)) ||| (1 <<< (q38.1 &&& 31))))) 2 = some (.int v2) := x_o1 l2_1 rfl rfl
  have l3_2 : zld (zs1 lv1 4 (.int ((1 <<< (q27.1 &&& 31)) ||| (1 <<< (q38.1 &&& 31))))) 3 = some (.int q27.1) := x_o1 l3_1 rfl rfl
  have l4_2 : zld (zs1 lv1 4 (.int ((1 <<< (q27.1 &&& 31)) ||| (1 <<< (q38.1 &&& 31))))) 4 = some (.int ((1 <<< (q27.1 &&& 31)) ||| (1 <<< (q38.1 &&& 31)))) := zs1_ld _ _ _
  generalize (zs1 lv1 4 (.int ((1 <<< (q27.1 &&& 31)) ||| (1 <<< (q38.1 &&& 31))))) = lv2 at *
  refine q_lr (k := 1) (i := 0) (q := (.aload_n 0, 1, 0, 0, .null)) rfl (fun _ => rfl) l0_2 ?_
  refine r_gr (c := 47) H (pc := 46) rfl (by decide) (by decide) ?_
  refine q_li (k := 2) (i := 4) (q := (.iload 4, 2, 0, 0, .null)) rfl (fun _ => rfl) l4_2 ?_
  refine r_s (fr' := (52, lv2, [.int 1, .int ((1 <<< (q27.1 &&& 31)) ||| (1 <<< (q38.1 &&& 31))), .ref 47])) (hp' := xW B q38.2) (q := (.iconst 1, 1, 0, 0, .null)) rfl (fun _ => rfl) (Nat.le_refl _) ?_
  refine q_li (k := 1) (i := 3) (q := (.iload_n 3, 1, 0, 0, .null)) rfl (fun _ => rfl) l3_2 ?_
  refine r_s (fr' := (54, lv2, [.int (1 <<< (q27.1 &&& 31)), .int ((1 <<< (q27.1 &&& 31)) ||| (1 <<< (q38.1 &&& 31))), .ref 47])) (hp' := xW B q38.2) (q := (.ishl, 1, 0, 0, .null)) rfl (fun _ => rfl) (Nat.le_refl _) ?_
  obtain ⟨c3, h⟩ := xif h
  refine q_as (n := 64) (s2 := (xu q38.2 47 (((1 <<< (q27.1 &&& 31)) ||| (1 <<< (q38.1 &&& 31))) : Int32).toNatClampNeg (1 <<< (q27.1 &&& 31)))) H (pc := 54) rfl (by decide) c3 rfl ?_
  refine r_s (fr' := (56, lv2, [.int 1])) (hp' := xW B (xu q38.2 47 (((1 <<< (q27.1 &&& 31)) ||| (1 <<< (q38.1 &&& 31))) : Int32).toNatClampNeg (1 <<< (q27.1 &&& 31)))) (q := (.iconst 1, 1, 0, 0, .null)) rfl (fun _ => rfl) (Nat.le_refl _) ?_
  refine q_lr (k := 1) (i := 1) (q := (.aload_n 1, 1, 0, 0, .null)) rfl (fun _ => rfl) l1_2 ?_
  obtain ⟨q57, h57, h⟩ := xbind h
  refine r_call (ix := 9) (as := []) (rest := [.int 1]) (rv := some (.int q57.1)) (hp' := xW B q57.2) (pc := 57) rfl xr77 rfl rfl rfl (xkd H (by decide)) (Nat.le_of_ble_eq_true rfl) (Z77_9 H h57 (by omega)) (Nat.le_refl _) ?_
  refine r_s (fr' := (61, lv2, [.int (1 <<< (q57.1 &&& 31))])) (hp' := xW B q57.2) (q := (.ishl, 1, 0, 0, .null)) rfl (fun _ => rfl) (Nat.le_refl _) ?_
  refine q_si (k := 2) (i := 5) (q := (.istore 5, 2, 0, 0, .null)) rfl (fun _ => rfl) (by decide) ?_
  have l0_4 : zld (zs1 lv2 5 (.int (1 <<< (q57.1 &&& 31)))) 0 = some (.ref 44) := x_o1 l0_2 rfl rfl
  have l1_4 : zld (zs1 lv2 5 (.int (1 <<< (q57.1 &&& 31)))) 1 = some (.ref 9) := x_o1 l1_2 rfl rfl
  have l2_4 : zld (zs1 lv2 5 (.int (1 <<< (q57.1 &&& 31)))) 2 = some (.int v2) := x_o1 l2_2 rfl rfl
  have l3_4 : zld (zs1 lv2 5 (.int (1 <<< (q57.1 &&& 31)))) 3 = some (.int q27.1) := x_o1 l3_2 rfl rfl
  have l4_4 : zld (zs1 lv2 5 (.int (1 <<< (q57.1 &&& 31)))) 4 = some (.int ((1 <<< (q27.1 &&& 31)) ||| (1 <<< (q38.1 &&& 31)))) := x_o1 l4_2 rfl rfl
  have l5_4 : zld (zs1 lv2 5 (.int (1 <<< (q57.1 &&& 31)))) 5 = some (.int (1 <<< (q57.1 &&& 31))) := zs1_ld _ _ _
  generalize (zs1 lv2 5 (.int (1 <<< (q57.1 &&& 31)))) = lv4 at *
  refine q_li (k := 2) (i := 4) (q := (.iload 4, 2, 0, 0, .null)) rfl (fun _ => rfl) l4_4 ?_
  refine q_si (k := 2) (i := 6) (q := (.istore 6, 2, 0, 0, .null)) rfl (fun _ => rfl) (by decide) ?_
  have l0_5 : zld (zs1 lv4 6 (.int ((1 <<< (q27.1 &&& 31)) ||| (1 <<< (q38.1 &&& 31))))) 0 = some (.ref 44) := x_o1 l0_4 rfl rfl
  have l1_5 : zld (zs1 lv4 6 (.int ((1 <<< (q27.1 &&& 31)) ||| (1 <<< (q38.1 &&& 31))))) 1 = some (.ref 9) := x_o1 l1_4 rfl rfl
  have l2_5 : zld (zs1 lv4 6 (.int ((1 <<< (q27.1 &&& 31)) ||| (1 <<< (q38.1 &&& 31))))) 2 = some (.int v2) := x_o1 l2_4 rfl rfl
  have l3_5 : zld (zs1 lv4 6 (.int ((1 <<< (q27.1 &&& 31)) ||| (1 <<< (q38.1 &&& 31))))) 3 = some (.int q27.1) := x_o1 l3_4 rfl rfl
  have l4_5 : zld (zs1 lv4 6 (.int ((1 <<< (q27.1 &&& 31)) ||| (1 <<< (q38.1 &&& 31))))) 4 = some (.int ((1 <<< (q27.1 &&& 31)) ||| (1 <<< (q38.1 &&& 31)))) := x_o1 l4_4 rfl rfl
  have l5_5 : zld (zs1 lv4 6 (.int ((1 <<< (q27.1 &&& 31)) ||| (1 <<< (q38.1 &&& 31))))) 5 = some (.int (1 <<< (q57.1 &&& 31))) := x_o1 l5_4 rfl rfl
  have l6_5 : zld (zs1 lv4 6 (.int ((1 <<< (q27.1 &&& 31)) ||| (1 <<< (q38.1 &&& 31))))) 6 = some (.int ((1 <<< (q27.1 &&& 31)) ||| (1 <<< (q38.1 &&& 31)))) := zs1_ld _ _ _
  generalize (zs1 lv4 6 (.int ((1 <<< (q27.1 &&& 31)) ||| (1 <<< (q38.1 &&& 31))))) = lv5 at *
  exact T1_44_9_67 H he F F l0_5 l1_5 l2_5 l3_5 l4_5 l5_5 l6_5 h
set_option maxRecDepth 20000 in
theorem Z1_44_9 {B : zHp} (H : yH0 B) {F : Nat} {a2 : Int32} {m : xS} {x : Unit × xS} (h : D1_44_9 F a2 m = some x) {d : Nat} (hd : 3 ≤ d) : zCan d 1 [.ref 44, .ref 9, .int a2] (xW B m) (none, xW B x.2) := by
  obtain ⟨e, rfl⟩ : ∃ e, d = e + 1 := ⟨d - 1, by omega⟩
  refine zCan_body (nL := 7) (rt := none) (cd := zc1) (xg1) ⟨Nat.le_of_ble_eq_true rfl, by decide⟩ (Nat.le_refl _) ?_
  exact T1_44_9 H hd F rfl rfl rfl h
/-- LentTools$Chains.noteRow -/
def D9_44_72 (F : Nat) (v1 : Int32) (m : xS) : Option (Unit × xS) :=
  some ((), (xu m 44 3 ((m.1 44 3) + 1)))
set_option maxRecDepth 20000 in
theorem T9_44_72 {B : zHp} (H : yH0 B) {e : Nat} (he : 1 ≤ e + 1) (F : Nat) {v1 : Int32} {lv : List (Nat × Value)} {m : xS} {x : Unit × xS} (l0 : zld lv 0 = some (.ref 44)) (l1 : zld lv 1 = some (.int v1)) (h : D9_44_72 F v1 m = some x) : zR none e 2 none zc9 (72, lv, []) (xW B m) (none, xW B x.2) := by
  unfold D9_44_72 at h
  refine q_lr (k := 1) (i := 0) (q := (.aload_n 0, 1, 0, 0, .null)) rfl (fun _ => rfl) l0 ?_
  refine r_s (fr' := (74, lv, [.ref 44, .ref 44])) (hp' := xW B m) (q := (.dup, 1, 0, 0, .null)) rfl (fun _ => rfl) (Nat.le_refl _) ?_
  refine r_gi (v := (m.1 44 3)) H (pc := 74) (i := _) rfl (by decide) (by decide) rfl ?_
  refine r_s (fr' := (78, lv, [.int 1, .int (m.1 44 3), .ref 44])) (hp' := xW B m) (q := (.iconst 1, 1, 0, 0, .null)) rfl (fun _ => rfl) (Nat.le_refl _) ?_
  refine r_s (fr' := (79, lv, [.int ((m.1 44 3) + 1), .ref 44])) (hp' := xW B m) (q := (.iadd, 1, 0, 0, .null)) rfl (fun _ => rfl) (Nat.le_refl _) ?_
  refine r_pi (s2 := (xu m 44 3 ((m.1 44 3) + 1))) H (pc := 79) rfl (by decide) rfl rfl ?_
  obtain rfl := Option.some.inj h
  exact r_ret (q := (.return_, 1, 0, 0, .null)) rfl rfl (fun _ => rfl)
def D9_44_46 (F : Nat) (v1 : Int32) (m : xS) : Option (Unit × xS) :=
  if zcmp .ne (m.1 44 3) 0 = true then
    D9_44_72 F v1 m
  else
    D9_44_72 F v1 (xcp (xu m 44 6 v1) 48 49 5)
set_option maxRecDepth 20000 in
theorem T9_44_46 {B : zHp} (H : yH0 B) {e : Nat} (he : 1 ≤ e + 1) (F : Nat) {v1 : Int32} {lv : List (Nat × Value)} {m : xS} {x : Unit × xS} (l0 : zld lv 0 = some (.ref 44)) (l1 : zld lv 1 = some (.int v1)) (h : D9_44_46 F v1 m = some x) : zR none e 2 none zc9 (46, lv, []) (xW B m) (none, xW B x.2) := by
  unfold D9_44_46 at h
  refine q_lr (k := 1) (i := 0) (q := (.aload_n 0, 1, 0, 0, .null)) rfl (fun _ => rfl) l0 ?_
  refine r_gi (v := (m.1 44 3)) H (pc := 47) (i := _) rfl (by decide) (by decide) rfl ?_
  refine r_if (len := 3) (a := 72) (b := 0) (v0 := .null) (cn := .ne) (off := 22) rfl (fun c => ?_) (fun c => ?_)
  · rw [if_pos c] at h
    exact T9_44_72 H he F l0 l1 h
  · rw [if_neg (by rw [c]; decide)] at h
    refine q_lr (k := 1) (i := 0) (q := (.aload_n 0, 1, 0, 0, .null)) rfl (fun _ => rfl) l0 ?_
    refine q_li (k := 1) (i := 1) (q := (.iload_n 1, 1, 0, 0, .null)) rfl (fun _ => rfl) l1 ?_
    refine r_pi (s2 := (xu m 44 6 v1)) H (pc := 55) rfl (by decide) rfl rfl ?_
    refine q_lr (k := 1) (i := 0) (q := (.aload_n 0, 1, 0, 0, .null)) rfl (fun _ => rfl) l0 ?_
    refine r_gr (c := 49) H (pc := 59) rfl (by decide) (by decide) ?_
    refine r_s (fr' := (63, lv, [.int 0, .ref 49])) (hp' := xW B (xu m 44 6 v1)) (q := (.iconst 0, 1, 0, 0, .null)) rfl (fun _ => rfl) (Nat.le_refl _) ?_
    refine q_lr (k := 1) (i := 0) (q := (.aload_n 0, 1, 0, 0, .null)) rfl (fun _ => rfl) l0 ?_
    refine r_gr (c := 48) H (pc := 64) rfl (by decide) (by decide) ?_
    refine r_s (fr' := (68, lv, [.int 0, .ref 48, .int 0, .ref 49])) (hp' := xW B (xu m 44 6 v1)) (q := (.iconst 0, 1, 0, 0, .null)) rfl (fun _ => rfl) (Nat.le_refl _) ?_
    refine r_s (fr' := (69, lv, [.int 5, .int 0, .ref 48, .int 0, .ref 49])) (hp' := xW B (xu m 44 6 v1)) (q := (.iconst 5, 1, 0, 0, .null)) rfl (fun _ => rfl) (Nat.le_refl _) ?_
    refine q_cpy (n := 5) (n0 := 5) (n1 := 5) H (pc := 69) rfl (by decide) (by decide) (by decide) (by decide) (by decide) (Nat.le_of_ble_eq_true rfl) ?_
    exact T9_44_72 H he F l0 l1 h
def D9_44_26 (F : Nat) (w0 : Int32) (m : xS) : Option (Unit × xS) :=
  if zcmp .le (m.1 44 10) 0 = true then
    D9_44_46 F w0 m
  else
    D9_44_46 F w0 (xu m 44 5 ((m.1 44 5) ||| (1 <<< (w0 &&& 31))))
set_option maxRecDepth 20000 in
theorem T9_44_26 {B : zHp} (H : yH0 B) {e : Nat} (he : 1 ≤ e + 1) (F : Nat) {w0 : Int32} {lv : List (Nat × Value)} {m : xS} {x : Unit × xS} (l0 : zld lv 0 = some (.ref 44)) (h : D9_44_26 F w0 m = some x) : zR none e 2 none zc9 (26, lv, [.int w0]) (xW B m) (none, xW B x.2) := by
  unfold D9_44_26 at h
  refine q_si (k := 1) (i := 1) (q := (.istore_n 1, 1, 0, 0, .null)) rfl (fun _ => rfl) (by decide) ?_
  have l0_1 : zld (zs1 lv 1 (.int w0)) 0 = some (.ref 44) := x_o1 l0 rfl rfl
  have l1_1 : zld (zs1 lv 1 (.int w0)) 1 = some (.int w0) := zs1_ld _ _ _
  generalize (zs1 lv 1 (.int w0)) = lv1 at *
  refine q_lr (k := 1) (i := 0) (q := (.aload_n 0, 1, 0, 0, .null)) rfl (fun _ => rfl) l0_1 ?_
  refine r_gi (v := (m.1 44 10)) H (pc := 28) (i := _) rfl (by decide) (by decide) rfl ?_
  refine r_if (len := 3) (a := 46) (b := 0) (v0 := .null) (cn := .le) (off := 15) rfl (fun c => ?_) (fun c => ?_)
  · rw [if_pos c] at h
    exact T9_44_46 H he F l0_1 l1_1 h
  · rw [if_neg (by rw [c]; decide)] at h
    refine q_lr (k := 1) (i := 0) (q := (.aload_n 0, 1, 0, 0, .null)) rfl (fun _ => rfl) l0_1 ?_
    refine r_s (fr' := (36, lv1, [.ref 44, .ref 44])) (hp' := xW B m) (q := (.dup, 1, 0, 0, .null)) rfl (fun _ => rfl) (Nat.le_refl _) ?_
    refine r_gi (v := (m.1 44 5)) H (pc := 36) (i := _) rfl (by decide) (by decide) rfl ?_
    refine r_s (fr' := (40, lv1, [.int 1, .int (m.1 44 5), .ref 44])) (hp' := xW B m) (q := (.iconst 1, 1, 0, 0, .null)) rfl (fun _ => rfl) (Nat.le_refl _) ?_
    refine q_li (k := 1) (i := 1) (q := (.iload_n 1, 1, 0, 0, .null)) rfl (fun _ => rfl) l1_1 ?_
    refine r_s (fr' := (42, lv1, [.int (1 <<< (w0 &&& 31)), .int (m.1 44 5), .ref 44])) (hp' := xW B m) (q := (.ishl, 1, 0, 0, .null)) rfl (fun _ => rfl) (Nat.le_refl _) ?_
    refine r_s (fr' := (43, lv1, [.int ((m.1 44 5) ||| (1 <<< (w0 &&& 31))), .ref 44])) (hp' := xW B m) (q := (.ior, 1, 0, 0, .null)) rfl (fun _ => rfl) (Nat.le_refl _) ?_
    refine r_pi (s2 := (xu m 44 5 ((m.1 44 5) ||| (1 <<< (w0 &&& 31))))) H (pc := 43) rfl (by decide) rfl rfl ?_
    exact T9_44_46 H he F l0_1 l1_1 h
def D9_44 (F : Nat) (m : xS) : Option (Unit × xS) :=
  if zcmp .lt (m.1 44 10) 2 = true then
    D9_44_26 F (m.1 44 8) m
  else
    if xib ((m.1 44 10) - 2) 5 = true then
      D9_44_26 F (m.1 49 (((m.1 44 10) - 2) : Int32).toNatClampNeg) m
    else none
set_option maxRecDepth 20000 in
theorem T9_44 {B : zHp} (H : yH0 B) {e : Nat} (he : 1 ≤ e + 1) (F : Nat) {lv : List (Nat × Value)} {m : xS} {x : Unit × xS} (l0 : zld lv 0 = some (.ref 44)) (h : D9_44 F m = some x) : zR none e 2 none zc9 (0, lv, []) (xW B m) (none, xW B x.2) := by
  unfold D9_44 at h
  refine q_lr (k := 1) (i := 0) (q := (.aload_n 0, 1, 0, 0, .null)) rfl (fun _ => rfl) l0 ?_
  refine r_gi (v := (m.1 44 10)) H (pc := 1) (i := _) rfl (by decide) (by decide) rfl ?_
  refine r_s (fr' := (5, lv, [.int 2, .int (m.1 44 10)])) (hp' := xW B m) (q := (.iconst 2, 1, 0, 0, .null)) rfl (fun _ => rfl) (Nat.le_refl _) ?_
  refine r_ifc (len := 3) (a := 22) (b := 0) (v0 := .null) (cn := .lt) (off := 17) rfl (fun c => ?_) (fun c => ?_)
  · rw [if_pos c] at h
    refine q_lr (k := 1) (i := 0) (q := (.aload_n 0, 1, 0, 0, .null)) rfl (fun _ => rfl) l0 ?_
    refine r_gi (v := (m.1 44 8)) H (pc := 23) (i := _) rfl (by decide) (by decide) rfl ?_
    exact T9_44_26 H he F l0 h
  · rw [if_neg (by rw [c]; decide)] at h
    refine q_lr (k := 1) (i := 0) (q := (.aload_n 0, 1, 0, 0, .null)) rfl (fun _ => rfl) l0 ?_
    refine r_gr (c := 49) H (pc := 9) rfl (by decide) (by decide) ?_
    refine q_lr (k := 1) (i := 0) (q := (.aload_n 0, 1, 0, 0, .null)) rfl (fun _ => rfl) l0 ?_
    refine r_gi (v := (m.1 44 10)) H (pc := 13) (i := _) rfl (by decide) (by decide) rfl ?_
    refine r_s (fr' := (17, lv, [.int 2, .int (m.1 44 10), .ref 49])) (hp' := xW B m) (q := (.iconst 2, 1, 0, 0, .null)) rfl (fun _ => rfl) (Nat.le_refl _) ?_
    refine r_s (fr' := (18, lv, [.int ((m.1 44 10) - 2), .ref 49])) (hp' := xW B m) (q := (.isub, 1, 0, 0, .null)) rfl (fun _ => rfl) (Nat.le_refl _) ?_
    obtain ⟨c1, h⟩ := xif h
    refine q_al (n := 5) (v := (m.1 49 (((m.1 44 10) - 2) : Int32).toNatClampNeg)) H (pc := 18) rfl (by decide) c1 rfl ?_
    refine r_s (fr' := (26, lv, [.int (m.1 49 (((m.1 44 10) - 2) : Int32).toNatClampNeg)])) (hp' := xW B m) (q := (.goto 7, 3, 26, 0, .null)) rfl (fun _ => rfl) (Nat.le_refl _) ?_
    exact T9_44_26 H he F l0 h
set_option maxRecDepth 20000 in
theorem Z9_44 {B : zHp} (H : yH0 B) {F : Nat} {m : xS} {x : Unit × xS} (h : D9_44 F m = some x) {d : Nat} (hd : 1 ≤ d) : zCan d 9 [.ref 44] (xW B m) (none, xW B x.2) := by
  obtain ⟨e, rfl⟩ : ∃ e, d = e + 1 := ⟨d - 1, by omega⟩
  refine zCan_body (nL := 2) (rt := none) (cd := zc9) (xg9) ⟨Nat.le_of_ble_eq_true rfl, by decide⟩ (Nat.le_refl _) ?_
  exact T9_44 H hd F rfl h
/-- LentTools$Chains.goOn -/
def D8_44_9_15 (F : Nat) (slf : Int32 → Int32 → Int32 → xS → Option (Unit × xS)) (v2 : Int32) (v3 : Int32) (v4 : Int32) (m : xS) : Option (Unit × xS) :=
  if zcmp .ne v2 (m.1 44 9) = true then
    some ((), m)
  else
    (D9_44 F m).bind fun q24 =>
      some ((), q24.2)
set_option maxRecDepth 20000 in
theorem T8_44_9_15 {B : zHp} (H : yH0 B) {e : Nat} (he : 3 ≤ e + 1) (F : Nat) (slf : Int32 → Int32 → Int32 → xS → Option (Unit × xS)) (kslf : ∀ {a2 : Int32} {a3 : Int32} {a4 : Int32} {m : xS} {x : Unit × xS}, slf a2 a3 a4 m = some x → zCan e 8 [.ref 44, .ref 9, .int a2, .int a3, .int a4] (xW B m) (none, xW B x.2)) {v2 : Int32} {v3 : Int32} {v4 : Int32} {lv : List (Nat × Value)} {m : xS} {x : Unit × xS} (l0 : zld lv 0 = some (.ref 44)) (l1 : zld lv 1 = some (.ref 9)) (l2 : zld lv 2 = some (.int v2)) (l3 : zld lv 3 = some (.int v3)) (l4 : zld lv 4 = some (.int v4)) (h : D8_44_9_15 F slf v2 v3 v4 m = some x) : zR none e 6 none zc8 (15, lv, []) (xW B m) (none, xW B x.2) := by
  unfold D8_44_9_15 at h
  refine q_li (k := 1) (i := 2) (q := (.iload_n 2, 1, 0, 0, .null)) rfl (fun _ => rfl) l2 ?_
  refine q_lr (k := 1) (i := 0) (q := (.aload_n 0, 1, 0, 0, .null)) rfl (fun _ => rfl) l0 ?_
  refine r_gi (v := (m.1 44 9)) H (pc := 17) (i := _) rfl (by decide) (by decide) rfl ?_
  refine r_ifc (len := 3) (a := 27) (b := 0) (v0 := .null) (cn := .ne) (off := 7) rfl (fun c => ?_) (fun c => ?_)
  · rw [if_pos c] at h
    obtain rfl := Option.some.inj h
    exact r_ret (q := (.return_, 1, 0, 0, .null)) rfl rfl (fun _ => rfl)
  · rw [if_neg (by rw [c]; decide)] at h
    refine q_lr (k := 1) (i := 0) (q := (.aload_n 0, 1, 0, 0, .null)) rfl (fun _ => rfl) l0 ?_
    obtain ⟨q24, h24, h⟩ := xbind h
    refine r_call (ix := 44) (as := []) (rest := []) (rv := none) (hp' := xW B q24.2) (pc := 24) rfl xr9 rfl rfl rfl (xkd H (by decide)) (Nat.le_of_ble_eq_true rfl) (Z9_44 H h24 (by omega)) (Nat.le_refl _) ?_
    obtain rfl := Option.some.inj h
    exact r_ret (q := (.return_, 1, 0, 0, .null)) rfl rfl (fun _ => rfl)
def D8_44_9_85 (F : Nat) (slf : Int32 → Int32 → Int32 → xS → Option (Unit × xS)) (g31 : Int32 → Int32 → Int32 → Int32 → xS → Option (Unit × xS)) (v2 : Int32) (v3 : Int32) (v4 : Int32) (v5 : Int32) (m : xS) : Option (Unit × xS) :=
  g31 v2 v3 v4 (v5 + Int32.ofInt 1) m
set_option maxRecDepth 20000 in
theorem T8_44_9_85 {B : zHp} (H : yH0 B) {e : Nat} (he : 3 ≤ e + 1) (F : Nat) (slf : Int32 → Int32 → Int32 → xS → Option (Unit × xS)) (kslf : ∀ {a2 : Int32} {a3 : Int32} {a4 : Int32} {m : xS} {x : Unit × xS}, slf a2 a3 a4 m = some x → zCan e 8 [.ref 44, .ref 9, .int a2, .int a3, .int a4] (xW B m) (none, xW B x.2)) (g31 : Int32 → Int32 → Int32 → Int32 → xS → Option (Unit × xS)) (k31 : ∀ {v2 : Int32} {v3 : Int32} {v4 : Int32} {v5 : Int32} {lv : List (Nat × Value)} {m : xS} {x : Unit × xS}, zld lv 0 = some (.ref 44) → zld lv 1 = some (.ref 9) → zld lv 2 = some (.int v2) → zld lv 3 = some (.int v3) → zld lv 4 = some (.int v4) → zld lv 5 = some (.int v5) → g31 v2 v3 v4 v5 m = some x → zR none e 6 none zc8 (31, lv, []) (xW B m) (none, xW B x.2)) {v2 : Int32} {v3 : Int32} {v4 : Int32} {v5 : Int32} {lv : List (Nat × Value)} {m : xS} {x : Unit × xS} (l0 : zld lv 0 = some (.ref 44)) (l1 : zld lv 1 = some (.ref 9)) (l2 : zld lv 2 = some (.int v2)) (l3 : zld lv 3 = some (.int v3)) (l4 : zld lv 4 = some (.int v4)) (l5 : zld lv 5 = some (.int v5)) (h : D8_44_9_85 F slf g31 v2 v3 v4 v5 m = some x) : zR none e 6 none zc8 (85, lv, []) (xW B m) (none, xW B x.2) := by
  unfold D8_44_9_85 at h
  refine q_inc (i := 5) (n := 1) (q := (.iinc 5 1, 3, 0, 0, .null)) rfl (fun _ => rfl) l5 (by decide) ?_
  have l0_1 : zld (zs1 lv 5 (.int (v5 + Int32.ofInt 1))) 0 = some (.ref 44) := x_o1 l0 rfl rfl
  have l1_1 : zld (zs1 lv 5 (.int (v5 + Int32.ofInt 1))) 1 = some (.ref 9) := x_o1 l1 rfl rfl
  have l2_1 : zld (zs1 lv 5 (.int (v5 + Int32.ofInt 1))) 2 = some (.int v2) := x_o1 l2 rfl rfl
  have l3_1 : zld (zs1 lv 5 (.int (v5 + Int32.ofInt 1))) 3 = some (.int v3) := x_o1 l3 rfl rfl
  have l4_1 : zld (zs1 lv 5 (.int (v5 + Int32.ofInt 1))) 4 = some (.int v4) := x_o1 l4 rfl rfl
  have l5_1 : zld (zs1 lv 5 (.int (v5 + Int32.ofInt 1))) 5 = some (.int (v5 + Int32.ofInt 1)) := zs1_ld _ _ _
  generalize (zs1 lv 5 (.int (v5 + Int32.ofInt 1))) = lv1 at *
  refine r_s (fr' := (31, lv1, [])) (hp' := xW B m) (q := (.goto (-57), 3, 31, 0, .null)) rfl (fun _ => rfl) (Nat.le_refl _) ?_
  exact k31 l0_1 l1_1 l2_1 l3_1 l4_1 l5_1 h
def D8_44_9_31 (F : Nat) (slf : Int32 → Int32 → Int32 → xS → Option (Unit × xS)) : Nat → Int32 → Int32 → Int32 → Int32 → xS → Option (Unit × xS)
  | 0, _, _, _, _, _ => none
  | f + 1, v2, v3, v4, v5, m =>
    (D77_9 F m).bind fun q34 =>
      if zcmp .ge v5 q34.1 = true then
        some ((), q34.2)
      else
        (D92_9 F v2 v5 q34.2).bind fun q44 =>
          if zcmp .eq q44.1 0 = true then
            D8_44_9_85 F slf (D8_44_9_31 F slf f) v2 v3 v4 v5 q44.2
          else
            if zcmp .ne ((v3 >>> (v5 &&& 31)) &&& 1) 0 = true then
              D8_44_9_85 F slf (D8_44_9_31 F slf f) v2 v3 v4 v5 q44.2
            else
              if xib v4 5 = true then
                (slf v5 (v3 ||| (1 <<< (v5 &&& 31))) (v4 + 1) (xu q44.2 49 (v4 : Int32).toNatClampNeg v5)).bind fun q82 =>
                  D8_44_9_85 F slf (D8_44_9_31 F slf f) v2 v3 v4 v5 q82.2
              else none
set_option maxRecDepth 20000 in
theorem T8_44_9_31 {B : zHp} (H : yH0 B) {e : Nat} (he : 3 ≤ e + 1) (F : Nat) (slf : Int32 → Int32 → Int32 → xS → Option (Unit × xS)) (kslf : ∀ {a2 : Int32} {a3 : Int32} {a4 : Int32} {m : xS} {x : Unit × xS}, slf a2 a3 a4 m = some x → zCan e 8 [.ref 44, .ref 9, .int a2, .int a3, .int a4] (xW B m) (none, xW B x.2)) : ∀ (f : Nat) {v2 : Int32} {v3 : Int32} {v4 : Int32} {v5 : Int32} {lv : List (Nat × Value)} {m : xS} {x : Unit × xS}, zld lv 0 = some (.ref 44) → zld lv 1 = some (.ref 9) → zld lv 2 = some (.int v2) → zld lv 3 = some (.int v3) → zld lv 4 = some (.int v4) → zld lv 5 = some (.int v5) → D8_44_9_31 F slf f v2 v3 v4 v5 m = some x → zR none e 6 none zc8 (31, lv, []) (xW B m) (none, xW B x.2) := by
  intro f
  induction f with
  | zero => intro v2 v3 v4 v5 lv m x l0 l1 l2 l3 l4 l5 h; cases h
  | succ f ih =>
    intro v2 v3 v4 v5 lv m x l0 l1 l2 l3 l4 l5 h
    unfold D8_44_9_31 at h
    refine q_li (k := 2) (i := 5) (q := (.iload 5, 2, 0, 0, .null)) rfl (fun _ => rfl) l5 ?_
    refine q_lr (k := 1) (i := 1) (q := (.aload_n 1, 1, 0, 0, .null)) rfl (fun _ => rfl) l1 ?_
    obtain ⟨q34, h34, h⟩ := xbind h
    refine r_call (ix := 9) (as := []) (rest := [.int v5]) (rv := some (.int q34.1)) (hp' := xW B q34.2) (pc := 34) rfl xr77 rfl rfl rfl (xkd H (by decide)) (Nat.le_of_ble_eq_true rfl) (Z77_9 H h34 (by omega)) (Nat.le_refl _) ?_
    refine r_ifc (len := 3) (a := 91) (b := 0) (v0 := .null) (cn := .ge) (off := 54) rfl (fun c => ?_) (fun c => ?_)
    · rw [if_pos c] at h
      obtain rfl := Option.some.inj h
      exact r_ret (q := (.return_, 1, 0, 0, .null)) rfl rfl (fun _ => rfl)
    · rw [if_neg (by rw [c]; decide)] at h
      refine q_lr (k := 1) (i := 1) (q := (.aload_n 1, 1, 0, 0, .null)) rfl (fun _ => rfl) l1 ?_
      refine q_li (k := 1) (i := 2) (q := (.iload_n 2, 1, 0, 0, .null)) rfl (fun _ => rfl) l2 ?_
      refine q_li (k := 2) (i := 5) (q := (.iload 5, 2, 0, 0, .null)) rfl (fun _ => rfl) l5 ?_
      obtain ⟨q44, h44, h⟩ := xbind h
      refine r_call (ix := 9) (as := [.int v2, .int v5]) (rest := []) (rv := some (.int q44.1)) (hp' := xW B q44.2) (pc := 44) rfl xr92 rfl rfl rfl (xkd H (by decide)) (Nat.le_of_ble_eq_true rfl) (Z92_9 H h44 (by omega)) (Nat.le_refl _) ?_
      refine r_if (len := 3) (a := 85) (b := 0) (v0 := .null) (cn := .eq) (off := 38) rfl (fun c => ?_) (fun c => ?_)
      · rw [if_pos c] at h
        exact T8_44_9_85 H he F slf kslf _ ih l0 l1 l2 l3 l4 l5 h
      · rw [if_neg (by rw [c]; decide)] at h
        refine q_li (k := 1) (i := 3) (q := (.iload_n 3, 1, 0, 0, .null)) rfl (fun _ => rfl) l3 ?_
        refine q_li (k := 2) (i := 5) (q := (.iload 5, 2, 0, 0, .null)) rfl (fun _ => rfl) l5 ?_
        refine r_s (fr' := (54, lv, [.int (v3 >>> (v5 &&& 31))])) (hp' := xW B q44.2) (q := (.ishr, 1, 0, 0, .null)) rfl (fun _ => rfl) (Nat.le_refl _) ?_
        refine r_s (fr' := (55, lv, [.int 1, .int (v3 >>> (v5 &&& 31))])) (hp' := xW B q44.2) (q := (.iconst 1, 1, 0, 0, .null)) rfl (fun _ => rfl) (Nat.le_refl _) ?_
        refine r_s (fr' := (56, lv, [.int ((v3 >>> (v5 &&& 31)) &&& 1)])) (hp' := xW B q44.2) (q := (.iand, 1, 0, 0, .null)) rfl (fun _ => rfl) (Nat.le_refl _) ?_
        refine r_if (len := 3) (a := 85) (b := 0) (v0 := .null) (cn := .ne) (off := 29) rfl (fun c => ?_) (fun c => ?_)
        · rw [if_pos c] at h
          exact T8_44_9_85 H he F slf kslf _ ih l0 l1 l2 l3 l4 l5 h
        · rw [if_neg (by rw [c]; decide)] at h
          refine q_lr (k := 1) (i := 0) (q := (.aload_n 0, 1, 0, 0, .null)) rfl (fun _ => rfl) l0 ?_
          refine r_gr (c := 49) H (pc := 60) rfl (by decide) (by decide) ?_
          refine q_li (k := 2) (i := 4) (q := (.iload 4, 2, 0, 0, .null)) rfl (fun _ => rfl) l4 ?_
          refine q_li (k := 2) (i := 5) (q := (.iload 5, 2, 0, 0, .null)) rfl (fun _ => rfl) l5 ?_
          obtain ⟨c1, h⟩ := xif h
          refine q_as (n := 5) (s2 := (xu q44.2 49 (v4 : Int32).toNatClampNeg v5)) H (pc := 67) rfl (by decide) c1 rfl ?_
          refine q_lr (k := 1) (i := 0) (q := (.aload_n 0, 1, 0, 0, .null)) rfl (fun _ => rfl) l0 ?_
          refine q_lr (k := 1) (i := 1) (q := (.aload_n 1, 1, 0, 0, .null)) rfl (fun _ => rfl) l1 ?_
          refine q_li (k := 2) (i := 5) (q := (.iload 5, 2, 0, 0, .null)) rfl (fun _ => rfl) l5 ?_
          refine q_li (k := 1) (i := 3) (q := (.iload_n 3, 1, 0, 0, .null)) rfl (fun _ => rfl) l3 ?_
          refine r_s (fr' := (74, lv, [.int 1, .int v3, .int v5, .ref 9, .ref 44])) (hp' := xW B (xu q44.2 49 (v4 : Int32).toNatClampNeg v5)) (q := (.iconst 1, 1, 0, 0, .null)) rfl (fun _ => rfl) (Nat.le_refl _) ?_
          refine q_li (k := 2) (i := 5) (q := (.iload 5, 2, 0, 0, .null)) rfl (fun _ => rfl) l5 ?_
          refine r_s (fr' := (77, lv, [.int (1 <<< (v5 &&& 31)), .int v3, .int v5, .ref 9, .ref 44])) (hp' := xW B (xu q44.2 49 (v4 : Int32).toNatClampNeg v5)) (q := (.ishl, 1, 0, 0, .null)) rfl (fun _ => rfl) (Nat.le_refl _) ?_
          refine r_s (fr' := (78, lv, [.int (v3 ||| (1 <<< (v5 &&& 31))), .int v5, .ref 9, .ref 44])) (hp' := xW B (xu q44.2 49 (v4 : Int32).toNatClampNeg v5)) (q := (.ior, 1, 0, 0, .null)) rfl (fun _ => rfl) (Nat.le_refl _) ?_
          refine q_li (k := 2) (i := 4) (q := (.iload 4, 2, 0, 0, .null)) rfl (fun _ => rfl) l4 ?_
          refine r_s (fr' := (81, lv, [.int 1, .int v4, .int (v3 ||| (1 <<< (v5 &&& 31))), .int v5, .ref 9, .ref 44])) (hp' := xW B (xu q44.2 49 (v4 : Int32).toNatClampNeg v5)) (q := (.iconst 1, 1, 0, 0, .null)) rfl (fun _ => rfl) (Nat.le_refl _) ?_
          refine r_s (fr' := (82, lv, [.int (v4 + 1), .int (v3 ||| (1 <<< (v5 &&& 31))), .int v5, .ref 9, .ref 44])) (hp' := xW B (xu q44.2 49 (v4 : Int32).toNatClampNeg v5)) (q := (.iadd, 1, 0, 0, .null)) rfl (fun _ => rfl) (Nat.le_refl _) ?_
          obtain ⟨q82, h82, h⟩ := xbind h
          refine r_call (ix := 44) (as := [.ref 9, .int v5, .int (v3 ||| (1 <<< (v5 &&& 31))), .int (v4 + 1)]) (rest := []) (rv := none) (hp' := xW B q82.2) (pc := 82) rfl xr8 rfl rfl rfl (xkd H (by decide)) (Nat.le_of_ble_eq_true rfl) (kslf h82) (Nat.le_refl _) ?_
          exact T8_44_9_85 H he F slf kslf _ ih l0 l1 l2 l3 l4 l5 h
def D8_44_9 (F : Nat) (slf : Int32 → Int32 → Int32 → xS → Option (Unit × xS)) (v2 : Int32) (v3 : Int32) (v4 : Int32) (m : xS) : Option (Unit × xS) :=
  if zcmp .ge v4 (m.1 44 10) = true then
    D8_44_9_15 F slf v2 v3 v4 m
  else
    if zcmp .lt v4 5 = true then
      D8_44_9_31 F slf F v2 v3 v4 0 m
    else
      D8_44_9_15 F slf v2 v3 v4 m
set_option maxRecDepth 20000 in
theorem T8_44_9 {B : zHp} (H : yH0 B) {e : Nat} (he : 3 ≤ e + 1) (F : Nat) (slf : Int32 → Int32 → Int32 → xS → Option (Unit × xS)) (kslf : ∀ {a2 : Int32} {a3 : Int32} {a4 : Int32} {m : xS} {x : Unit × xS}, slf a2 a3 a4 m = some x → zCan e 8 [.ref 44, .ref 9, .int a2, .int a3, .int a4] (xW B m) (none, xW B x.2)) {v2 : Int32} {v3 : Int32} {v4 : Int32} {lv : List (Nat × Value)} {m : xS} {x : Unit × xS} (l0 : zld lv 0 = some (.ref 44)) (l1 : zld lv 1 = some (.ref 9)) (l2 : zld lv 2 = some (.int v2)) (l3 : zld lv 3 = some (.int v3)) (l4 : zld lv 4 = some (.int v4)) (h : D8_44_9 F slf v2 v3 v4 m = some x) : zR none e 6 none zc8 (0, lv, []) (xW B m) (none, xW B x.2) := by
  unfold D8_44_9 at h
  refine q_li (k := 2) (i := 4) (q := (.iload 4, 2, 0, 0, .null)) rfl (fun _ => rfl) l4 ?_
  refine q_lr (k := 1) (i := 0) (q := (.aload_n 0, 1, 0, 0, .null)) rfl (fun _ => rfl) l0 ?_
  refine r_gi (v := (m.1 44 10)) H (pc := 3) (i := _) rfl (by decide) (by decide) rfl ?_
  refine r_ifc (len := 3) (a := 15) (b := 0) (v0 := .null) (cn := .ge) (off := 9) rfl (fun c => ?_) (fun c => ?_)
  · rw [if_pos c] at h
    exact T8_44_9_15 H he F slf kslf l0 l1 l2 l3 l4 h
  · rw [if_neg (by rw [c]; decide)] at h
    refine q_li (k := 2) (i := 4) (q := (.iload 4, 2, 0, 0, .null)) rfl (fun _ => rfl) l4 ?_
    refine r_s (fr' := (12, lv, [.int 5, .int v4])) (hp' := xW B m) (q := (.iconst 5, 1, 0, 0, .null)) rfl (fun _ => rfl) (Nat.le_refl _) ?_
    refine r_ifc (len := 3) (a := 28) (b := 0) (v0 := .null) (cn := .lt) (off := 16) rfl (fun c => ?_) (fun c => ?_)
    · rw [if_pos c] at h
      refine r_s (fr' := (29, lv, [.int 0])) (hp' := xW B m) (q := (.iconst 0, 1, 0, 0, .null)) rfl (fun _ => rfl) (Nat.le_refl _) ?_
      refine q_si (k := 2) (i := 5) (q := (.istore 5, 2, 0, 0, .null)) rfl (fun _ => rfl) (by decide) ?_
      have l0_1 : zld (zs1 lv 5 (.int 0)) 0 = some (.ref 44) := x_o1 l0 rfl rfl
      have l1_1 : zld (zs1 lv 5 (.int 0)) 1 = some (.ref 9) := x_o1 l1 rfl rfl
      have l2_1 : zld (zs1 lv 5 (.int 0)) 2 = some (.int v2) := x_o1 l2 rfl rfl
      have l3_1 : zld (zs1 lv 5 (.int 0)) 3 = some (.int v3) := x_o1 l3 rfl rfl
      have l4_1 : zld (zs1 lv 5 (.int 0)) 4 = some (.int v4) := x_o1 l4 rfl rfl
      have l5_1 : zld (zs1 lv 5 (.int 0)) 5 = some (.int 0) := zs1_ld _ _ _
      generalize (zs1 lv 5 (.int 0)) = lv1 at *
      exact T8_44_9_31 H he F slf kslf F l0_1 l1_1 l2_1 l3_1 l4_1 l5_1 h
    · rw [if_neg (by rw [c]; decide)] at h
      exact T8_44_9_15 H he F slf kslf l0 l1 l2 l3 l4 h
def D8_44_9r (F : Nat) : Nat → Int32 → Int32 → Int32 → xS → Option (Unit × xS)
  | 0, _, _, _, _ => none
  | g + 1, a2, a3, a4, m => D8_44_9 F (D8_44_9r F g) a2 a3 a4 m
set_option maxRecDepth 20000 in
theorem Z8_44_9 {B : zHp} (H : yH0 B) {F : Nat} : ∀ (g : Nat) {a2 : Int32} {a3 : Int32} {a4 : Int32} {m : xS} {x : Unit × xS} (_ : D8_44_9r F g a2 a3 a4 m = some x) {d : Nat} (_ : 3 + g ≤ d), zCan d 8 [.ref 44, .ref 9, .int a2, .int a3, .int a4] (xW B m) (none, xW B x.2) := by
  intro g
  induction g with
  | zero => intro a2 a3 a4 m x h; cases h
  | succ g ih =>
    intro a2 a3 a4 m x h d hd
    have h : D8_44_9 F (D8_44_9r F g) a2 a3 a4 m = some x := h
    obtain ⟨e, rfl⟩ : ∃ e, d = e + 1 := ⟨d - 1, by omega⟩
    refine zCan_body (nL := 6) (rt := none) (cd := zc8) (xg8) ⟨Nat.le_of_ble_eq_true rfl, by decide⟩ (Nat.le_refl _) ?_
    exact T8_44_9 H (by omega) F (D8_44_9r F g) (fun h2 => ih h2 (by omega)) rfl rfl rfl rfl rfl h
/-- LentTools$Chains.listFrom -/
def D7_44_9 (F : Nat) (v2 : Int32) (v3 : Int32) (v4 : Int32) (v5 : Int32) (m : xS) : Option (Unit × xS) :=
  if zcmp .gt v5 5 = true then
    some ((), (xu (xu (xu (xu (xu (xu m 44 3 0) 44 5 0) 44 6 (-1)) 44 8 v2) 44 9 v4) 44 10 v5))
  else
    (D8_44_9r F 7 v2 ((1 <<< (v2 &&& 31)) ||| (1 <<< (v3 &&& 31))) 0 (xu (xu (xu (xu (xu (xu m 44 3 0) 44 5 0) 44 6 (-1)) 44 8 v2) 44 9 v4) 44 10 v5)).bind fun q49 =>
      some ((), q49.2)
set_option maxRecDepth 20000 in
theorem T7_44_9 {B : zHp} (H : yH0 B) {e : Nat} (he : 11 ≤ e + 1) (F : Nat) {v2 : Int32} {v3 : Int32} {v4 : Int32} {v5 : Int32} {lv : List (Nat × Value)} {m : xS} {x : Unit × xS} (l0 : zld lv 0 = some (.ref 44)) (l1 : zld lv 1 = some (.ref 9)) (l2 : zld lv 2 = some (.int v2)) (l3 : zld lv 3 = some (.int v3)) (l4 : zld lv 4 = some (.int v4)) (l5 : zld lv 5 = some (.int v5)) (h : D7_44_9 F v2 v3 v4 v5 m = some x) : zR none e 6 none zc7 (0, lv, []) (xW B m) (none, xW B x.2) := by
  unfold D7_44_9 at h
  refine q_lr (k := 1) (i := 0) (q := (.aload_n 0, 1, 0, 0, .null)) rfl (fun _ => rfl) l0 ?_
  refine r_s (fr' := (2, lv, [.int 0, .ref 44])) (hp' := xW B m) (q := (.iconst 0, 1, 0, 0, .null)) rfl (fun _ => rfl) (Nat.le_refl _) ?_
  refine r_pi (s2 := (xu m 44 3 0)) H (pc := 2) rfl (by decide) rfl rfl ?_
  refine q_lr (k := 1) (i := 0) (q := (.aload_n 0, 1, 0, 0, .null)) rfl (fun _ => rfl) l0 ?_
  refine r_s (fr' := (7, lv, [.int 0, .ref 44])) (hp' := xW B (xu m 44 3 0)) (q := (.iconst 0, 1, 0, 0, .null)) rfl (fun _ => rfl) (Nat.le_refl _) ?_
  refine r_pi (s2 := (xu (xu m 44 3 0) 44 5 0)) H (pc := 7) rfl (by decide) rfl rfl ?_
  refine q_lr (k := 1) (i := 0) (q := (.aload_n 0, 1, 0, 0, .null)) rfl (fun _ => rfl) l0 ?_
  refine r_s (fr' := (12, lv, [.int (-1), .ref 44])) (hp' := xW B (xu (xu m 44 3 0) 44 5 0)) (q := (.iconst (-1), 1, 0, 0, .null)) rfl (fun _ => rfl) (Nat.le_refl _) ?_
  refine r_pi (s2 := (xu (xu (xu m 44 3 0) 44 5 0) 44 6 (-1))) H (pc := 12) rfl (by decide) rfl rfl ?_
  refine q_lr (k := 1) (i := 0) (q := (.aload_n 0, 1, 0, 0, .null)) rfl (fun _ => rfl) l0 ?_
  refine q_li (k := 1) (i := 2) (q := (.iload_n 2, 1, 0, 0, .null)) rfl (fun _ => rfl) l2 ?_
  refine r_pi (s2 := (xu (xu (xu (xu m 44 3 0) 44 5 0) 44 6 (-1)) 44 8 v2)) H (pc := 17) rfl (by decide) rfl rfl ?_
  refine q_lr (k := 1) (i := 0) (q := (.aload_n 0, 1, 0, 0, .null)) rfl (fun _ => rfl) l0 ?_
  refine q_li (k := 2) (i := 4) (q := (.iload 4, 2, 0, 0, .null)) rfl (fun _ => rfl) l4 ?_
  refine r_pi (s2 := (xu (xu (xu (xu (xu m 44 3 0) 44 5 0) 44 6 (-1)) 44 8 v2) 44 9 v4)) H (pc := 23) rfl (by decide) rfl rfl ?_
  refine q_lr (k := 1) (i := 0) (q := (.aload_n 0, 1, 0, 0, .null)) rfl (fun _ => rfl) l0 ?_
  refine q_li (k := 2) (i := 5) (q := (.iload 5, 2, 0, 0, .null)) rfl (fun _ => rfl) l5 ?_
  refine r_pi (s2 := (xu (xu (xu (xu (xu (xu m 44 3 0) 44 5 0) 44 6 (-1)) 44 8 v2) 44 9 v4) 44 10 v5)) H (pc := 29) rfl (by decide) rfl rfl ?_
  refine q_li (k := 2) (i := 5) (q := (.iload 5, 2, 0, 0, .null)) rfl (fun _ => rfl) l5 ?_
  refine r_s (fr' := (35, lv, [.int 5, .int v5])) (hp' := xW B (xu (xu (xu (xu (xu (xu m 44 3 0) 44 5 0) 44 6 (-1)) 44 8 v2) 44 9 v4) 44 10 v5)) (q := (.iconst 5, 1, 0, 0, .null)) rfl (fun _ => rfl) (Nat.le_refl _) ?_
  refine r_ifc (len := 3) (a := 52) (b := 0) (v0 := .null) (cn := .gt) (off := 17) rfl (fun c => ?_) (fun c => ?_)
  · rw [if_pos c] at h
    obtain rfl := Option.some.inj h
    exact r_ret (q := (.return_, 1, 0, 0, .null)) rfl rfl (fun _ => rfl)
  · rw [if_neg (by rw [c]; decide)] at h
    refine q_lr (k := 1) (i := 0) (q := (.aload_n 0, 1, 0, 0, .null)) rfl (fun _ => rfl) l0 ?_
    refine q_lr (k := 1) (i := 1) (q := (.aload_n 1, 1, 0, 0, .null)) rfl (fun _ => rfl) l1 ?_
    refine q_li (k := 1) (i := 2) (q := (.iload_n 2, 1, 0, 0, .null)) rfl (fun _ => rfl) l2 ?_
    refine r_s (fr' := (42, lv, [.int 1, .int v2, .ref 9, .ref 44])) (hp' := xW B (xu (xu (xu (xu (xu (xu m 44 3 0) 44 5 0) 44 6 (-1)) 44 8 v2) 44 9 v4) 44 10 v5)) (q := (.iconst 1, 1, 0, 0, .null)) rfl (fun _ => rfl) (Nat.le_refl _) ?_
    refine q_li (k := 1) (i := 2) (q := (.iload_n 2, 1, 0, 0, .null)) rfl (fun _ => rfl) l2 ?_
    refine r_s (fr' := (44, lv, [.int (1 <<< (v2 &&& 31)), .int v2, .ref 9, .ref 44])) (hp' := xW B (xu (xu (xu (xu (xu (xu m 44 3 0) 44 5 0) 44 6 (-1)) 44 8 v2) 44 9 v4) 44 10 v5)) (q := (.ishl, 1, 0, 0, .null)) rfl (fun _ => rfl) (Nat.le_refl _) ?_
    refine r_s (fr' := (45, lv, [.int 1, .int (1 <<< (v2 &&& 31)), .int v2, .ref 9, .ref 44])) (hp' := xW B (xu (xu (xu (xu (xu (xu m 44 3 0) 44 5 0) 44 6 (-1)) 44 8 v2) 44 9 v4) 44 10 v5)) (q := (.iconst 1, 1, 0, 0, .null)) rfl (fun _ => rfl) (Nat.le_refl _) ?_
    refine q_li (k := 1) (i := 3) (q := (.iload_n 3, 1, 0, 0, .null)) rfl (fun _ => rfl) l3 ?_
    refine r_s (fr' := (47, lv, [.int (1 <<< (v3 &&& 31)), .int (1 <<< (v2 &&& 31)), .int v2, .ref 9, .ref 44])) (hp' := xW B (xu (xu (xu (xu (xu (xu m 44 3 0) 44 5 0) 44 6 (-1)) 44 8 v2) 44 9 v4) 44 10 v5)) (q := (.ishl, 1, 0, 0, .null)) rfl (fun _ => rfl) (Nat.le_refl _) ?_
    refine r_s (fr' := (48, lv, [.int ((1 <<< (v2 &&& 31)) ||| (1 <<< (v3 &&& 31))), .int v2, .ref 9, .ref 44])) (hp' := xW B (xu (xu (xu (xu (xu (xu m 44 3 0) 44 5 0) 44 6 (-1)) 44 8 v2) 44 9 v4) 44 10 v5)) (q := (.ior, 1, 0, 0, .null)) rfl (fun _ => rfl) (Nat.le_refl _) ?_
    refine r_s (fr' := (49, lv, [.int 0, .int ((1 <<< (v2 &&& 31)) ||| (1 <<< (v3 &&& 31))), .int v2, .ref 9, .ref 44])) (hp' := xW B (xu (xu (xu (xu (xu (xu m 44 3 0) 44 5 0) 44 6 (-1)) 44 8 v2) 44 9 v4) 44 10 v5)) (q := (.iconst 0, 1, 0, 0, .null)) rfl (fun _ => rfl) (Nat.le_refl _) ?_
    obtain ⟨q49, h49, h⟩ := xbind h
    refine r_call (ix := 44) (as := [.ref 9, .int v2, .int ((1 <<< (v2 &&& 31)) ||| (1 <<< (v3 &&& 31))), .int 0]) (rest := []) (rv := none) (hp' := xW B q49.2) (pc := 49) rfl xr8 rfl rfl rfl (xkd H (by decide)) (Nat.le_of_ble_eq_true rfl) (Z8_44_9 H 7 h49 (by omega)) (Nat.le_refl _) ?_
    obtain rfl := Option.some.inj h
    exact r_ret (q := (.return_, 1, 0, 0, .null)) rfl rfl (fun _ => rfl)
set_option maxRecDepth 20000 in
theorem Z7_44_9 {B : zHp} (H : yH0 B) {F : Nat} {a2 : Int32} {a3 : Int32} {a4 : Int32} {a5 : Int32} {m : xS} {x : Unit × xS} (h : D7_44_9 F a2 a3 a4 a5 m = some x) {d : Nat} (hd : 11 ≤ d) : zCan d 7 [.ref 44, .ref 9, .int a2, .int a3, .int a4, .int a5] (xW B m) (none, xW B x.2) := by
  obtain ⟨e, rfl⟩ : ∃ e, d = e + 1 := ⟨d - 1, by omega⟩
  refine zCan_body (nL := 6) (rt := none) (cd := zc7) (xg7) ⟨Nat.le_of_ble_eq_true rfl, by decide⟩ (Nat.le_refl _) ?_
  exact T7_44_9 H hd F rfl rfl rfl rfl rfl rfl h
/-- LentTools$Chains.listRows -/
def D5_44_9 (F : Nat) (v2 : Int32) (v3 : Int32) (v4 : Int32) (m : xS) : Option (Unit × xS) :=
  (D87_9 F v2 3 m).bind fun q5 =>
    (D87_9 F v2 0 q5.2).bind fun q11 =>
      (D7_44_9 F q5.1 q11.1 v3 v4 q11.2).bind fun q17 =>
        some ((), q17.2)
set_option maxRecDepth 20000 in
theorem T5_44_9 {B : zHp} (H : yH0 B) {e : Nat} (he : 12 ≤ e + 1) (F : Nat) {v2 : Int32} {v3 : Int32} {v4 : Int32} {lv : List (Nat × Value)} {m : xS} {x : Unit × xS} (l0 : zld lv 0 = some (.ref 44)) (l1 : zld lv 1 = some (.ref 9)) (l2 : zld lv 2 = some (.int v2)) (l3 : zld lv 3 = some (.int v3)) (l4 : zld lv 4 = some (.int v4)) (h : D5_44_9 F v2 v3 v4 m = some x) : zR none e 5 none zc5 (0, lv, []) (xW B m) (none, xW B x.2) := by
  unfold D5_44_9 at h
  refine q_lr (k := 1) (i := 0) (q := (.aload_n 0, 1, 0, 0, .null)) rfl (fun _ => rfl) l0 ?_
  refine q_lr (k := 1) (i := 1) (q := (.aload_n 1, 1, 0, 0, .null)) rfl (fun _ => rfl) l1 ?_
  refine q_lr (k := 1) (i := 1) (q := (.aload_n 1, 1, 0, 0, .null)) rfl (fun _ => rfl) l1 ?_
  refine q_li (k := 1) (i := 2) (q := (.iload_n 2, 1, 0, 0, .null)) rfl (fun _ => rfl) l2 ?_
  refine r_s (fr' := (5, lv, [.int 3, .int v2, .ref 9, .ref 9, .ref 44])) (hp' := xW B m) (q := (.iconst 3, 1, 0, 0, .null)) rfl (fun _ => rfl) (Nat.le_refl _) ?_
  obtain ⟨q5, h5, h⟩ := xbind h
  refine r_call (ix := 9) (as := [.int v2, .int 3]) (rest := [.ref 9, .ref 44]) (rv := some (.int q5.1)) (hp' := xW B q5.2) (pc := 5) rfl xr87 rfl rfl rfl (xkd H (by decide)) (Nat.le_of_ble_eq_true rfl) (Z87_9 H h5 (by omega)) (Nat.le_refl _) ?_
  refine q_lr (k := 1) (i := 1) (q := (.aload_n 1, 1, 0, 0, .null)) rfl (fun _ => rfl) l1 ?_
  refine q_li (k := 1) (i := 2) (q := (.iload_n 2, 1, 0, 0, .null)) rfl (fun _ => rfl) l2 ?_
  refine r_s (fr' := (11, lv, [.int 0, .int v2, .ref 9, .int q5.1, .ref 9, .ref 44])) (hp' := xW B q5.2) (q := (.iconst 0, 1, 0, 0, .null)) rfl (fun _ => rfl) (Nat.le_refl _) ?_
  obtain ⟨q11, h11, h⟩ := xbind h
  refine r_call (ix := 9) (as := [.int v2, .int 0]) (rest := [.int q5.1, .ref 9, .ref 44]) (rv := some (.int q11.1)) (hp' := xW B q11.2) (pc := 11) rfl xr87 rfl rfl rfl (xkd H (by decide)) (Nat.le_of_ble_eq_true rfl) (Z87_9 H h11 (by omega)) (Nat.le_refl _) ?_
  refine q_li (k := 1) (i := 3) (q := (.iload_n 3, 1, 0, 0, .null)) rfl (fun _ => rfl) l3 ?_
  refine q_li (k := 2) (i := 4) (q := (.iload 4, 2, 0, 0, .null)) rfl (fun _ => rfl) l4 ?_
  obtain ⟨q17, h17, h⟩ := xbind h
  refine r_call (ix := 44) (as := [.ref 9, .int q5.1, .int q11.1, .int v3, .int v4]) (rest := []) (rv := none) (hp' := xW B q17.2) (pc := 17) rfl xr7 rfl rfl rfl (xkd H (by decide)) (Nat.le_of_ble_eq_true rfl) (Z7_44_9 H h17 (by omega)) (Nat.le_refl _) ?_
  obtain rfl := Option.some.inj h
  exact r_ret (q := (.return_, 1, 0, 0, .null)) rfl rfl (fun _ => rfl)
set_option maxRecDepth 20000 in
theorem Z5_44_9 {B : zHp} (H : yH0 B) {F : Nat} {a2 : Int32} {a3 : Int32} {a4 : Int32} {m : xS} {x : Unit × xS} (h : D5_44_9 F a2 a3 a4 m = some x) {d : Nat} (hd : 12 ≤ d) : zCan d 5 [.ref 44, .ref 9, .int a2, .int a3, .int a4] (xW B m) (none, xW B x.2) := by
  obtain ⟨e, rfl⟩ : ∃ e, d = e + 1 := ⟨d - 1, by omega⟩
  refine zCan_body (nL := 5) (rt := none) (cd := zc5) (xg5) ⟨Nat.le_of_ble_eq_true rfl, by decide⟩ (Nat.le_refl _) ?_
  exact T5_44_9 H hd F rfl rfl rfl rfl rfl h
/-- LentTools.chain -/
def D141_0_34 (F : Nat) (v1 : Int32) (v2 : Int32) (v3 : Int32) (v4 : Int32) (m : xS) : Option (Int32 × xS) :=
  some ((-3), m)
set_option maxRecDepth 20000 in
theorem T141_0_34 {B : zHp} (H : yH0 B) {e : Nat} (he : 13 ≤ e + 1) (F : Nat) {v1 : Int32} {v2 : Int32} {v3 : Int32} {v4 : Int32} {lv : List (Nat × Value)} {m : xS} {x : Int32 × xS} (l0 : zld lv 0 = some (.ref 0)) (l1 : zld lv 1 = some (.int v1)) (l2 : zld lv 2 = some (.int v2)) (l3 : zld lv 3 = some (.int v3)) (l4 : zld lv 4 = some (.int v4)) (h : D141_0_34 F v1 v2 v3 v4 m = some x) : zR none e 6 (some .int) zc141 (34, lv, []) (xW B m) (some (.int x.1), xW B x.2) := by
  unfold D141_0_34 at h
  refine r_s (fr' := (36, lv, [.int (-3)])) (hp' := xW B m) (q := (.bipush (-3), 2, 0, 0, .null)) rfl (fun _ => rfl) (Nat.le_refl _) ?_
  obtain rfl := Option.some.inj h
  exact q_ri (q := (.ireturn, 1, 0, 0, .null)) rfl (fun _ => rfl) rfl rfl
def D141_0_74 (F : Nat) (v1 : Int32) (v2 : Int32) (v3 : Int32) (v4 : Int32) (w0 : Int32) (m : xS) : Option (Int32 × xS) :=
  if zcmp .ge w0 0 = true then
    if zcmp .ne v4 0 = true then
      if zcmp .ne v4 1 = true then
        if zcmp .lt (v4 - 2) w0 = true then
          (D5_44_9 F v1 v2 w0 m).bind fun q133 =>
            if xib (v4 - 2) 5 = true then
              some ((q133.2.1 48 ((v4 - 2) : Int32).toNatClampNeg), q133.2)
            else none
        else
          some ((-2), m)
      else
        (D100_9 F v1 w0 m).bind fun q105 =>
          some (q105.1, q105.2)
    else
      some (w0, m)
  else
    some ((-2), m)
set_option maxRecDepth 20000 in
theorem T141_0_74 {B : zHp} (H : yH0 B) {e : Nat} (he : 13 ≤ e + 1) (F : Nat) {v1 : Int32} {v2 : Int32} {v3 : Int32} {v4 : Int32} {w0 : Int32} {lv : List (Nat × Value)} {m : xS} {x : Int32 × xS} (l0 : zld lv 0 = some (.ref 0)) (l1 : zld lv 1 = some (.int v1)) (l2 : zld lv 2 = some (.int v2)) (l3 : zld lv 3 = some (.int v3)) (l4 : zld lv 4 = some (.int v4)) (h : D141_0_74 F v1 v2 v3 v4 w0 m = some x) : zR none e 6 (some .int) zc141 (74, lv, [.int w0]) (xW B m) (some (.int x.1), xW B x.2) := by
  unfold D141_0_74 at h
  refine q_si (k := 2) (i := 5) (q := (.istore 5, 2, 0, 0, .null)) rfl (fun _ => rfl) (by decide) ?_
  have l0_1 : zld (zs1 lv 5 (.int w0)) 0 = some (.ref 0) := x_o1 l0 rfl rfl
  have l1_1 : zld (zs1 lv 5 (.int w0)) 1 = some (.int v1) := x_o1 l1 rfl rfl
  have l2_1 : zld (zs1 lv 5 (.int w0)) 2 = some (.int v2) := x_o1 l2 rfl rfl
  have l3_1 : zld (zs1 lv 5 (.int w0)) 3 = some (.int v3) := x_o1 l3 rfl rfl
  have l4_1 : zld (zs1 lv 5 (.int w0)) 4 = some (.int v4) := x_o1 l4 rfl rfl
  have l5_1 : zld (zs1 lv 5 (.int w0)) 5 = some (.int w0) := zs1_ld _ _ _
  generalize (zs1 lv 5 (.int w0)) = lv1 at *
  refine q_li (k := 2) (i := 5) (q := (.iload 5, 2, 0, 0, .null)) rfl (fun _ => rfl) l5_1 ?_
  refine r_if (len := 3) (a := 84) (b := 0) (v0 := .null) (cn := .ge) (off := 6) rfl (fun c => ?_) (fun c => ?_)
  · rw [if_pos c] at h
    refine q_li (k := 2) (i := 4) (q := (.iload 4, 2, 0, 0, .null)) rfl (fun _ => rfl) l4_1 ?_
    refine r_if (len := 3) (a := 92) (b := 0) (v0 := .null) (cn := .ne) (off := 6) rfl (fun c => ?_) (fun c => ?_)
    · rw [if_pos c] at h
      refine q_li (k := 2) (i := 4) (q := (.iload 4, 2, 0, 0, .null)) rfl (fun _ => rfl) l4_1 ?_
      refine r_s (fr' := (95, lv1, [.int 1, .int v4])) (hp' := xW B m) (q := (.iconst 1, 1, 0, 0, .null)) rfl (fun _ => rfl) (Nat.le_refl _) ?_
      refine r_ifc (len := 3) (a := 109) (b := 0) (v0 := .null) (cn := .ne) (off := 14) rfl (fun c => ?_) (fun c => ?_)
      · rw [if_pos c] at h
        refine q_li (k := 2) (i := 4) (q := (.iload 4, 2, 0, 0, .null)) rfl (fun _ => rfl) l4_1 ?_
        refine r_s (fr' := (112, lv1, [.int 2, .int v4])) (hp' := xW B m) (q := (.iconst 2, 1, 0, 0, .null)) rfl (fun _ => rfl) (Nat.le_refl _) ?_
        refine r_s (fr' := (113, lv1, [.int (v4 - 2)])) (hp' := xW B m) (q := (.isub, 1, 0, 0, .null)) rfl (fun _ => rfl) (Nat.le_refl _) ?_
        refine q_li (k := 2) (i := 5) (q := (.iload 5, 2, 0, 0, .null)) rfl (fun _ => rfl) l5_1 ?_
        refine r_ifc (len := 3) (a := 121) (b := 0) (v0 := .null) (cn := .lt) (off := 6) rfl (fun c => ?_) (fun c => ?_)
        · rw [if_pos c] at h
          refine q_lr (k := 1) (i := 0) (q := (.aload_n 0, 1, 0, 0, .null)) rfl (fun _ => rfl) l0_1 ?_
          refine r_gr (c := 44) H (pc := 122) rfl (by decide) (by decide) ?_
          refine q_lr (k := 1) (i := 0) (q := (.aload_n 0, 1, 0, 0, .null)) rfl (fun _ => rfl) l0_1 ?_
          refine r_gr (c := 9) H (pc := 126) rfl (by decide) (by decide) ?_
          refine q_li (k := 1) (i := 1) (q := (.iload_n 1, 1, 0, 0, .null)) rfl (fun _ => rfl) l1_1 ?_
          refine q_li (k := 1) (i := 2) (q := (.iload_n 2, 1, 0, 0, .null)) rfl (fun _ => rfl) l2_1 ?_
          refine q_li (k := 2) (i := 5) (q := (.iload 5, 2, 0, 0, .null)) rfl (fun _ => rfl) l5_1 ?_
          obtain ⟨q133, h133, h⟩ := xbind h
          refine r_call (ix := 44) (as := [.ref 9, .int v1, .int v2, .int w0]) (rest := []) (rv := none) (hp' := xW B q133.2) (pc := 133) rfl xr5 rfl rfl rfl (xkd H (by decide)) (Nat.le_of_ble_eq_true rfl) (Z5_44_9 H h133 (by omega)) (Nat.le_refl _) ?_
          refine q_lr (k := 1) (i := 0) (q := (.aload_n 0, 1, 0, 0, .null)) rfl (fun _ => rfl) l0_1 ?_
          refine r_gr (c := 44) H (pc := 137) rfl (by decide) (by decide) ?_
          refine r_gr (c := 48) H (pc := 140) rfl (by decide) (by decide) ?_
          refine q_li (k := 2) (i := 4) (q := (.iload 4, 2, 0, 0, .null)) rfl (fun _ => rfl) l4_1 ?_
          refine r_s (fr' := (146, lv1, [.int 2, .int v4, .ref 48])) (hp' := xW B q133.2) (q := (.iconst 2, 1, 0, 0, .null)) rfl (fun _ => rfl) (Nat.le_refl _) ?_
          refine r_s (fr' := (147, lv1, [.int (v4 - 2), .ref 48])) (hp' := xW B q133.2) (q := (.isub, 1, 0, 0, .null)) rfl (fun _ => rfl) (Nat.le_refl _) ?_
          obtain ⟨c2, h⟩ := xif h
          refine q_al (n := 5) (v := (q133.2.1 48 ((v4 - 2) : Int32).toNatClampNeg)) H (pc := 147) rfl (by decide) c2 rfl ?_
          obtain rfl := Option.some.inj h
          exact q_ri (q := (.ireturn, 1, 0, 0, .null)) rfl (fun _ => rfl) rfl rfl
        · rw [if_neg (by rw [c]; decide)] at h
          refine r_s (fr' := (120, lv1, [.int (-2)])) (hp' := xW B m) (q := (.bipush (-2), 2, 0, 0, .null)) rfl (fun _ => rfl) (Nat.le_refl _) ?_
          obtain rfl := Option.some.inj h
          exact q_ri (q := (.ireturn, 1, 0, 0, .null)) rfl (fun _ => rfl) rfl rfl
      · rw [if_neg (by rw [c]; decide)] at h
        refine q_lr (k := 1) (i := 0) (q := (.aload_n 0, 1, 0, 0, .null)) rfl (fun _ => rfl) l0_1 ?_
        refine r_gr (c := 9) H (pc := 99) rfl (by decide) (by decide) ?_
        refine q_li (k := 1) (i := 1) (q := (.iload_n 1, 1, 0, 0, .null)) rfl (fun _ => rfl) l1_1 ?_
        refine q_li (k := 2) (i := 5) (q := (.iload 5, 2, 0, 0, .null)) rfl (fun _ => rfl) l5_1 ?_
        obtain ⟨q105, h105, h⟩ := xbind h
        refine r_call (ix := 9) (as := [.int v1, .int w0]) (rest := []) (rv := some (.int q105.1)) (hp' := xW B q105.2) (pc := 105) rfl xr100 rfl rfl rfl (xkd H (by decide)) (Nat.le_of_ble_eq_true rfl) (Z100_9 H h105 (by omega)) (Nat.le_refl _) ?_
        obtain rfl := Option.some.inj h
        exact q_ri (q := (.ireturn, 1, 0, 0, .null)) rfl (fun _ => rfl) rfl rfl
    · rw [if_neg (by rw [c]; decide)] at h
      refine q_li (k := 2) (i := 5) (q := (.iload 5, 2, 0, 0, .null)) rfl (fun _ => rfl) l5_1 ?_
      obtain rfl := Option.some.inj h
      exact q_ri (q := (.ireturn, 1, 0, 0, .null)) rfl (fun _ => rfl) rfl rfl
  · rw [if_neg (by rw [c]; decide)] at h
    refine r_s (fr' := (83, lv1, [.int (-2)])) (hp' := xW B m) (q := (.bipush (-2), 2, 0, 0, .null)) rfl (fun _ => rfl) (Nat.le_refl _) ?_
    obtain rfl := Option.some.inj h
    exact q_ri (q := (.ireturn, 1, 0, 0, .null)) rfl (fun _ => rfl) rfl rfl
def D141_0 (F : Nat) (v1 : Int32) (v2 : Int32) (v3 : Int32) (v4 : Int32) (m : xS) : Option (Int32 × xS) :=
  (D83_9 F v1 m).bind fun q5 =>
    if zcmp .eq q5.1 0 = true then
      D141_0_34 F v1 v2 v3 v4 q5.2
    else
      (D85_9 F v2 q5.2).bind fun q16 =>
        if zcmp .eq q16.1 0 = true then
          D141_0_34 F v1 v2 v3 v4 q16.2
        else
          if zcmp .lt v4 0 = true then
            D141_0_34 F v1 v2 v3 v4 q16.2
          else
            if zcmp .le v4 6 = true then
              (D1_44_9 F v1 q16.2).bind fun q46 =>
                if zcmp .eq v3 0 = true then
                  if xib v2 6 = true then
                    D141_0_74 F v1 v2 v3 v4 (q46.2.1 46 (v2 : Int32).toNatClampNeg) q46.2
                  else none
                else
                  if xib v2 6 = true then
                    D141_0_74 F v1 v2 v3 v4 (q46.2.1 45 (v2 : Int32).toNatClampNeg) q46.2
                  else none
            else
              D141_0_34 F v1 v2 v3 v4 q16.2
set_option maxRecDepth 20000 in
theorem T141_0 {B : zHp} (H : yH0 B) {e : Nat} (he : 13 ≤ e + 1) (F : Nat) {v1 : Int32} {v2 : Int32} {v3 : Int32} {v4 : Int32} {lv : List (Nat × Value)} {m : xS} {x : Int32 × xS} (l0 : zld lv 0 = some (.ref 0)) (l1 : zld lv 1 = some (.int v1)) (l2 : zld lv 2 = some (.int v2)) (l3 : zld lv 3 = some (.int v3)) (l4 : zld lv 4 = some (.int v4)) (h : D141_0 F v1 v2 v3 v4 m = some x) : zR none e 6 (some .int) zc141 (0, lv, []) (xW B m) (some (.int x.1), xW B x.2) := by
  unfold D141_0 at h
  refine q_lr (k := 1) (i := 0) (q := (.aload_n 0, 1, 0, 0, .null)) rfl (fun _ => rfl) l0 ?_
  refine r_gr (c := 9) H (pc := 1) rfl (by decide) (by decide) ?_
  refine q_li (k := 1) (i := 1) (q := (.iload_n 1, 1, 0, 0, .null)) rfl (fun _ => rfl) l1 ?_
  obtain ⟨q5, h5, h⟩ := xbind h
  refine r_call (ix := 9) (as := [.int v1]) (rest := []) (rv := some (.int q5.1)) (hp' := xW B q5.2) (pc := 5) rfl xr83 rfl rfl rfl (xkd H (by decide)) (Nat.le_of_ble_eq_true rfl) (Z83_9 H h5 (by omega)) (Nat.le_refl _) ?_
  refine r_if (len := 3) (a := 34) (b := 0) (v0 := .null) (cn := .eq) (off := 26) rfl (fun c => ?_) (fun c => ?_)
  · rw [if_pos c] at h
    exact T141_0_34 H he F l0 l1 l2 l3 l4 h
  · rw [if_neg (by rw [c]; decide)] at h
    refine q_lr (k := 1) (i := 0) (q := (.aload_n 0, 1, 0, 0, .null)) rfl (fun _ => rfl) l0 ?_
    refine r_gr (c := 9) H (pc := 12) rfl (by decide) (by decide) ?_
    refine q_li (k := 1) (i := 2) (q := (.iload_n 2, 1, 0, 0, .null)) rfl (fun _ => rfl) l2 ?_
    obtain ⟨q16, h16, h⟩ := xbind h
    refine r_call (ix := 9) (as := [.int v2]) (rest := []) (rv := some (.int q16.1)) (hp' := xW B q16.2) (pc := 16) rfl xr85 rfl rfl rfl (xkd H (by decide)) (Nat.le_of_ble_eq_true rfl) (Z85_9 H h16 (by omega)) (Nat.le_refl _) ?_
    refine r_if (len := 3) (a := 34) (b := 0) (v0 := .null) (cn := .eq) (off := 15) rfl (fun c => ?_) (fun c => ?_)
    · rw [if_pos c] at h
      exact T141_0_34 H he F l0 l1 l2 l3 l4 h
    · rw [if_neg (by rw [c]; decide)] at h
      refine q_li (k := 2) (i := 4) (q := (.iload 4, 2, 0, 0, .null)) rfl (fun _ => rfl) l4 ?_
      refine r_if (len := 3) (a := 34) (b := 0) (v0 := .null) (cn := .lt) (off := 10) rfl (fun c => ?_) (fun c => ?_)
      · rw [if_pos c] at h
        exact T141_0_34 H he F l0 l1 l2 l3 l4 h
      · rw [if_neg (by rw [c]; decide)] at h
        refine q_li (k := 2) (i := 4) (q := (.iload 4, 2, 0, 0, .null)) rfl (fun _ => rfl) l4 ?_
        refine r_s (fr' := (31, lv, [.int 6, .int v4])) (hp' := xW B q16.2) (q := (.bipush 6, 2, 0, 0, .null)) rfl (fun _ => rfl) (Nat.le_refl _) ?_
        refine r_ifc (len := 3) (a := 37) (b := 0) (v0 := .null) (cn := .le) (off := 6) rfl (fun c => ?_) (fun c => ?_)
        · rw [if_pos c] at h
          refine q_lr (k := 1) (i := 0) (q := (.aload_n 0, 1, 0, 0, .null)) rfl (fun _ => rfl) l0 ?_
          refine r_gr (c := 44) H (pc := 38) rfl (by decide) (by decide) ?_
          refine q_lr (k := 1) (i := 0) (q := (.aload_n 0, 1, 0, 0, .null)) rfl (fun _ => rfl) l0 ?_
          refine r_gr (c := 9) H (pc := 42) rfl (by decide) (by decide) ?_
          refine q_li (k := 1) (i := 1) (q := (.iload_n 1, 1, 0, 0, .null)) rfl (fun _ => rfl) l1 ?_
          obtain ⟨q46, h46, h⟩ := xbind h
          refine r_call (ix := 44) (as := [.ref 9, .int v1]) (rest := []) (rv := none) (hp' := xW B q46.2) (pc := 46) rfl xr1 rfl rfl rfl (xkd H (by decide)) (Nat.le_of_ble_eq_true rfl) (Z1_44_9 H h46 (by omega)) (Nat.le_refl _) ?_
          refine q_li (k := 1) (i := 3) (q := (.iload_n 3, 1, 0, 0, .null)) rfl (fun _ => rfl) l3 ?_
          refine r_if (len := 3) (a := 65) (b := 0) (v0 := .null) (cn := .eq) (off := 15) rfl (fun c => ?_) (fun c => ?_)
          · rw [if_pos c] at h
            refine q_lr (k := 1) (i := 0) (q := (.aload_n 0, 1, 0, 0, .null)) rfl (fun _ => rfl) l0 ?_
            refine r_gr (c := 44) H (pc := 66) rfl (by decide) (by decide) ?_
            refine r_gr (c := 46) H (pc := 69) rfl (by decide) (by decide) ?_
            refine q_li (k := 1) (i := 2) (q := (.iload_n 2, 1, 0, 0, .null)) rfl (fun _ => rfl) l2 ?_
            obtain ⟨c1, h⟩ := xif h
            refine q_al (n := 6) (v := (q46.2.1 46 (v2 : Int32).toNatClampNeg)) H (pc := 73) rfl (by decide) c1 rfl ?_
            exact T141_0_74 H he F l0 l1 l2 l3 l4 h
          · rw [if_neg (by rw [c]; decide)] at h
            refine q_lr (k := 1) (i := 0) (q := (.aload_n 0, 1, 0, 0, .null)) rfl (fun _ => rfl) l0 ?_
            refine r_gr (c := 44) H (pc := 54) rfl (by decide) (by decide) ?_
            refine r_gr (c := 45) H (pc := 57) rfl (by decide) (by decide) ?_
            refine q_li (k := 1) (i := 2) (q := (.iload_n 2, 1, 0, 0, .null)) rfl (fun _ => rfl) l2 ?_
            obtain ⟨c2, h⟩ := xif h
            refine q_al (n := 6) (v := (q46.2.1 45 (v2 : Int32).toNatClampNeg)) H (pc := 61) rfl (by decide) c2 rfl ?_
            refine r_s (fr' := (74, lv, [.int (q46.2.1 45 (v2 : Int32).toNatClampNeg)])) (hp' := xW B q46.2) (q := (.goto 12, 3, 74, 0, .null)) rfl (fun _ => rfl) (Nat.le_refl _) ?_
            exact T141_0_74 H he F l0 l1 l2 l3 l4 h
        · rw [if_neg (by rw [c]; decide)] at h
          exact T141_0_34 H he F l0 l1 l2 l3 l4 h
set_option maxRecDepth 20000 in
theorem Z141_0 {B : zHp} (H : yH0 B) {F : Nat} {a1 : Int32} {a2 : Int32} {a3 : Int32} {a4 : Int32} {m : xS} {x : Int32 × xS} (h : D141_0 F a1 a2 a3 a4 m = some x) {d : Nat} (hd : 13 ≤ d) : zCan d 141 [.ref 0, .int a1, .int a2, .int a3, .int a4] (xW B m) (some (.int x.1), xW B x.2) := by
  obtain ⟨e, rfl⟩ : ∃ e, d = e + 1 := ⟨d - 1, by omega⟩
  refine zCan_body (nL := 6) (rt := (some .int)) (cd := zc141) (xg141) ⟨Nat.le_of_ble_eq_true rfl, by decide⟩ (Nat.le_refl _) ?_
  exact T141_0 H hd F rfl rfl rfl rfl rfl h
