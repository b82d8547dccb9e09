/-! Methods as functions over the memory. -/
set_option maxRecDepth 4000 in
theorem xg19 : zg zms 19 = some (zm19.2.2.1, zm19.2.2.2.1, zc19) := rfl
theorem xr19 : zar 19 = (2, 3) := by decide +kernel
set_option maxRecDepth 4000 in
theorem xg20 : zg zms 20 = some (zm20.2.2.1, zm20.2.2.2.1, zc20) := rfl
theorem xr20 : zar 20 = (2, 3) := by decide +kernel
set_option maxRecDepth 4000 in
theorem xg21 : zg zms 21 = some (zm21.2.2.1, zm21.2.2.2.1, zc21) := rfl
theorem xr21 : zar 21 = (2, 3) := by decide +kernel
set_option maxRecDepth 4000 in
theorem xg22 : zg zms 22 = some (zm22.2.2.1, zm22.2.2.2.1, zc22) := rfl
theorem xr22 : zar 22 = (2, 3) := by decide +kernel
set_option maxRecDepth 4000 in
theorem xg23 : zg zms 23 = some (zm23.2.2.1, zm23.2.2.2.1, zc23) := rfl
theorem xr23 : zar 23 = (1, 3) := by decide +kernel
set_option maxRecDepth 4000 in
theorem xg24 : zg zms 24 = some (zm24.2.2.1, zm24.2.2.2.1, zc24) := rfl
theorem xr24 : zar 24 = (2, 3) := by decide +kernel
set_option maxRecDepth 4000 in
theorem xg142 : zg zms 142 = some (zm142.2.2.1, zm142.2.2.2.1, zc142) := rfl
theorem xr142 : zar 142 = (1, 10) := by decide +kernel
set_option maxRecDepth 4000 in
theorem xg143 : zg zms 143 = some (zm143.2.2.1, zm143.2.2.2.1, zc143) := rfl
theorem xr143 : zar 143 = (1, 10) := by decide +kernel
set_option maxRecDepth 4000 in
theorem xg144 : zg zms 144 = some (zm144.2.2.1, zm144.2.2.2.1, zc144) := rfl
theorem xr144 : zar 144 = (2, 10) := by decide +kernel
set_option maxRecDepth 4000 in
theorem xg145 : zg zms 145 = some (zm145.2.2.1, zm145.2.2.2.1, zc145) := rfl
theorem xr145 : zar 145 = (1, 10) := by decide +kernel
/-- java/util/Arrays.fill -/
def D291_52_5 (F : Nat) : Nat → Int32 → Int32 → Int32 → xS → Option (Unit × xS)
  | 0, _, _, _, _ => none
  | f + 1, v1, v2, v3, m =>
    if zcmp .ge v2 v3 = true then
      some ((), m)
    else
      if xib v2 6 = true then
        D291_52_5 F f v1 (v2 + Int32.ofInt 1) v3 (xu m 52 (v2 : Int32).toNatClampNeg v1)
      else none
set_option maxRecDepth 20000 in
theorem T291_52_5 {B : zHp} (H : yH0 B) {e : Nat} (he : 1 ≤ e + 1) (F : Nat) : ∀ (f : Nat) {v1 : Int32} {v2 : Int32} {v3 : Int32} {lv : List (Nat × Value)} {m : xS} {x : Unit × xS}, zld lv 0 = some (.ref 52) → zld lv 1 = some (.int v1) → zld lv 2 = some (.int v2) → zld lv 3 = some (.int v3) → D291_52_5 F f v1 v2 v3 m = some x → zR none e 4 none zc291 (5, lv, []) (xW B m) (none, xW B x.2) := by
  intro f
  induction f with
  | zero => intro v1 v2 v3 lv m x l0 l1 l2 l3 h; cases h
  | succ f ih =>
    intro v1 v2 v3 lv m x l0 l1 l2 l3 h
    unfold D291_52_5 at h
    refine q_li (k := 1) (i := 2) (q := (.iload_n 2, 1, 0, 0, .null)) rfl (fun _ => rfl) l2 ?_
    refine q_li (k := 1) (i := 3) (q := (.iload_n 3, 1, 0, 0, .null)) rfl (fun _ => rfl) l3 ?_
    refine r_ifc (len := 3) (a := 20) (b := 0) (v0 := .null) (cn := .ge) (off := 13) rfl (fun c => ?_) (fun c => ?_)
    · rw [if_pos c] at h
      obtain rfl := Option.some.inj h
      exact r_ret (q := (.return_, 1, 0, 0, .null)) rfl rfl (fun _ => rfl)
    · rw [if_neg (by rw [c]; decide)] at h
      refine q_lr (k := 1) (i := 0) (q := (.aload_n 0, 1, 0, 0, .null)) rfl (fun _ => rfl) l0 ?_
      refine q_li (k := 1) (i := 2) (q := (.iload_n 2, 1, 0, 0, .null)) rfl (fun _ => rfl) l2 ?_
      refine q_li (k := 1) (i := 1) (q := (.iload_n 1, 1, 0, 0, .null)) rfl (fun _ => rfl) l1 ?_
      obtain ⟨c1, h⟩ := xif h
      refine q_as (n := 6) (s2 := (xu m 52 (v2 : Int32).toNatClampNeg v1)) H (pc := 13) rfl (by decide) c1 rfl ?_
      refine q_inc (i := 2) (n := 1) (q := (.iinc 2 1, 3, 0, 0, .null)) rfl (fun _ => rfl) l2 (by decide) ?_
      have l0_2 : zld (zs1 lv 2 (.int (v2 + Int32.ofInt 1))) 0 = some (.ref 52) := x_o1 l0 rfl rfl
      have l1_2 : zld (zs1 lv 2 (.int (v2 + Int32.ofInt 1))) 1 = some (.int v1) := x_o1 l1 rfl rfl
      have l2_2 : zld (zs1 lv 2 (.int (v2 + Int32.ofInt 1))) 2 = some (.int (v2 + Int32.ofInt 1)) := zs1_ld _ _ _
      have l3_2 : zld (zs1 lv 2 (.int (v2 + Int32.ofInt 1))) 3 = some (.int v3) := x_o1 l3 rfl rfl
      generalize (zs1 lv 2 (.int (v2 + Int32.ofInt 1))) = lv2 at *
      refine r_s (fr' := (5, lv2, [])) (hp' := xW B (xu m 52 (v2 : Int32).toNatClampNeg v1)) (q := (.goto (-12), 3, 5, 0, .null)) rfl (fun _ => rfl) (Nat.le_refl _) ?_
      exact ih l0_2 l1_2 l2_2 l3_2 h
def D291_52 (F : Nat) (v1 : Int32) (m : xS) : Option (Unit × xS) :=
  D291_52_5 F F v1 0 (Int32.ofNat 6) m
set_option maxRecDepth 20000 in
theorem T291_52 {B : zHp} (H : yH0 B) {e : Nat} (he : 1 ≤ e + 1) (F : Nat) {v1 : Int32} {lv : List (Nat × Value)} {m : xS} {x : Unit × xS} (l0 : zld lv 0 = some (.ref 52)) (l1 : zld lv 1 = some (.int v1)) (h : D291_52 F v1 m = some x) : zR none e 4 none zc291 (0, lv, []) (xW B m) (none, xW B x.2) := by
  unfold D291_52 at h
  refine r_s (fr' := (1, lv, [.int 0])) (hp' := xW B m) (q := (.iconst 0, 1, 0, 0, .null)) rfl (fun _ => rfl) (Nat.le_refl _) ?_
  refine q_si (k := 1) (i := 2) (q := (.istore_n 2, 1, 0, 0, .null)) rfl (fun _ => rfl) (by decide) ?_
  have l0_1 : zld (zs1 lv 2 (.int 0)) 0 = some (.ref 52) := x_o1 l0 rfl rfl
  have l1_1 : zld (zs1 lv 2 (.int 0)) 1 = some (.int v1) := x_o1 l1 rfl rfl
  have l2_1 : zld (zs1 lv 2 (.int 0)) 2 = some (.int 0) := zs1_ld _ _ _
  generalize (zs1 lv 2 (.int 0)) = lv1 at *
  refine q_lr (k := 1) (i := 0) (q := (.aload_n 0, 1, 0, 0, .null)) rfl (fun _ => rfl) l0_1 ?_
  refine q_len (n := 6) (k := 0) H (pc := 3) rfl (by decide) ?_
  refine q_si (k := 1) (i := 3) (q := (.istore_n 3, 1, 0, 0, .null)) rfl (fun _ => rfl) (by decide) ?_
  have l0_2 : zld (zs1 lv1 3 (.int (Int32.ofNat 6))) 0 = some (.ref 52) := x_o1 l0_1 rfl rfl
  have l1_2 : zld (zs1 lv1 3 (.int (Int32.ofNat 6))) 1 = some (.int v1) := x_o1 l1_1 rfl rfl
  have l2_2 : zld (zs1 lv1 3 (.int (Int32.ofNat 6))) 2 = some (.int 0) := x_o1 l2_1 rfl rfl
  have l3_2 : zld (zs1 lv1 3 (.int (Int32.ofNat 6))) 3 = some (.int (Int32.ofNat 6)) := zs1_ld _ _ _
  generalize (zs1 lv1 3 (.int (Int32.ofNat 6))) = lv2 at *
  exact T291_52_5 H he F F l0_2 l1_2 l2_2 l3_2 h
set_option maxRecDepth 20000 in
theorem Z291_52 {B : zHp} (H : yH0 B) {F : Nat} {a1 : Int32} {m : xS} {x : Unit × xS} (h : D291_52 F a1 m = some x) {d : Nat} (hd : 1 ≤ d) : zCan d 291 [.ref 52, .int a1] (xW B m) (none, xW B x.2) := by
  obtain ⟨e, rfl⟩ : ∃ e, d = e + 1 := ⟨d - 1, by omega⟩
  refine zCan_body (nL := 4) (rt := none) (cd := zc291) (xg291) ⟨Nat.le_of_ble_eq_true rfl, by decide⟩ (Nat.le_refl _) ?_
  exact T291_52 H hd F rfl rfl h
/-- java/util/Arrays.fill -/
def D291_53_5 (F : Nat) : Nat → Int32 → Int32 → Int32 → xS → Option (Unit × xS)
  | 0, _, _, _, _ => none
  | f + 1, v1, v2, v3, m =>
    if zcmp .ge v2 v3 = true then
      some ((), m)
    else
      if xib v2 6 = true then
        D291_53_5 F f v1 (v2 + Int32.ofInt 1) v3 (xu m 53 (v2 : Int32).toNatClampNeg v1)
      else none
set_option maxRecDepth 20000 in
theorem T291_53_5 {B : zHp} (H : yH0 B) {e : Nat} (he : 1 ≤ e + 1) (F : Nat) : ∀ (f : Nat) {v1 : Int32} {v2 : Int32} {v3 : Int32} {lv : List (Nat × Value)} {m : xS} {x : Unit × xS}, zld lv 0 = some (.ref 53) → zld lv 1 = some (.int v1) → zld lv 2 = some (.int v2) → zld lv 3 = some (.int v3) → D291_53_5 F f v1 v2 v3 m = some x → zR none e 4 none zc291 (5, lv, []) (xW B m) (none, xW B x.2) := by
  intro f
  induction f with
  | zero => intro v1 v2 v3 lv m x l0 l1 l2 l3 h; cases h
  | succ f ih =>
    intro v1 v2 v3 lv m x l0 l1 l2 l3 h
    unfold D291_53_5 at h
    refine q_li (k := 1) (i := 2) (q := (.iload_n 2, 1, 0, 0, .null)) rfl (fun _ => rfl) l2 ?_
    refine q_li (k := 1) (i := 3) (q := (.iload_n 3, 1, 0, 0, .null)) rfl (fun _ => rfl) l3 ?_
    refine r_ifc (len := 3) (a := 20) (b := 0) (v0 := .null) (cn := .ge) (off := 13) rfl (fun c => ?_) (fun c => ?_)
    · rw [if_pos c] at h
      obtain rfl := Option.some.inj h
      exact r_ret (q := (.return_, 1, 0, 0, .null)) rfl rfl (fun _ => rfl)
    · rw [if_neg (by rw [c]; decide)] at h
      refine q_lr (k := 1) (i := 0) (q := (.aload_n 0, 1, 0, 0, .null)) rfl (fun _ => rfl) l0 ?_
      refine q_li (k := 1) (i := 2) (q := (.iload_n 2, 1, 0, 0, .null)) rfl (fun _ => rfl) l2 ?_
      refine q_li (k := 1) (i := 1) (q := (.iload_n 1, 1, 0, 0, .null)) rfl (fun _ => rfl) l1 ?_
      obtain ⟨c1, h⟩ := xif h
      refine q_as (n := 6) (s2 := (xu m 53 (v2 : Int32).toNatClampNeg v1)) H (pc := 13) rfl (by decide) c1 rfl ?_
      refine q_inc (i := 2) (n := 1) (q := (.iinc 2 1, 3, 0, 0, .null)) rfl (fun _ => rfl) l2 (by decide) ?_
      have l0_2 : zld (zs1 lv 2 (.int (v2 + Int32.ofInt 1))) 0 = some (.ref 53) := x_o1 l0 rfl rfl
      have l1_2 : zld (zs1 lv 2 (.int (v2 + Int32.ofInt 1))) 1 = some (.int v1) := x_o1 l1 rfl rfl
      have l2_2 : zld (zs1 lv 2 (.int (v2 + Int32.ofInt 1))) 2 = some (.int (v2 + Int32.ofInt 1)) := zs1_ld _ _ _
      have l3_2 : zld (zs1 lv 2 (.int (v2 + Int32.ofInt 1))) 3 = some (.int v3) := x_o1 l3 rfl rfl
      generalize (zs1 lv 2 (.int (v2 + Int32.ofInt 1))) = lv2 at *
      refine r_s (fr' := (5, lv2, [])) (hp' := xW B (xu m 53 (v2 : Int32).toNatClampNeg v1)) (q := (.goto (-12), 3, 5, 0, .null)) rfl (fun _ => rfl) (Nat.le_refl _) ?_
      exact ih l0_2 l1_2 l2_2 l3_2 h
def D291_53 (F : Nat) (v1 : Int32) (m : xS) : Option (Unit × xS) :=
  D291_53_5 F F v1 0 (Int32.ofNat 6) m
set_option maxRecDepth 20000 in
theorem T291_53 {B : zHp} (H : yH0 B) {e : Nat} (he : 1 ≤ e + 1) (F : Nat) {v1 : Int32} {lv : List (Nat × Value)} {m : xS} {x : Unit × xS} (l0 : zld lv 0 = some (.ref 53)) (l1 : zld lv 1 = some (.int v1)) (h : D291_53 F v1 m = some x) : zR none e 4 none zc291 (0, lv, []) (xW B m) (none, xW B x.2) := by
  unfold D291_53 at h
  refine r_s (fr' := (1, lv, [.int 0])) (hp' := xW B m) (q := (.iconst 0, 1, 0, 0, .null)) rfl (fun _ => rfl) (Nat.le_refl _) ?_
  refine q_si (k := 1) (i := 2) (q := (.istore_n 2, 1, 0, 0, .null)) rfl (fun _ => rfl) (by decide) ?_
  have l0_1 : zld (zs1 lv 2 (.int 0)) 0 = some (.ref 53) := x_o1 l0 rfl rfl
  have l1_1 : zld (zs1 lv 2 (.int 0)) 1 = some (.int v1) := x_o1 l1 rfl rfl
  have l2_1 : zld (zs1 lv 2 (.int 0)) 2 = some (.int 0) := zs1_ld _ _ _
  generalize (zs1 lv 2 (.int 0)) = lv1 at *
  refine q_lr (k := 1) (i := 0) (q := (.aload_n 0, 1, 0, 0, .null)) rfl (fun _ => rfl) l0_1 ?_
  refine q_len (n := 6) (k := 0) H (pc := 3) rfl (by decide) ?_
  refine q_si (k := 1) (i := 3) (q := (.istore_n 3, 1, 0, 0, .null)) rfl (fun _ => rfl) (by decide) ?_
  have l0_2 : zld (zs1 lv1 3 (.int (Int32.ofNat 6))) 0 = some (.ref 53) := x_o1 l0_1 rfl rfl
  have l1_2 : zld (zs1 lv1 3 (.int (Int32.ofNat 6))) 1 = some (.int v1) := x_o1 l1_1 rfl rfl
  have l2_2 : zld (zs1 lv1 3 (.int (Int32.ofNat 6))) 2 = some (.int 0) := x_o1 l2_1 rfl rfl
  have l3_2 : zld (zs1 lv1 3 (.int (Int32.ofNat 6))) 3 = some (.int (Int32.ofNat 6)) := zs1_ld _ _ _
  generalize (zs1 lv1 3 (.int (Int32.ofNat 6))) = lv2 at *
  exact T291_53_5 H he F F l0_2 l1_2 l2_2 l3_2 h
set_option maxRecDepth 20000 in
theorem Z291_53 {B : zHp} (H : yH0 B) {F : Nat} {a1 : Int32} {m : xS} {x : Unit × xS} (h : D291_53 F a1 m = some x) {d : Nat} (hd : 1 ≤ d) : zCan d 291 [.ref 53, .int a1] (xW B m) (none, xW B x.2) := by
  obtain ⟨e, rfl⟩ : ∃ e, d = e + 1 := ⟨d - 1, by omega⟩
  refine zCan_body (nL := 4) (rt := none) (cd := zc291) (xg291) ⟨Nat.le_of_ble_eq_true rfl, by decide⟩ (Nat.le_refl _) ?_
  exact T291_53 H hd F rfl rfl h
/-- java/util/Arrays.fill -/
def D291_54_5 (F : Nat) : Nat → Int32 → Int32 → Int32 → xS → Option (Unit × xS)
  | 0, _, _, _, _ => none
  | f + 1, v1, v2, v3, m =>
    if zcmp .ge v2 v3 = true then
      some ((), m)
    else
      if xib v2 64 = true then
        D291_54_5 F f v1 (v2 + Int32.ofInt 1) v3 (xu m 54 (v2 : Int32).toNatClampNeg v1)
      else none
set_option maxRecDepth 20000 in
theorem T291_54_5 {B : zHp} (H : yH0 B) {e : Nat} (he : 1 ≤ e + 1) (F : Nat) : ∀ (f : Nat) {v1 : Int32} {v2 : Int32} {v3 : Int32} {lv : List (Nat × Value)} {m : xS} {x : Unit × xS}, zld lv 0 = some (.ref 54) → zld lv 1 = some (.int v1) → zld lv 2 = some (.int v2) → zld lv 3 = some (.int v3) → D291_54_5 F f v1 v2 v3 m = some x → zR none e 4 none zc291 (5, lv, []) (xW B m) (none, xW B x.2) := by
  intro f
  induction f with
  | zero => intro v1 v2 v3 lv m x l0 l1 l2 l3 h; cases h
  | succ f ih =>
    intro v1 v2 v3 lv m x l0 l1 l2 l3 h
    unfold D291_54_5 at h
    refine q_li (k := 1) (i := 2) (q := (.iload_n 2, 1, 0, 0, .null)) rfl (fun _ => rfl) l2 ?_
    refine q_li (k := 1) (i := 3) (q := (.iload_n 3, 1, 0, 0, .null)) rfl (fun _ => rfl) l3 ?_
    refine r_ifc (len := 3) (a := 20) (b := 0) (v0 := .null) (cn := .ge) (off := 13) rfl (fun c => ?_) (fun c => ?_)
    · rw [if_pos c] at h
      obtain rfl := Option.some.inj h
      exact r_ret (q := (.return_, 1, 0, 0, .null)) rfl rfl (fun _ => rfl)
    · rw [if_neg (by rw [c]; decide)] at h
      refine q_lr (k := 1) (i := 0) (q := (.aload_n 0, 1, 0, 0, .null)) rfl (fun _ => rfl) l0 ?_
      refine q_li (k := 1) (i := 2) (q := (.iload_n 2, 1, 0, 0, .null)) rfl (fun _ => rfl) l2 ?_
      refine q_li (k := 1) (i := 1) (q := (.iload_n 1, 1, 0, 0, .null)) rfl (fun _ => rfl) l1 ?_
      obtain ⟨c1, h⟩ := xif h
      refine q_as (n := 64) (s2 := (xu m 54 (v2 : Int32).toNatClampNeg v1)) H (pc := 13) rfl (by decide) c1 rfl ?_
      refine q_inc (i := 2) (n := 1) (q := (.iinc 2 1, 3, 0, 0, .null)) rfl (fun _ => rfl) l2 (by decide) ?_
      have l0_2 : zld (zs1 lv 2 (.int (v2 + Int32.ofInt 1))) 0 = some (.ref 54) := x_o1 l0 rfl rfl
      have l1_2 : zld (zs1 lv 2 (.int (v2 + Int32.ofInt 1))) 1 = some (.int v1) := x_o1 l1 rfl rfl
      have l2_2 : zld (zs1 lv 2 (.int (v2 + Int32.ofInt 1))) 2 = some (.int (v2 + Int32.ofInt 1)) := zs1_ld _ _ _
      have l3_2 : zld (zs1 lv 2 (.int (v2 + Int32.ofInt 1))) 3 = some (.int v3) := x_o1 l3 rfl rfl
      generalize (zs1 lv 2 (.int (v2 + Int32.ofInt 1))) = lv2 at *
      refine r_s (fr' := (5, lv2, [])) (hp' := xW B (xu m 54 (v2 : Int32).toNatClampNeg v1)) (q := (.goto (-12), 3, 5, 0, .null)) rfl (fun _ => rfl) (Nat.le_refl _) ?_
      exact ih l0_2 l1_2 l2_2 l3_2 h
def D291_54 (F : Nat) (v1 : Int32) (m : xS) : Option (Unit × xS) :=
  D291_54_5 F F v1 0 (Int32.ofNat 64) m
set_option maxRecDepth 20000 in
theorem T291_54 {B : zHp} (H : yH0 B) {e : Nat} (he : 1 ≤ e + 1) (F : Nat) {v1 : Int32} {lv : List (Nat × Value)} {m : xS} {x : Unit × xS} (l0 : zld lv 0 = some (.ref 54)) (l1 : zld lv 1 = some (.int v1)) (h : D291_54 F v1 m = some x) : zR none e 4 none zc291 (0, lv, []) (xW B m) (none, xW B x.2) := by
  unfold D291_54 at h
  refine r_s (fr' := (1, lv, [.int 0])) (hp' := xW B m) (q := (.iconst 0, 1, 0, 0, .null)) rfl (fun _ => rfl) (Nat.le_refl _) ?_
  refine q_si (k := 1) (i := 2) (q := (.istore_n 2, 1, 0, 0, .null)) rfl (fun _ => rfl) (by decide) ?_
  have l0_1 : zld (zs1 lv 2 (.int 0)) 0 = some (.ref 54) := x_o1 l0 rfl rfl
  have l1_1 : zld (zs1 lv 2 (.int 0)) 1 = some (.int v1) := x_o1 l1 rfl rfl
  have l2_1 : zld (zs1 lv 2 (.int 0)) 2 = some (.int 0) := zs1_ld _ _ _
  generalize (zs1 lv 2 (.int 0)) = lv1 at *
  refine q_lr (k := 1) (i := 0) (q := (.aload_n 0, 1, 0, 0, .null)) rfl (fun _ => rfl) l0_1 ?_
  refine q_len (n := 64) (k := 0) H (pc := 3) rfl (by decide) ?_
  refine q_si (k := 1) (i := 3) (q := (.istore_n 3, 1, 0, 0, .null)) rfl (fun _ => rfl) (by decide) ?_
  have l0_2 : zld (zs1 lv1 3 (.int (Int32.ofNat 64))) 0 = some (.ref 54) := x_o1 l0_1 rfl rfl
  have l1_2 : zld (zs1 lv1 3 (.int (Int32.ofNat 64))) 1 = some (.int v1) := x_o1 l1_1 rfl rfl
  have l2_2 : zld (zs1 lv1 3 (.int (Int32.ofNat 64))) 2 = some (.int 0) := x_o1 l2_1 rfl rfl
  have l3_2 : zld (zs1 lv1 3 (.int (Int32.ofNat 64))) 3 = some (.int (Int32.ofNat 64)) := zs1_ld _ _ _
  generalize (zs1 lv1 3 (.int (Int32.ofNat 64))) = lv2 at *
  exact T291_54_5 H he F F l0_2 l1_2 l2_2 l3_2 h
set_option maxRecDepth 20000 in
theorem Z291_54 {B : zHp} (H : yH0 B) {F : Nat} {a1 : Int32} {m : xS} {x : Unit × xS} (h : D291_54 F a1 m = some x) {d : Nat} (hd : 1 ≤ d) : zCan d 291 [.ref 54, .int a1] (xW B m) (none, xW B x.2) := by
  obtain ⟨e, rfl⟩ : ∃ e, d = e + 1 := ⟨d - 1, by omega⟩
  refine zCan_body (nL := 4) (rt := none) (cd := zc291) (xg291) ⟨Nat.le_of_ble_eq_true rfl, by decide⟩ (Nat.le_refl _) ?_
  exact T291_54 H hd F rfl rfl h
/-- LentTools$Chains.noteLength -/
def D2_51_66 (F : Nat) (g3 : Int32 → Int32 → Int32 → Int32 → xS → Option (Unit × xS)) (v1 : Int32) (v2 : Int32) (v3 : Int32) (v4 : Int32) (m : xS) : Option (Unit × xS) :=
  g3 v1 v2 v3 (v4 + Int32.ofInt 1) m
set_option maxRecDepth 20000 in
theorem T2_51_66 {B : zHp} (H : yH0 B) {e : Nat} (he : 1 ≤ e + 1) (F : Nat) (g3 : Int32 → Int32 → Int32 → Int32 → xS → Option (Unit × xS)) (k3 : ∀ {v1 : Int32} {v2 : Int32} {v3 : Int32} {v4 : Int32} {lv : List (Nat × Value)} {m : xS} {x : Unit × xS}, zld lv 0 = some (.ref 51) → zld lv 1 = some (.int v1) → zld lv 2 = some (.int v2) → zld lv 3 = some (.int v3) → zld lv 4 = some (.int v4) → g3 v1 v2 v3 v4 m = some x → zR none e 5 none zc2 (3, lv, []) (xW B m) (none, xW B x.2)) {v1 : Int32} {v2 : Int32} {v3 : Int32} {v4 : Int32} {lv : List (Nat × Value)} {m : xS} {x : Unit × xS} (l0 : zld lv 0 = some (.ref 51)) (l1 : zld lv 1 = some (.int v1)) (l2 : zld lv 2 = some (.int v2)) (l3 : zld lv 3 = some (.int v3)) (l4 : zld lv 4 = some (.int v4)) (h : D2_51_66 F g3 v1 v2 v3 v4 m = some x) : zR none e 5 none zc2 (66, lv, []) (xW B m) (none, xW B x.2) := by
  unfold D2_51_66 at h
  refine q_inc (i := 4) (n := 1) (q := (.iinc 4 1, 3, 0, 0, .null)) rfl (fun _ => rfl) l4 (by decide) ?_
  have l0_1 : zld (zs1 lv 4 (.int (v4 + Int32.ofInt 1))) 0 = some (.ref 51) := x_o1 l0 rfl rfl
  have l1_1 : zld (zs1 lv 4 (.int (v4 + Int32.ofInt 1))) 1 = some (.int v1) := x_o1 l1 rfl rfl
  have l2_1 : zld (zs1 lv 4 (.int (v4 + Int32.ofInt 1))) 2 = some (.int v2) := x_o1 l2 rfl rfl
  have l3_1 : zld (zs1 lv 4 (.int (v4 + Int32.ofInt 1))) 3 = some (.int v3) := x_o1 l3 rfl rfl
  have l4_1 : zld (zs1 lv 4 (.int (v4 + Int32.ofInt 1))) 4 = some (.int (v4 + Int32.ofInt 1)) := zs1_ld _ _ _
  generalize (zs1 lv 4 (.int (v4 + Int32.ofInt 1))) = lv1 at *
  refine r_s (fr' := (3, lv1, [])) (hp' := xW B m) (q := (.goto (-66), 3, 3, 0, .null)) rfl (fun _ => rfl) (Nat.le_refl _) ?_
  exact k3 l0_1 l1_1 l2_1 l3_1 l4_1 h
def D2_51_58 (F : Nat) (g3 : Int32 → Int32 → Int32 → Int32 → xS → Option (Unit × xS)) (v1 : Int32) (v2 : Int32) (v3 : Int32) (v4 : Int32) (m : xS) : Option (Unit × xS) :=
  if xib v4 6 = true then
    D2_51_66 F g3 v1 v2 v3 v4 (xu m 53 (v4 : Int32).toNatClampNeg v3)
  else none
set_option maxRecDepth 20000 in
theorem T2_51_58 {B : zHp} (H : yH0 B) {e : Nat} (he : 1 ≤ e + 1) (F : Nat) (g3 : Int32 → Int32 → Int32 → Int32 → xS → Option (Unit × xS)) (k3 : ∀ {v1 : Int32} {v2 : Int32} {v3 : Int32} {v4 : Int32} {lv : List (Nat × Value)} {m : xS} {x : Unit × xS}, zld lv 0 = some (.ref 51) → zld lv 1 = some (.int v1) → zld lv 2 = some (.int v2) → zld lv 3 = some (.int v3) → zld lv 4 = some (.int v4) → g3 v1 v2 v3 v4 m = some x → zR none e 5 none zc2 (3, lv, []) (xW B m) (none, xW B x.2)) {v1 : Int32} {v2 : Int32} {v3 : Int32} {v4 : Int32} {lv : List (Nat × Value)} {m : xS} {x : Unit × xS} (l0 : zld lv 0 = some (.ref 51)) (l1 : zld lv 1 = some (.int v1)) (l2 : zld lv 2 = some (.int v2)) (l3 : zld lv 3 = some (.int v3)) (l4 : zld lv 4 = some (.int v4)) (h : D2_51_58 F g3 v1 v2 v3 v4 m = some x) : zR none e 5 none zc2 (58, lv, []) (xW B m) (none, xW B x.2) := by
  unfold D2_51_58 at h
  refine q_lr (k := 1) (i := 0) (q := (.aload_n 0, 1, 0, 0, .null)) rfl (fun _ => rfl) l0 ?_
  refine r_gr (c := 53) H (pc := 59) rfl (by decide) (by decide) ?_
  refine q_li (k := 2) (i := 4) (q := (.iload 4, 2, 0, 0, .null)) rfl (fun _ => rfl) l4 ?_
  refine q_li (k := 1) (i := 3) (q := (.iload_n 3, 1, 0, 0, .null)) rfl (fun _ => rfl) l3 ?_
  obtain ⟨c1, h⟩ := xif h
  refine q_as (n := 6) (s2 := (xu m 53 (v4 : Int32).toNatClampNeg v3)) H (pc := 65) rfl (by decide) c1 rfl ?_
  exact T2_51_66 H he F _ k3 l0 l1 l2 l3 l4 h
def D2_51_3 (F : Nat) : Nat → Int32 → Int32 → Int32 → Int32 → xS → Option (Unit × xS)
  | 0, _, _, _, _, _ => none
  | f + 1, v1, v2, v3, v4, m =>
    if zcmp .ge v4 v1 = true then
      some ((), m)
    else
      if zcmp .eq ((v2 >>> (v4 &&& 31)) &&& 1) 0 = true then
        D2_51_66 F (D2_51_3 F f) v1 v2 v3 v4 m
      else
        if xib v4 6 = true then
          if xib v4 6 = true then
            if xib v4 6 = true then
              if zcmp .eq (m.1 53 (v4 : Int32).toNatClampNeg) (-1) = true then
                D2_51_58 F (D2_51_3 F f) v1 v2 v3 v4 (xu m 52 (v4 : Int32).toNatClampNeg (if (m.1 52 (v4 : Int32).toNatClampNeg) < v3 then v3 else (m.1 52 (v4 : Int32).toNatClampNeg)))
              else
                if xib v4 6 = true then
                  if zcmp .ge v3 (m.1 53 (v4 : Int32).toNatClampNeg) = true then
                    D2_51_66 F (D2_51_3 F f) v1 v2 v3 v4 (xu m 52 (v4 : Int32).toNatClampNeg (if (m.1 52 (v4 : Int32).toNatClampNeg) < v3 then v3 else (m.1 52 (v4 : Int32).toNatClampNeg)))
                  else
                    D2_51_58 F (D2_51_3 F f) v1 v2 v3 v4 (xu m 52 (v4 : Int32).toNatClampNeg (if (m.1 52 (v4 : Int32).toNatClampNeg) < v3 then v3 else (m.1 52 (v4 : Int32).toNatClampNeg)))
                else none
            else none
          else none
        else none
set_option maxRecDepth 20000 in
theorem T2_51_3 {B : zHp} (H : yH0 B) {e : Nat} (he : 1 ≤ e + 1) (F : Nat) : ∀ (f : Nat) {v1 : Int32} {v2 : Int32} {v3 : Int32} {v4 : Int32} {lv : List (Nat × Value)} {m : xS} {x : Unit × xS}, zld lv 0 = some (.ref 51) → zld lv 1 = some (.int v1) → zld lv 2 = some (.int v2) → zld lv 3 = some (.int v3) → zld lv 4 = some (.int v4) → D2_51_3 F f v1 v2 v3 v4 m = some x → zR none e 5 none zc2 (3, lv, []) (xW B m) (none, xW B x.2) := by
  intro f
  induction f with
  | zero => intro v1 v2 v3 v4 lv m x l0 l1 l2 l3 l4 h; cases h
  | succ f ih =>
    intro v1 v2 v3 v4 lv m x l0 l1 l2 l3 l4 h
    unfold D2_51_3 at h
    refine q_li (k := 2) (i := 4) (q := (.iload 4, 2, 0, 0, .null)) rfl (fun _ => rfl) l4 ?_
    refine q_li (k := 1) (i := 1) (q := (.iload_n 1, 1, 0, 0, .null)) rfl (fun _ => rfl) l1 ?_
    refine r_ifc (len := 3) (a := 72) (b := 0) (v0 := .null) (cn := .ge) (off := 66) rfl (fun c => ?_) (fun c => ?_)
    · rw [if_pos c] at h
      obtain rfl := Option.some.inj h
      exact r_ret (q := (.return_, 1, 0, 0, .null)) rfl rfl (fun _ => rfl)
    · rw [if_neg (by rw [c]; decide)] at h
      refine q_li (k := 1) (i := 2) (q := (.iload_n 2, 1, 0, 0, .null)) rfl (fun _ => rfl) l2 ?_
      refine q_li (k := 2) (i := 4) (q := (.iload 4, 2, 0, 0, .null)) rfl (fun _ => rfl) l4 ?_
      refine r_s (fr' := (13, lv, [.int (v2 >>> (v4 &&& 31))])) (hp' := xW B m) (q := (.ishr, 1, 0, 0, .null)) rfl (fun _ => rfl) (Nat.le_refl _) ?_
      refine r_s (fr' := (14, lv, [.int 1, .int (v2 >>> (v4 &&& 31))])) (hp' := xW B m) (q := (.iconst 1, 1, 0, 0, .null)) rfl (fun _ => rfl) (Nat.le_refl _) ?_
      refine r_s (fr' := (15, lv, [.int ((v2 >>> (v4 &&& 31)) &&& 1)])) (hp' := xW B m) (q := (.iand, 1, 0, 0, .null)) rfl (fun _ => rfl) (Nat.le_refl _) ?_
      refine r_if (len := 3) (a := 66) (b := 0) (v0 := .null) (cn := .eq) (off := 51) rfl (fun c => ?_) (fun c => ?_)
      · rw [if_pos c] at h
        exact T2_51_66 H he F _ ih l0 l1 l2 l3 l4 h
      · rw [if_neg (by rw [c]; decide)] at h
        refine q_lr (k := 1) (i := 0) (q := (.aload_n 0, 1, 0, 0, .null)) rfl (fun _ => rfl) l0 ?_
        refine r_gr (c := 52) H (pc := 19) rfl (by decide) (by decide) ?_
        refine q_li (k := 2) (i := 4) (q := (.iload 4, 2, 0, 0, .null)) rfl (fun _ => rfl) l4 ?_
        refine q_lr (k := 1) (i := 0) (q := (.aload_n 0, 1, 0, 0, .null)) rfl (fun _ => rfl) l0 ?_
        refine r_gr (c := 52) H (pc := 25) rfl (by decide) (by decide) ?_
        refine q_li (k := 2) (i := 4) (q := (.iload 4, 2, 0, 0, .null)) rfl (fun _ => rfl) l4 ?_
        obtain ⟨c1, h⟩ := xif h
        refine q_al (n := 6) (v := (m.1 52 (v4 : Int32).toNatClampNeg)) H (pc := 30) rfl (by decide) c1 rfl ?_
        refine q_li (k := 1) (i := 3) (q := (.iload_n 3, 1, 0, 0, .null)) rfl (fun _ => rfl) l3 ?_
        refine r_s (fr' := (35, lv, [.int (if (m.1 52 (v4 : Int32).toNatClampNeg) < v3 then v3 else (m.1 52 (v4 : Int32).toNatClampNeg)), .int v4, .ref 52])) (hp' := xW B m) (q := (.invokestatic 57, 3, 0, 2, .null)) rfl (fun _ => rfl) (Nat.le_refl _) ?_
        obtain ⟨c2, h⟩ := xif h
        refine q_as (n := 6) (s2 := (xu m 52 (v4 : Int32).toNatClampNeg (if (m.1 52 (v4 : Int32).toNatClampNeg) < v3 then v3 else (m.1 52 (v4 : Int32).toNatClampNeg)))) H (pc := 35) rfl (by decide) c2 rfl ?_
        refine q_lr (k := 1) (i := 0) (q := (.aload_n 0, 1, 0, 0, .null)) rfl (fun _ => rfl) l0 ?_
        refine r_gr (c := 53) H (pc := 37) rfl (by decide) (by decide) ?_
        refine q_li (k := 2) (i := 4) (q := (.iload 4, 2, 0, 0, .null)) rfl (fun _ => rfl) l4 ?_
        obtain ⟨c3, h⟩ := xif h
        refine q_al (n := 6) (v := (m.1 53 (v4 : Int32).toNatClampNeg)) H (pc := 42) rfl (by decide) c3 rfl ?_
        refine r_s (fr' := (44, lv, [.int (-1), .int (m.1 53 (v4 : Int32).toNatClampNeg)])) (hp' := xW B (xu m 52 (v4 : Int32).toNatClampNeg (if (m.1 52 (v4 : Int32).toNatClampNeg) < v3 then v3 else (m.1 52 (v4 : Int32).toNatClampNeg)))) (q := (.iconst (-1), 1, 0, 0, .null)) rfl (fun _ => rfl) (Nat.le_refl _) ?_
        refine r_ifc (len := 3) (a := 58) (b := 0) (v0 := .null) (cn := .eq) (off := 14) rfl (fun c => ?_) (fun c => ?_)
        · rw [if_pos c] at h
          exact T2_51_58 H he F _ ih l0 l1 l2 l3 l4 h
        · rw [if_neg (by rw [c]; decide)] at h
          refine q_li (k := 1) (i := 3) (q := (.iload_n 3, 1, 0, 0, .null)) rfl (fun _ => rfl) l3 ?_
          refine q_lr (k := 1) (i := 0) (q := (.aload_n 0, 1, 0, 0, .null)) rfl (fun _ => rfl) l0 ?_
          refine r_gr (c := 53) H (pc := 49) rfl (by decide) (by decide) ?_
          refine q_li (k := 2) (i := 4) (q := (.iload 4, 2, 0, 0, .null)) rfl (fun _ => rfl) l4 ?_
          obtain ⟨c4, h⟩ := xif h
          refine q_al (n := 6) (v := (m.1 53 (v4 : Int32).toNatClampNeg)) H (pc := 54) rfl (by decide) c4 rfl ?_
          refine r_ifc (len := 3) (a := 66) (b := 0) (v0 := .null) (cn := .ge) (off := 11) rfl (fun c => ?_) (fun c => ?_)
          · rw [if_pos c] at h
            exact T2_51_66 H he F _ ih l0 l1 l2 l3 l4 h
          · rw [if_neg (by rw [c]; decide)] at h
            exact T2_51_58 H he F _ ih l0 l1 l2 l3 l4 h
def D2_51 (F : Nat) (v1 : Int32) (v2 : Int32) (v3 : Int32) (m : xS) : Option (Unit × xS) :=
  D2_51_3 F F v1 v2 v3 0 m
set_option maxRecDepth 20000 in
theorem T2_51 {B : zHp} (H : yH0 B) {e : Nat} (he : 1 ≤ e + 1) (F : Nat) {v1 : Int32} {v2 : Int32} {v3 : Int32} {lv : List (Nat × Value)} {m : xS} {x : Unit × xS} (l0 : zld lv 0 = some (.ref 51)) (l1 : zld lv 1 = some (.int v1)) (l2 : zld lv 2 = some (.int v2)) (l3 : zld lv 3 = some (.int v3)) (h : D2_51 F v1 v2 v3 m = some x) : zR none e 5 none zc2 (0, lv, []) (xW B m) (none, xW B x.2) := by
  unfold D2_51 at h
  refine r_s (fr' := (1, lv, [.int 0])) (hp' := xW B m) (q := (.iconst 0, 1, 0, 0, .null)) rfl (fun _ => rfl) (Nat.le_refl _) ?_
  refine q_si (k := 2) (i := 4) (q := (.istore 4, 2, 0, 0, .null)) rfl (fun _ => rfl) (by decide) ?_
  have l0_1 : zld (zs1 lv 4 (.int 0)) 0 = some (.ref 51) := x_o1 l0 rfl rfl
  have l1_1 : zld (zs1 lv 4 (.int 0)) 1 = some (.int v1) := x_o1 l1 rfl rfl
  have l2_1 : zld (zs1 lv 4 (.int 0)) 2 = some (.int v2) := x_o1 l2 rfl rfl
  have l3_1 : zld (zs1 lv 4 (.int 0)) 3 = some (.int v3) := x_o1 l3 rfl rfl
  have l4_1 : zld (zs1 lv 4 (.int 0)) 4 = some (.int 0) := zs1_ld _ _ _
  generalize (zs1 lv 4 (.int 0)) = lv1 at *
  exact T2_51_3 H he F F l0_1 l1_1 l2_1 l3_1 l4_1 h
set_option maxRecDepth 20000 in
theorem Z2_51 {B : zHp} (H : yH0 B) {F : Nat} {a1 : Int32} {a2 : Int32} {a3 : Int32} {m : xS} {x : Unit × xS} (h : D2_51 F a1 a2 a3 m = some x) {d : Nat} (hd : 1 ≤ d) : zCan d 2 [.ref 51, .int a1, .int a2, .int a3] (xW B m) (none, xW B x.2) := by
  obtain ⟨e, rfl⟩ : ∃ e, d = e + 1 := ⟨d - 1, by omega⟩
  refine zCan_body (nL := 5) (rt := none) (cd := zc2) (xg2) ⟨Nat.le_of_ble_eq_true rfl, by decide⟩ (Nat.le_refl _) ?_
  exact T2_51 H hd F rfl rfl rfl rfl h
/-- LentTools$Chains.goFurther -/
def D3_51_9_37 (F : Nat) (g5 : Int32 → Int32 → Int32 → xS → Option (Unit × xS)) (v2 : Int32) (v3 : Int32) (v4 : Int32) (m : xS) : Option (Unit × xS) :=
  g5 v2 v3 (v4 + Int32.ofInt 1) m
set_option maxRecDepth 20000 in
theorem T3_51_9_37 {B : zHp} (H : yH0 B) {e : Nat} (he : 2 ≤ e + 1) (F : Nat) (g5 : Int32 → Int32 → Int32 → xS → Option (Unit × xS)) (k5 : ∀ {v2 : Int32} {v3 : Int32} {v4 : Int32} {lv : List (Nat × Value)} {m : xS} {x : Unit × xS}, zld lv 0 = some (.ref 51) → zld lv 1 = some (.ref 9) → zld lv 2 = some (.int v2) → zld lv 3 = some (.int v3) → zld lv 4 = some (.int v4) → g5 v2 v3 v4 m = some x → zR none e 5 none zc3 (5, lv, []) (xW B m) (none, xW B x.2)) {v2 : Int32} {v3 : Int32} {v4 : Int32} {lv : List (Nat × Value)} {m : xS} {x : Unit × xS} (l0 : zld lv 0 = some (.ref 51)) (l1 : zld lv 1 = some (.ref 9)) (l2 : zld lv 2 = some (.int v2)) (l3 : zld lv 3 = some (.int v3)) (l4 : zld lv 4 = some (.int v4)) (h : D3_51_9_37 F g5 v2 v3 v4 m = some x) : zR none e 5 none zc3 (37, lv, []) (xW B m) (none, xW B x.2) := by
  unfold D3_51_9_37 at h
  refine q_inc (i := 4) (n := 1) (q := (.iinc 4 1, 3, 0, 0, .null)) rfl (fun _ => rfl) l4 (by decide) ?_
  have l0_1 : zld (zs1 lv 4 (.int (v4 + Int32.ofInt 1))) 0 = some (.ref 51) := x_o1 l0 rfl rfl
  have l1_1 : zld (zs1 lv 4 (.int (v4 + Int32.ofInt 1))) 1 = some (.ref 9) := x_o1 l1 rfl rfl
  have l2_1 : zld (zs1 lv 4 (.int (v4 + Int32.ofInt 1))) 2 = some (.int v2) := x_o1 l2 rfl rfl
  have l3_1 : zld (zs1 lv 4 (.int (v4 + Int32.ofInt 1))) 3 = some (.int v3) := x_o1 l3 rfl rfl
  have l4_1 : zld (zs1 lv 4 (.int (v4 + Int32.ofInt 1))) 4 = some (.int (v4 + Int32.ofInt 1)) := zs1_ld _ _ _
  generalize (zs1 lv 4 (.int (v4 + Int32.ofInt 1))) = lv1 at *
  refine r_s (fr' := (5, lv1, [])) (hp' := xW B m) (q := (.goto (-35), 3, 5, 0, .null)) rfl (fun _ => rfl) (Nat.le_refl _) ?_
  exact k5 l0_1 l1_1 l2_1 l3_1 l4_1 h
def D3_51_9_88 (F : Nat) (g52 : Int32 → Int32 → Int32 → xS → Option (Unit × xS)) (v2 : Int32) (v3 : Int32) (v4 : Int32) (m : xS) : Option (Unit × xS) :=
  g52 v2 v3 (v4 + Int32.ofInt 1) m
set_option maxRecDepth 20000 in
theorem T3_51_9_88 {B : zHp} (H : yH0 B) {e : Nat} (he : 2 ≤ e + 1) (F : Nat) (g52 : Int32 → Int32 → Int32 → xS → Option (Unit × xS)) (k52 : ∀ {v2 : Int32} {v3 : Int32} {v4 : Int32} {lv : List (Nat × Value)} {m : xS} {x : Unit × xS}, zld lv 0 = some (.ref 51) → zld lv 1 = some (.ref 9) → zld lv 2 = some (.int v2) → zld lv 3 = some (.int v3) → zld lv 4 = some (.int v4) → g52 v2 v3 v4 m = some x → zR none e 5 none zc3 (52, lv, []) (xW B m) (none, xW B x.2)) {v2 : Int32} {v3 : Int32} {v4 : Int32} {lv : List (Nat × Value)} {m : xS} {x : Unit × xS} (l0 : zld lv 0 = some (.ref 51)) (l1 : zld lv 1 = some (.ref 9)) (l2 : zld lv 2 = some (.int v2)) (l3 : zld lv 3 = some (.int v3)) (l4 : zld lv 4 = some (.int v4)) (h : D3_51_9_88 F g52 v2 v3 v4 m = some x) : zR none e 5 none zc3 (88, lv, []) (xW B m) (none, xW B x.2) := by
  unfold D3_51_9_88 at h
  refine q_inc (i := 4) (n := 1) (q := (.iinc 4 1, 3, 0, 0, .null)) rfl (fun _ => rfl) l4 (by decide) ?_
  have l0_1 : zld (zs1 lv 4 (.int (v4 + Int32.ofInt 1))) 0 = some (.ref 51) := x_o1 l0 rfl rfl
  have l1_1 : zld (zs1 lv 4 (.int (v4 + Int32.ofInt 1))) 1 = some (.ref 9) := x_o1 l1 rfl rfl
  have l2_1 : zld (zs1 lv 4 (.int (v4 + Int32.ofInt 1))) 2 = some (.int v2) := x_o1 l2 rfl rfl
  have l3_1 : zld (zs1 lv 4 (.int (v4 + Int32.ofInt 1))) 3 = some (.int v3) := x_o1 l3 rfl rfl
  have l4_1 : zld (zs1 lv 4 (.int (v4 + Int32.ofInt 1))) 4 = some (.int (v4 + Int32.ofInt 1)) := zs1_ld _ _ _
  generalize (zs1 lv 4 (.int (v4 + Int32.ofInt 1))) = lv1 at *
  refine r_s (fr' := (52, lv1, [])) (hp' := xW B m) (q := (.goto (-39), 3, 52, 0, .null)) rfl (fun _ => rfl) (Nat.le_refl _) ?_
  exact k52 l0_1 l1_1 l2_1 l3_1 l4_1 h
def D3_51_9_52 (F : Nat) : Nat → Int32 → Int32 → Int32 → xS → Option (Unit × xS)
  | 0, _, _, _, _ => none
  | f + 1, v2, v3, v4, m =>
    (D77_9 F m).bind fun q55 =>
      if zcmp .ge v4 q55.1 = true then
        some ((), q55.2)
      else
        if zcmp .eq ((v3 >>> (v4 &&& 31)) &&& 1) 0 = true then
          D3_51_9_88 F (D3_51_9_52 F f) v2 v3 v4 q55.2
        else
          if xib (v2 ||| (1 <<< (v4 &&& 31))) 64 = true then
            if xib (v2 ||| (1 <<< (v4 &&& 31))) 64 = true then
              D3_51_9_88 F (D3_51_9_52 F f) v2 v3 v4 (xu q55.2 54 ((v2 ||| (1 <<< (v4 &&& 31))) : Int32).toNatClampNeg ((q55.2.1 54 ((v2 ||| (1 <<< (v4 &&& 31))) : Int32).toNatClampNeg) ||| (1 <<< (v4 &&& 31))))
            else none
          else none
set_option maxRecDepth 20000 in
theorem T3_51_9_52 {B : zHp} (H : yH0 B) {e : Nat} (he : 2 ≤ e + 1) (F : Nat) : ∀ (f : Nat) {v2 : Int32} {v3 : Int32} {v4 : Int32} {lv : List (Nat × Value)} {m : xS} {x : Unit × xS}, zld lv 0 = some (.ref 51) → zld lv 1 = some (.ref 9) → zld lv 2 = some (.int v2) → zld lv 3 = some (.int v3) → zld lv 4 = some (.int v4) → D3_51_9_52 F f v2 v3 v4 m = some x → zR none e 5 none zc3 (52, lv, []) (xW B m) (none, xW B x.2) := by
  intro f
  induction f with
  | zero => intro v2 v3 v4 lv m x l0 l1 l2 l3 l4 h; cases h
  | succ f ih =>
    intro v2 v3 v4 lv m x l0 l1 l2 l3 l4 h
    unfold D3_51_9_52 at h
    refine q_li (k := 2) (i := 4) (q := (.iload 4, 2, 0, 0, .null)) rfl (fun _ => rfl) l4 ?_
    refine q_lr (k := 1) (i := 1) (q := (.aload_n 1, 1, 0, 0, .null)) rfl (fun _ => rfl) l1 ?_
    obtain ⟨q55, h55, h⟩ := xbind h
    refine r_call (ix := 9) (as := []) (rest := [.int v4]) (rv := some (.int q55.1)) (hp' := xW B q55.2) (pc := 55) rfl xr77 rfl rfl rfl (xkd H (by decide)) (Nat.le_of_ble_eq_true rfl) (Z77_9 H h55 (by omega)) (Nat.le_refl _) ?_
    refine r_ifc (len := 3) (a := 94) (b := 0) (v0 := .null) (cn := .ge) (off := 36) rfl (fun c => ?_) (fun c => ?_)
    · rw [if_pos c] at h
      obtain rfl := Option.some.inj h
      exact r_ret (q := (.return_, 1, 0, 0, .null)) rfl rfl (fun _ => rfl)
    · rw [if_neg (by rw [c]; decide)] at h
      refine q_li (k := 1) (i := 3) (q := (.iload_n 3, 1, 0, 0, .null)) rfl (fun _ => rfl) l3 ?_
      refine q_li (k := 2) (i := 4) (q := (.iload 4, 2, 0, 0, .null)) rfl (fun _ => rfl) l4 ?_
      refine r_s (fr' := (65, lv, [.int (v3 >>> (v4 &&& 31))])) (hp' := xW B q55.2) (q := (.ishr, 1, 0, 0, .null)) rfl (fun _ => rfl) (Nat.le_refl _) ?_
      refine r_s (fr' := (66, lv, [.int 1, .int (v3 >>> (v4 &&& 31))])) (hp' := xW B q55.2) (q := (.iconst 1, 1, 0, 0, .null)) rfl (fun _ => rfl) (Nat.le_refl _) ?_
      refine r_s (fr' := (67, lv, [.int ((v3 >>> (v4 &&& 31)) &&& 1)])) (hp' := xW B q55.2) (q := (.iand, 1, 0, 0, .null)) rfl (fun _ => rfl) (Nat.le_refl _) ?_
      refine r_if (len := 3) (a := 88) (b := 0) (v0 := .null) (cn := .eq) (off := 21) rfl (fun c => ?_) (fun c => ?_)
      · rw [if_pos c] at h
        exact T3_51_9_88 H he F _ ih l0 l1 l2 l3 l4 h
      · rw [if_neg (by rw [c]; decide)] at h
        refine q_lr (k := 1) (i := 0) (q := (.aload_n 0, 1, 0, 0, .null)) rfl (fun _ => rfl) l0 ?_
        refine r_gr (c := 54) H (pc := 71) rfl (by decide) (by decide) ?_
        refine q_li (k := 1) (i := 2) (q := (.iload_n 2, 1, 0, 0, .null)) rfl (fun _ => rfl) l2 ?_
        refine r_s (fr' := (76, lv, [.int 1, .int v2, .ref 54])) (hp' := xW B q55.2) (q := (.iconst 1, 1, 0, 0, .null)) rfl (fun _ => rfl) (Nat.le_refl _) ?_
        refine q_li (k := 2) (i := 4) (q := (.iload 4, 2, 0, 0, .null)) rfl (fun _ => rfl) l4 ?_
        refine r_s (fr' := (79, lv, [.int (1 <<< (v4 &&& 31)), .int v2, .ref 54])) (hp' := xW B q55.2) (q := (.ishl, 1, 0, 0, .null)) rfl (fun _ => rfl) (Nat.le_refl _) ?_
        refine r_s (fr' := (80, lv, [.int (v2 ||| (1 <<< (v4 &&& 31))), .ref 54])) (hp' := xW B q55.2) (q := (.ior, 1, 0, 0, .null)) rfl (fun _ => rfl) (Nat.le_refl _) ?_
        refine r_s (fr' := (81, lv, [.int (v2 ||| (1 <<< (v4 &&& 31))), .ref 54, .int (v2 ||| (1 <<< (v4 &&& 31))), .ref 54])) (hp' := xW B q55.2) (q := (.dup2, 1, 0, 0, .null)) rfl (fun _ => rfl) (Nat.le_refl _) ?_
        obtain ⟨c1, h⟩ := xif h
        refine q_al (n := 64) (v := (q55.2.1 54 ((v2 ||| (1 <<< (v4 &&& 31))) : Int32).toNatClampNeg)) H (pc := 81) rfl (by decide) c1 rfl ?_
        refine r_s (fr' := (83, lv, [.int 1, .int (q55.2.1 54 ((v2 ||| (1 <<< (v4 &&& 31))) : Int32).toNatClampNeg), .int (v2 ||| (1 <<< (v4 &&& 31))), .ref 54])) (hp' := xW B q55.2) (q := (.iconst 1, 1, 0, 0, .null)) rfl (fun _ => rfl) (Nat.le_refl _) ?_
        refine q_li (k := 2) (i := 4) (q := (.iload 4, 2, 0, 0, .null)) rfl (fun _ => rfl) l4 ?_
        refine r_s (fr' := (86, lv, [.int (1 <<< (v4 &&& 31)), .int (q55.2.1 54 ((v2 ||| (1 <<< (v4 &&& 31))) : Int32).toNatClampNeg), .int (v2 ||| (1 <<< (v4 &&& 31))), .ref 54])) (hp' := xW B q55.2) (q := (.ishl, 1, 0, 0, .null)) rfl (fun _ => rfl) (Nat.le_refl _) ?_
        refine r_s (fr' := (87, lv, [.int ((q55.2.1 54 ((v2 ||| (1 <<< (v4 &&& 31))) : Int32).toNatClampNeg) ||| (1 <<< (v4 &&& 31))), .int (v2 ||| (1 <<< (v4 &&& 31))), .ref 54])) (hp' := xW B q55.2) (q := (.ior, 1, 0, 0, .null)) rfl (fun _ => rfl) (Nat.le_refl _) ?_
        obtain ⟨c2, h⟩ := xif h
        refine q_as (n := 64) (s2 := (xu q55.2 54 ((v2 ||| (1 <<< (v4 &&& 31))) : Int32).toNatClampNeg ((q55.2.1 54 ((v2 ||| (1 <<< (v4 &&& 31))) : Int32).toNatClampNeg) ||| (1 <<< (v4 &&& 31))))) H (pc := 87) rfl (by decide) c2 rfl ?_
        exact T3_51_9_88 H he F _ ih l0 l1 l2 l3 l4 h
def D3_51_9_5 (F : Nat) : Nat → Int32 → Int32 → Int32 → xS → Option (Unit × xS)
  | 0, _, _, _, _ => none
  | f + 1, v2, v3, v4, m =>
    (D77_9 F m).bind fun q8 =>
      if zcmp .ge v4 q8.1 = true then
        D3_51_9_52 F F v2 (v3 &&& (v2 ^^^ (-1))) 0 q8.2
      else
        if xib v2 64 = true then
          if zcmp .eq (((q8.2.1 54 (v2 : Int32).toNatClampNeg) >>> (v4 &&& 31)) &&& 1) 0 = true then
            D3_51_9_37 F (D3_51_9_5 F f) v2 v3 v4 q8.2
          else
            (D91_9 F v4 q8.2).bind fun q32 =>
              D3_51_9_37 F (D3_51_9_5 F f) v2 (v3 ||| q32.1) v4 q32.2
        else none
set_option maxRecDepth 20000 in
theorem T3_51_9_5 {B : zHp} (H : yH0 B) {e : Nat} (he : 2 ≤ e + 1) (F : Nat) : ∀ (f : Nat) {v2 : Int32} {v3 : Int32} {v4 : Int32} {lv : List (Nat × Value)} {m : xS} {x : Unit × xS}, zld lv 0 = some (.ref 51) → zld lv 1 = some (.ref 9) → zld lv 2 = some (.int v2) → zld lv 3 = some (.int v3) → zld lv 4 = some (.int v4) → D3_51_9_5 F f v2 v3 v4 m = some x → zR none e 5 none zc3 (5, lv, []) (xW B m) (none, xW B x.2) := by
  intro f
  induction f with
  | zero => intro v2 v3 v4 lv m x l0 l1 l2 l3 l4 h; cases h
  | succ f ih =>
    intro v2 v3 v4 lv m x l0 l1 l2 l3 l4 h
    unfold D3_51_9_5 at h
    refine q_li (k := 2) (i := 4) (q := (.iload 4, 2, 0, 0, .null)) rfl (fun _ => rfl) l4 ?_
    refine q_lr (k := 1) (i := 1) (q := (.aload_n 1, 1, 0, 0, .null)) rfl (fun _ => rfl) l1 ?_
    obtain ⟨q8, h8, h⟩ := xbind h
    refine r_call (ix := 9) (as := []) (rest := [.int v4]) (rv := some (.int q8.1)) (hp' := xW B q8.2) (pc := 8) rfl xr77 rfl rfl rfl (xkd H (by decide)) (Nat.le_of_ble_eq_true rfl) (Z77_9 H h8 (by omega)) (Nat.le_refl _) ?_
    refine r_ifc (len := 3) (a := 43) (b := 0) (v0 := .null) (cn := .ge) (off := 32) rfl (fun c => ?_) (fun c => ?_)
    · rw [if_pos c] at h
      refine q_li (k := 1) (i := 3) (q := (.iload_n 3, 1, 0, 0, .null)) rfl (fun _ => rfl) l3 ?_
      refine q_li (k := 1) (i := 2) (q := (.iload_n 2, 1, 0, 0, .null)) rfl (fun _ => rfl) l2 ?_
      refine r_s (fr' := (46, lv, [.int (-1), .int v2, .int v3])) (hp' := xW B q8.2) (q := (.iconst (-1), 1, 0, 0, .null)) rfl (fun _ => rfl) (Nat.le_refl _) ?_
      refine r_s (fr' := (47, lv, [.int (v2 ^^^ (-1)), .int v3])) (hp' := xW B q8.2) (q := (.ixor, 1, 0, 0, .null)) rfl (fun _ => rfl) (Nat.le_refl _) ?_
      refine r_s (fr' := (48, lv, [.int (v3 &&& (v2 ^^^ (-1)))])) (hp' := xW B q8.2) (q := (.iand, 1, 0, 0, .null)) rfl (fun _ => rfl) (Nat.le_refl _) ?_
      refine q_si (k := 1) (i := 3) (q := (.istore_n 3, 1, 0, 0, .null)) rfl (fun _ => rfl) (by decide) ?_
      have l0_1 : zld (zs1 lv 3 (.int (v3 &&& (v2 ^^^ (-1))))) 0 = some (.ref 51) := x_o1 l0 rfl rfl
      have l1_1 : zld (zs1 lv 3 (.int (v3 &&& (v2 ^^^ (-1))))) 1 = some (.ref 9) := x_o1 l1 rfl rfl
      have l2_1 : zld (zs1 lv 3 (.int (v3 &&& (v2 ^^^ (-1))))) 2 = some (.int v2) := x_o1 l2 rfl rfl
      have l3_1 : zld (zs1 lv 3 (.int (v3 &&& (v2 ^^^ (-1))))) 3 = some (.int (v3 &&& (v2 ^^^ (-1)))) := zs1_ld _ _ _
      have l4_1 : zld (zs1 lv 3 (.int (v3 &&& (v2 ^^^ (-1))))) 4 = some (.int v4) := x_o1 l4 rfl rfl
      generalize (zs1 lv 3 (.int (v3 &&& (v2 ^^^ (-1))))) = lv1 at *
      refine r_s (fr' := (50, lv1, [.int 0])) (hp' := xW B q8.2) (q := (.iconst 0, 1, 0, 0, .null)) rfl (fun _ => rfl) (Nat.le_refl _) ?_
      refine q_si (k := 2) (i := 4) (q := (.istore 4, 2, 0, 0, .null)) rfl (fun _ => rfl) (by decide) ?_
      have l0_2 : zld (zs1 lv1 4 (.int 0)) 0 = some (.ref 51) := x_o1 l0_1 rfl rfl
      have l1_2 : zld (zs1 lv1 4 (.int 0)) 1 = some (.ref 9) := x_o1 l1_1 rfl rfl
      have l2_2 : zld (zs1 lv1 4 (.int 0)) 2 = some (.int v2) := x_o1 l2_1 rfl rfl
      have l3_2 : zld (zs1 lv1 4 (.int 0)) 3 = some (.int (v3 &&& (v2 ^^^ (-1)))) := x_o1 l3_1 rfl rfl
      have l4_2 : zld (zs1 lv1 4 (.int 0)) 4 = some (.int 0) := zs1_ld _ _ _
      generalize (zs1 lv1 4 (.int 0)) = lv2 at *
      exact T3_51_9_52 H he F F l0_2 l1_2 l2_2 l3_2 l4_2 h
    · rw [if_neg (by rw [c]; decide)] at h
      refine q_lr (k := 1) (i := 0) (q := (.aload_n 0, 1, 0, 0, .null)) rfl (fun _ => rfl) l0 ?_
      refine r_gr (c := 54) H (pc := 15) rfl (by decide) (by decide) ?_
      refine q_li (k := 1) (i := 2) (q := (.iload_n 2, 1, 0, 0, .null)) rfl (fun _ => rfl) l2 ?_
      obtain ⟨c3, h⟩ := xif h
      refine q_al (n := 64) (v := (q8.2.1 54 (v2 : Int32).toNatClampNeg)) H (pc := 19) rfl (by decide) c3 rfl ?_
      refine q_li (k := 2) (i := 4) (q := (.iload 4, 2, 0, 0, .null)) rfl (fun _ => rfl) l4 ?_
      refine r_s (fr' := (23, lv, [.int ((q8.2.1 54 (v2 : Int32).toNatClampNeg) >>> (v4 &&& 31))])) (hp' := xW B q8.2) (q := (.ishr, 1, 0, 0, .null)) rfl (fun _ => rfl) (Nat.le_refl _) ?_
      refine r_s (fr' := (24, lv, [.int 1, .int ((q8.2.1 54 (v2 : Int32).toNatClampNeg) >>> (v4 &&& 31))])) (hp' := xW B q8.2) (q := (.iconst 1, 1, 0, 0, .null)) rfl (fun _ => rfl) (Nat.le_refl _) ?_
      refine r_s (fr' := (25, lv, [.int (((q8.2.1 54 (v2 : Int32).toNatClampNeg) >>> (v4 &&& 31)) &&& 1)])) (hp' := xW B q8.2) (q := (.iand, 1, 0, 0, .null)) rfl (fun _ => rfl) (Nat.le_refl _) ?_
      refine r_if (len := 3) (a := 37) (b := 0) (v0 := .null) (cn := .eq) (off := 12) rfl (fun c => ?_) (fun c => ?_)
      · rw [if_pos c] at h
        exact T3_51_9_37 H he F _ ih l0 l1 l2 l3 l4 h
      · rw [if_neg (by rw [c]; decide)] at h
        refine q_li (k := 1) (i := 3) (q := (.iload_n 3, 1, 0, 0, .null)) rfl (fun _ => rfl) l3 ?_
        refine q_lr (k := 1) (i := 1) (q := (.aload_n 1, 1, 0, 0, .null)) rfl (fun _ => rfl) l1 ?_
        refine q_li (k := 2) (i := 4) (q := (.iload 4, 2, 0, 0, .null)) rfl (fun _ => rfl) l4 ?_
        obtain ⟨q32, h32, h⟩ := xbind h
        refine r_call (ix := 9) (as := [.int v4]) (rest := [.int v3]) (rv := some (.int q32.1)) (hp' := xW B q32.2) (pc := 32) rfl xr91 rfl rfl rfl (xkd H (by decide)) (Nat.le_of_ble_eq_true rfl) (Z91_9 H h32 (by omega)) (Nat.le_refl _) ?_
        refine r_s (fr' := (36, lv, [.int (v3 ||| q32.1)])) (hp' := xW B q32.2) (q := (.ior, 1, 0, 0, .null)) rfl (fun _ => rfl) (Nat.le_refl _) ?_
        refine q_si (k := 1) (i := 3) (q := (.istore_n 3, 1, 0, 0, .null)) rfl (fun _ => rfl) (by decide) ?_
        have l0_4 : zld (zs1 lv 3 (.int (v3 ||| q32.1))) 0 = some (.ref 51) := x_o1 l0 rfl rfl
        have l1_4 : zld (zs1 lv 3 (.int (v3 ||| q32.1))) 1 = some (.ref 9) := x_o1 l1 rfl rfl
        have l2_4 : zld (zs1 lv 3 (.int (v3 ||| q32.1))) 2 = some (.int v2) := x_o1 l2 rfl rfl
        have l3_4 : zld (zs1 lv 3 (.int (v3 ||| q32.1))) 3 = some (.int (v3 ||| q32.1)) := zs1_ld _ _ _
        have l4_4 : zld (zs1 lv 3 (.int (v3 ||| q32.1))) 4 = some (.int v4) := x_o1 l4 rfl rfl
        generalize (zs1 lv 3 (.int (v3 ||| q32.1))) = lv4 at *
        exact T3_51_9_37 H he F _ ih l0_4 l1_4 l2_4 l3_4 l4_4 h
def D3_51_9 (F : Nat) (v2 : Int32) (m : xS) : Option (Unit × xS) :=
  D3_51_9_5 F F v2 0 0 m
set_option maxRecDepth 20000 in
theorem T3_51_9 {B : zHp} (H : yH0 B) {e : Nat} (he : 2 ≤ e + 1) (F : Nat) {v2 : Int32} {lv : List (Nat × Value)} {m : xS} {x : Unit × xS} (l0 : zld lv 0 = some (.ref 51)) (l1 : zld lv 1 = some (.ref 9)) (l2 : zld lv 2 = some (.int v2)) (h : D3_51_9 F v2 m = some x) : zR none e 5 none zc3 (0, lv, []) (xW B m) (none, xW B x.2) := by
  unfold D3_51_9 at h
  refine r_s (fr' := (1, lv, [.int 0])) (hp' := xW B m) (q := (.iconst 0, 1, 0, 0, .null)) rfl (fun _ => rfl) (Nat.le_refl _) ?_
  refine q_si (k := 1) (i := 3) (q := (.istore_n 3, 1, 0, 0, .null)) rfl (fun _ => rfl) (by decide) ?_
  have l0_1 : zld (zs1 lv 3 (.int 0)) 0 = some (.ref 51) := x_o1 l0 rfl rfl
  have l1_1 : zld (zs1 lv 3 (.int 0)) 1 = some (.ref 9) := x_o1 l1 rfl rfl
  have l2_1 : zld (zs1 lv 3 (.int 0)) 2 = some (.int v2) := x_o1 l2 rfl rfl
  have l3_1 : zld (zs1 lv 3 (.int 0)) 3 = some (.int 0) := zs1_ld _ _ _
  generalize (zs1 lv 3 (.int 0)) = lv1 at *
  refine r_s (fr' := (3, lv1, [.int 0])) (hp' := xW B m) (q := (.iconst 0, 1, 0, 0, .null)) rfl (fun _ => rfl) (Nat.le_refl _) ?_
  refine q_si (k := 2) (i := 4) (q := (.istore 4, 2, 0, 0, .null)) rfl (fun _ => rfl) (by decide) ?_
  have l0_2 : zld (zs1 lv1 4 (.int 0)) 0 = some (.ref 51) := x_o1 l0_1 rfl rfl
  have l1_2 : zld (zs1 lv1 4 (.int 0)) 1 = some (.ref 9) := x_o1 l1_1 rfl rfl
  have l2_2 : zld (zs1 lv1 4 (.int 0)) 2 = some (.int v2) := x_o1 l2_1 rfl rfl
  have l3_2 : zld (zs1 lv1 4 (.int 0)) 3 = some (.int 0) := x_o1 l3_1 rfl rfl
  have l4_2 : zld (zs1 lv1 4 (.int 0)) 4 = some (.int 0) := zs1_ld _ _ _
  generalize (zs1 lv1 4 (.int 0)) = lv2 at *
  exact T3_51_9_5 H he F F l0_2 l1_2 l2_2 l3_2 l4_2 h
set_option maxRecDepth 20000 in
theorem Z3_51_9 {B : zHp} (H : yH0 B) {F : Nat} {a2 : Int32} {m : xS} {x : Unit × xS} (h : D3_51_9 F a2 m = some x) {d : Nat} (hd : 2 ≤ d) : zCan d 3 [.ref 51, .ref 9, .int a2] (xW B m) (none, xW B x.2) := by
  obtain ⟨e, rfl⟩ : ∃ e, d = e + 1 := ⟨d - 1, by omega⟩
  refine zCan_body (nL := 5) (rt := none) (cd := zc3) (xg3) ⟨Nat.le_of_ble_eq_true rfl, by decide⟩ (Nat.le_refl _) ?_
  exact T3_51_9 H hd F rfl rfl rfl h
/-- LentTools$Chains.measure -/
def D1_51_9_124 (F : Nat) (g67 : Int32 → Int32 → Int32 → Int32 → Int32 → xS → Option (Unit × xS)) (v2 : Int32) (v3 : Int32) (v4 : Int32) (v5 : Int32) (v6 : Int32) (m : xS) : Option (Unit × xS) :=
  g67 v2 v3 v4 v5 (v6 + Int32.ofInt 1) m
set_option maxRecDepth 20000 in
theorem T1_51_9_124 {B : zHp} (H : yH0 B) {e : Nat} (he : 3 ≤ e + 1) (F : Nat) (g67 : Int32 → Int32 → Int32 → Int32 → Int32 → xS → Option (Unit × xS)) (k67 : ∀ {v2 : Int32} {v3 : Int32} {v4 : Int32} {v5 : Int32} {v6 : Int32} {lv : List (Nat × Value)} {m : xS} {x : Unit × xS}, zld lv 0 = some (.ref 51) → zld lv 1 = some (.ref 9) → zld lv 2 = some (.int v2) → zld lv 3 = some (.int v3) → zld lv 4 = some (.int v4) → zld lv 5 = some (.int v5) → zld lv 6 = some (.int v6) → g67 v2 v3 v4 v5 v6 m = some x → zR none e 7 none zc1 (67, lv, []) (xW B m) (none, xW B x.2)) {v2 : Int32} {v3 : Int32} {v4 : Int32} {v5 : Int32} {v6 : Int32} {lv : List (Nat × Value)} {m : xS} {x : Unit × xS} (l0 : zld lv 0 = some (.ref 51)) (l1 : zld lv 1 = some (.ref 9)) (l2 : zld lv 2 = some (.int v2)) (l3 : zld lv 3 = some (.int v3)) (l4 : zld lv 4 = some (.int v4)) (l5 : zld lv 5 = some (.int v5)) (l6 : zld lv 6 = some (.int v6)) (h : D1_51_9_124 F g67 v2 v3 v4 v5 v6 m = some x) : zR none e 7 none zc1 (124, lv, []) (xW B m) (none, xW B x.2) := by
  unfold D1_51_9_124 at h
  refine q_inc (i := 6) (n := 1) (q := (.iinc 6 1, 3, 0, 0, .null)) rfl (fun _ => rfl) l6 (by decide) ?_
  have l0_1 : zld (zs1 lv 6 (.int (v6 + Int32.ofInt 1))) 0 = some (.ref 51) := x_o1 l0 rfl rfl
  have l1_1 : zld (zs1 lv 6 (.int (v6 + Int32.ofInt 1))) 1 = some (.ref 9) := x_o1 l1 rfl rfl
  have l2_1 : zld (zs1 lv 6 (.int (v6 + Int32.ofInt 1))) 2 = some (.int v2) := x_o1 l2 rfl rfl
  have l3_1 : zld (zs1 lv 6 (.int (v6 + Int32.ofInt 1))) 3 = some (.int v3) := x_o1 l3 rfl rfl
  have l4_1 : zld (zs1 lv 6 (.int (v6 + Int32.ofInt 1))) 4 = some (.int v4) := x_o1 l4 rfl rfl
  have l5_1 : zld (zs1 lv 6 (.int (v6 + Int32.ofInt 1))) 5 = some (.int v5) := x_o1 l5 rfl rfl
  have l6_1 : zld (zs1 lv 6 (.int (v6 + Int32.ofInt 1))) 6 = some (.int (v6 + Int32.ofInt 1)) := zs1_ld _ _ _
  generalize (zs1 lv 6 (.int (v6 + Int32.ofInt 1))) = lv1 at *
  refine r_s (fr' := (67, lv1, [])) (hp' := xW B m) (q := (.goto (-60), 3, 67, 0, .null)) rfl (fun _ => rfl) (Nat.le_refl _) ?_
  exact k67 l0_1 l1_1 l2_1 l3_1 l4_1 l5_1 l6_1 h
def D1_51_9_67 (F : Nat) : Nat → Int32 → Int32 → Int32 → Int32 → Int32 → xS → Option (Unit × xS)
  | 0, _, _, _, _, _, _ => none
  | f + 1, v2, v3, v4, v5, v6, m =>
    if zcmp .ge v6 v5 = true then
      some ((), m)
    else
      if zcmp .ge v6 (Int32.ofNat 64) = true then
        some ((), m)
      else
        if xib v6 64 = true then
          if zcmp .eq (m.1 54 (v6 : Int32).toNatClampNeg) 0 = true then
            D1_51_9_124 F (D1_51_9_67 F f) v2 v3 v4 v5 v6 m
          else
            (D77_9 F m).bind fun q96 =>
              if xib v6 64 = true then
                (D280 F (v6 ^^^ v4) q96.2).bind fun q111 =>
                  (D2_51 F q96.1 (q96.2.1 54 (v6 : Int32).toNatClampNeg) q111.1 q111.2).bind fun q114 =>
                    (D3_51_9 F v6 q114.2).bind fun q121 =>
                      D1_51_9_124 F (D1_51_9_67 F f) v2 v3 v4 v5 v6 q121.2
              else none
        else none
set_option maxRecDepth 20000 in
theorem T1_51_9_67 {B : zHp} (H : yH0 B) {e : Nat} (he : 3 ≤ e + 1) (F : Nat) : ∀ (f : Nat) {v2 : Int32} {v3 : Int32} {v4 : Int32} {v5 : Int32} {v6 : Int32} {lv : List (Nat × Value)} {m : xS} {x : Unit × xS}, zld lv 0 = some (.ref 51) → zld lv 1 = some (.ref 9) → zld lv 2 = some (.int v2) → zld lv 3 = some (.int v3) → zld lv 4 = some (.int v4) → zld lv 5 = some (.int v5) → zld lv 6 = some (.int v6) → D1_51_9_67 F f v2 v3 v4 v5 v6 m = some x → zR none e 7 none zc1 (67, lv, []) (xW B m) (none, xW B x.2) := by
  intro f
  induction f with
  | zero => intro v2 v3 v4 v5 v6 lv m x l0 l1 l2 l3 l4 l5 l6 h; cases h
  | succ f ih =>
    intro v2 v3 v4 v5 v6 lv m x l0 l1 l2 l3 l4 l5 l6 h
    unfold D1_51_9_67 at h
    refine q_li (k := 2) (i := 6) (q := (.iload 6, 2, 0, 0, .null)) rfl (fun _ => rfl) l6 ?_
    refine q_li (k := 2) (i := 5) (q := (.iload 5, 2, 0, 0, .null)) rfl (fun _ => rfl) l5 ?_
    refine r_ifc (len := 3) (a := 130) (b := 0) (v0 := .null) (cn := .ge) (off := 59) rfl (fun c => ?_) (fun c => ?_)
    · rw [if_pos c] at h
      obtain rfl := Option.some.inj h
      exact r_ret (q := (.return_, 1, 0, 0, .null)) rfl rfl (fun _ => rfl)
    · rw [if_neg (by rw [c]; decide)] at h
      refine q_li (k := 2) (i := 6) (q := (.iload 6, 2, 0, 0, .null)) rfl (fun _ => rfl) l6 ?_
      refine q_lr (k := 1) (i := 0) (q := (.aload_n 0, 1, 0, 0, .null)) rfl (fun _ => rfl) l0 ?_
      refine r_gr (c := 54) H (pc := 77) rfl (by decide) (by decide) ?_
      refine q_len (n := 64) (k := 0) H (pc := 80) rfl (by decide) ?_
      refine r_ifc (len := 3) (a := 130) (b := 0) (v0 := .null) (cn := .ge) (off := 49) rfl (fun c => ?_) (fun c => ?_)
      · rw [if_pos c] at h
        obtain rfl := Option.some.inj h
        exact r_ret (q := (.return_, 1, 0, 0, .null)) rfl rfl (fun _ => rfl)
      · rw [if_neg (by rw [c]; decide)] at h
        refine q_lr (k := 1) (i := 0) (q := (.aload_n 0, 1, 0, 0, .null)) rfl (fun _ => rfl) l0 ?_
        refine r_gr (c := 54) H (pc := 85) rfl (by decide) (by decide) ?_
        refine q_li (k := 2) (i := 6) (q := (.iload 6, 2, 0, 0, .null)) rfl (fun _ => rfl) l6 ?_
        obtain ⟨c1, h⟩ := xif h
        refine q_al (n := 64) (v := (m.1 54 (v6 : Int32).toNatClampNeg)) H (pc := 90) rfl (by decide) c1 rfl ?_
        refine r_if (len := 3) (a := 124) (b := 0) (v0 := .null) (cn := .eq) (off := 33) rfl (fun c => ?_) (fun c => ?_)
        · rw [if_pos c] at h
          exact T1_51_9_124 H he F _ ih l0 l1 l2 l3 l4 l5 l6 h
        · rw [if_neg (by rw [c]; decide)] at h
          refine q_lr (k := 1) (i := 0) (q := (.aload_n 0, 1, 0, 0, .null)) rfl (fun _ => rfl) l0 ?_
          refine q_lr (k := 1) (i := 1) (q := (.aload_n 1, 1, 0, 0, .null)) rfl (fun _ => rfl) l1 ?_
          obtain ⟨q96, h96, h⟩ := xbind h
          refine r_call (ix := 9) (as := []) (rest := [.ref 51]) (rv := some (.int q96.1)) (hp' := xW B q96.2) (pc := 96) rfl xr77 rfl rfl rfl (xkd H (by decide)) (Nat.le_of_ble_eq_true rfl) (Z77_9 H h96 (by omega)) (Nat.le_refl _) ?_
          refine q_lr (k := 1) (i := 0) (q := (.aload_n 0, 1, 0, 0, .null)) rfl (fun _ => rfl) l0 ?_
          refine r_gr (c := 54) H (pc := 100) rfl (by decide) (by decide) ?_
          refine q_li (k := 2) (i := 6) (q := (.iload 6, 2, 0, 0, .null)) rfl (fun _ => rfl) l6 ?_
          obtain ⟨c2, h⟩ := xif h
          refine q_al (n := 64) (v := (q96.2.1 54 (v6 : Int32).toNatClampNeg)) H (pc := 105) rfl (by decide) c2 rfl ?_
          refine q_li (k := 2) (i := 6) (q := (.iload 6, 2, 0, 0, .null)) rfl (fun _ => rfl) l6 ?_
          refine q_li (k := 2) (i := 4) (q := (.iload 4, 2, 0, 0, .null)) rfl (fun _ => rfl) l4 ?_
          refine r_s (fr' := (111, lv, [.int (v6 ^^^ v4), .int (q96.2.1 54 (v6 : Int32).toNatClampNeg), .int q96.1, .ref 51])) (hp' := xW B q96.2) (q := (.ixor, 1, 0, 0, .null)) rfl (fun _ => rfl) (Nat.le_refl _) ?_
          obtain ⟨q111, h111, h⟩ := xbind h
          refine r_callS (as := [.int (v6 ^^^ v4)]) (rest := [.int (q96.2.1 54 (v6 : Int32).toNatClampNeg), .int q96.1, .ref 51]) (rv := some (.int q111.1)) (hp' := xW B q111.2) (pc := 111) rfl xr280 rfl rfl rfl (Nat.le_of_ble_eq_true rfl) (Z280 H h111 (by omega)) (Nat.le_refl _) ?_
          obtain ⟨q114, h114, h⟩ := xbind h
          refine r_call (ix := 51) (as := [.int q96.1, .int (q96.2.1 54 (v6 : Int32).toNatClampNeg), .int q111.1]) (rest := []) (rv := none) (hp' := xW B q114.2) (pc := 114) rfl xr2 rfl rfl rfl (xkd H (by decide)) (Nat.le_of_ble_eq_true rfl) (Z2_51 H h114 (by omega)) (Nat.le_refl _) ?_
          refine q_lr (k := 1) (i := 0) (q := (.aload_n 0, 1, 0, 0, .null)) rfl (fun _ => rfl) l0 ?_
          refine q_lr (k := 1) (i := 1) (q := (.aload_n 1, 1, 0, 0, .null)) rfl (fun _ => rfl) l1 ?_
          refine q_li (k := 2) (i := 6) (q := (.iload 6, 2, 0, 0, .null)) rfl (fun _ => rfl) l6 ?_
          obtain ⟨q121, h121, h⟩ := xbind h
          refine r_call (ix := 51) (as := [.ref 9, .int v6]) (rest := []) (rv := none) (hp' := xW B q121.2) (pc := 121) rfl xr3 rfl rfl rfl (xkd H (by decide)) (Nat.le_of_ble_eq_true rfl) (Z3_51_9 H h121 (by omega)) (Nat.le_refl _) ?_
          exact T1_51_9_124 H he F _ ih l0 l1 l2 l3 l4 l5 l6 h
def D1_51_9 (F : Nat) (v2 : Int32) (m : xS) : Option (Unit × xS) :=
  (D291_52 F (-1) m).bind fun q5 =>
    (D291_53 F (-1) q5.2).bind fun q13 =>
      (D291_54 F 0 q13.2).bind fun q21 =>
        (D87_9 F v2 3 q21.2).bind fun q27 =>
          (D87_9 F v2 0 q27.2).bind fun q38 =>
            if xib ((1 <<< (q27.1 &&& 31)) ||| (1 <<< (q38.1 &&& 31))) 64 = true then
              (D77_9 F (xu q38.2 54 (((1 <<< (q27.1 &&& 31)) ||| (1 <<< (q38.1 &&& 31))) : Int32).toNatClampNeg (1 <<< (q27.1 &&& 31)))).bind fun q57 =>
                D1_51_9_67 F F v2 q27.1 ((1 <<< (q27.1 &&& 31)) ||| (1 <<< (q38.1 &&& 31))) (1 <<< (q57.1 &&& 31)) ((1 <<< (q27.1 &&& 31)) ||| (1 <<< (q38.1 &&& 31))) q57.2
            else none
set_option maxRecDepth 20000 in
theorem T1_51_9 {B : zHp} (H : yH0 B) {e : Nat} (he : 3 ≤ e + 1) (F : Nat) {v2 : Int32} {lv : List (Nat × Value)} {m : xS} {x : Unit × xS} (l0 : zld lv 0 = some (.ref 51)) (l1 : zld lv 1 = some (.ref 9)) (l2 : zld lv 2 = some (.int v2)) (h : D1_51_9 F v2 m = some x) : zR none e 7 none zc1 (0, lv, []) (xW B m) (none, xW B x.2) := by
  unfold D1_51_9 at h
  refine q_lr (k := 1) (i := 0) (q := (.aload_n 0, 1, 0, 0, .null)) rfl (fun _ => rfl) l0 ?_
  refine r_gr (c := 52) H (pc := 1) rfl (by decide) (by decide) ?_
  refine r_s (fr' := (5, lv, [.int (-1), .ref 52])) (hp' := xW B m) (q := (.iconst (-1), 1, 0, 0, .null)) rfl (fun _ => rfl) (Nat.le_refl _) ?_
  obtain ⟨q5, h5, h⟩ := xbind h
  refine r_callS (as := [.ref 52, .int (-1)]) (rest := []) (rv := none) (hp' := xW B q5.2) (pc := 5) rfl xr291 rfl rfl rfl (Nat.le_of_ble_eq_true rfl) (Z291_52 H h5 (by omega)) (Nat.le_refl _) ?_
  refine q_lr (k := 1) (i := 0) (q := (.aload_n 0, 1, 0, 0, .null)) rfl (fun _ => rfl) l0 ?_
  refine r_gr (c := 53) H (pc := 9) rfl (by decide) (by decide) ?_
  refine r_s (fr' := (13, lv, [.int (-1), .ref 53])) (hp' := xW B q5.2) (q := (.iconst (-1), 1, 0, 0, .null)) rfl (fun _ => rfl) (Nat.le_refl _) ?_
  obtain ⟨q13, h13, h⟩ := xbind h
  refine r_callS (as := [.ref 53, .int (-1)]) (rest := []) (rv := none) (hp' := xW B q13.2) (pc := 13) rfl xr291 rfl rfl rfl (Nat.le_of_ble_eq_true rfl) (Z291_53 H h13 (by omega)) (Nat.le_refl _) ?_
  refine q_lr (k := 1) (i := 0) (q := (.aload_n 0, 1, 0, 0, .null)) rfl (fun _ => rfl) l0 ?_
  refine r_gr (c := 54) H (pc := 17) rfl (by decide) (by decide) ?_
  refine r_s (fr' := (21, lv, [.int 0, .ref 54])) (hp' := xW B q13.2) (q := (.iconst 0, 1, 0, 0, .null)) rfl (fun _ => rfl) (Nat.le_refl _) ?_
  obtain ⟨q21, h21, h⟩ := xbind h
  refine r_callS (as := [.ref 54, .int 0]) (rest := []) (rv := none) (hp' := xW B q21.2) (pc := 21) rfl xr291 rfl rfl rfl (Nat.le_of_ble_eq_true rfl) (Z291_54 H h21 (by omega)) (Nat.le_refl _) ?_
  refine q_lr (k := 1) (i := 1) (q := (.aload_n 1, 1, 0, 0, .null)) rfl (fun _ => rfl) l1 ?_
  refine q_li (k := 1) (i := 2) (q := (.iload_n 2, 1, 0, 0, .null)) rfl (fun _ => rfl) l2 ?_
  refine r_s (fr' := (27, lv, [.int 3, .int v2, .ref 9])) (hp' := xW B q21.2) (q := (.iconst 3, 1, 0, 0, .null)) rfl (fun _ => rfl) (Nat.le_refl _) ?_
  obtain ⟨q27, h27, h⟩ := xbind h
  refine r_call (ix := 9) (as := [.int v2, .int 3]) (rest := []) (rv := some (.int q27.1)) (hp' := xW B q27.2) (pc := 27) rfl xr87 rfl rfl rfl (xkd H (by decide)) (Nat.le_of_ble_eq_true rfl) (Z87_9 H h27 (by omega)) (Nat.le_refl _) ?_
  refine q_si (k := 1) (i := 3) (q := (.istore_n 3, 1, 0, 0, .null)) rfl (fun _ => rfl) (by decide) ?_
  have l0_1 : zld (zs1 lv 3 (.int q27.1)) 0 = some (.ref 51) := x_o1 l0 rfl rfl
  have l1_1 : zld (zs1 lv 3 (.int q27.1)) 1 = some (.ref 9) := x_o1 l1 rfl rfl
  have l2_1 : zld (zs1 lv 3 (.int q27.1)) 2 = some (.int v2) := x_o1 l2 rfl rfl
  have l3_1 : zld (zs1 lv 3 (.int q27.1)) 3 = some (.int q27.1) := zs1_ld _ _ _
  generalize (zs1 lv 3 (.int q27.1)) = lv1 at *
  refine r_s (fr' := (32, lv1, [.int 1])) (hp' := xW B q27.2) (q := (.iconst 1, 1, 0, 0, .null)) rfl (fun _ => rfl) (Nat.le_refl _) ?_
  refine q_li (k := 1) (i := 3) (q := (.iload_n 3, 1, 0, 0, .null)) rfl (fun _ => rfl) l3_1 ?_
  refine r_s (fr' := (34, lv1, [.int (1 <<< (q27.1 &&& 31))])) (hp' := xW B q27.2) (q := (.ishl, 1, 0, 0, .null)) rfl (fun _ => rfl) (Nat.le_refl _) ?_
  refine r_s (fr' := (35, lv1, [.int 1, .int (1 <<< (q27.1 &&& 31))])) (hp' := xW B q27.2) (q := (.iconst 1, 1, 0, 0, .null)) rfl (fun _ => rfl) (Nat.le_refl _) ?_
  refine q_lr (k := 1) (i := 1) (q := (.aload_n 1, 1, 0, 0, .null)) rfl (fun _ => rfl) l1_1 ?_
  refine q_li (k := 1) (i := 2) (q := (.iload_n 2, 1, 0, 0, .null)) rfl (fun _ => rfl) l2_1 ?_
  refine r_s (fr' := (38, lv1, [.int 0, .int v2, .ref 9, .int 1, .int (1 <<< (q27.1 &&& 31))])) (hp' := xW B q27.2) (q := (.iconst 0, 1, 0, 0, .null)) rfl (fun _ => rfl) (Nat.le_refl _) ?_
  obtain ⟨q38, h38, h⟩ := xbind h
  refine r_call (ix := 9) (as := [.int v2, .int 0]) (rest := [.int 1, .int (1 <<< (q27.1 &&& 31))]) (rv := some (.int q38.1)) (hp' := xW B q38.2) (pc := 38) rfl xr87 rfl rfl rfl (xkd H (by decide)) (Nat.le_of_ble_eq_true rfl) (Z87_9 H h38 (by omega)) (Nat.le_refl _) ?_
  refine r_s (fr' := (42, lv1, [.int (1 <<< (q38.1 &&& 31)), .int (1 <<< (q27.1 &&& 31))])) (hp' := xW B q38.2) (q := (.ishl, 1, 0, 0, .null)) rfl (fun _ => rfl) (Nat.le_refl _) ?_
  refine r_s (fr' := (43, lv1, [.int ((1 <<< (q27.1 &&& 31)) ||| (1 <<< (q38.1 &&& 31)))])) (hp' := xW B q38.2) (q := (.ior, 1, 0, 0, .null)) rfl (fun _ => rfl) (Nat.le_refl _) ?_
  refine q_si (k := 2) (i := 4) (q := (.istore 4, 2, 0, 0, .null)) rfl (fun _ => rfl) (by decide) ?_
  have l0_2 : zld (zs1 lv1 4 (.int ((1 <<< (q27.1 &&& 31)) ||| (1 <<< (q38.1 &&& 31))))) 0 = some (.ref 51) := x_o1 l0_1 rfl rfl
  have l1_2 : zld (zs1 lv1 4 (.int ((1 <<< (q27.1 &&& 31)) ||| (1 <<< (q38.1 &&& 31))))) 1 = some (.ref 9) := x_o1 l1_1 rfl rfl
  have l2_2 : zld (zs1 lv1 4 (.int ((1 <<< (q27.1 &&& 31)) ||| (1 <<< (q38.1 &&& 31))))) 2 = some (.int v2) := x_o1 l2_1 rfl rfl
  have l3_2 : zld (zs1 lv1 4 (.int ((1 <<< (q27.1 &&& 31)) ||| (1 <<< (q38.1 &&& 31))))) 3 = some (.int q27.1) := x_o1 l3_1 rfl rfl
  have l4_2 : zld (zs1 lv1 4 (.int ((1 <<< (q27.1 &&& 31)) ||| (1 <<< (q38.1 &&& 31))))) 4 = some (.int ((1 <<< (q27.1 &&& 31)) ||| (1 <<< (q38.1 &&& 31)))) := zs1_ld _ _ _
  generalize (zs1 lv1 4 (.int ((1 <<< (q27.1 &&& 31)) ||| (1 <<< (q38.1 &&& 31))))) = lv2 at *
  refine q_lr (k := 1) (i := 0) (q := (.aload_n 0, 1, 0, 0, .null)) rfl (fun _ => rfl) l0_2 ?_
  refine r_gr (c := 54) H (pc := 46) rfl (by decide) (by decide) ?_
  refine q_li (k := 2) (i := 4) (q := (.iload 4, 2, 0, 0, .null)) rfl (fun _ => rfl) l4_2 ?_
  refine r_s (fr' := (52, lv2, [.int 1, .int ((1 <<< (q27.1 &&& 31)) ||| (1 <<< (q38.1 &&& 31))), .ref 54])) (hp' := xW B q38.2) (q := (.iconst 1, 1, 0, 0, .null)) rfl (fun _ => rfl) (Nat.le_refl _) ?_
  refine q_li (k := 1) (i := 3) (q := (.iload_n 3, 1, 0, 0, .null)) rfl (fun _ => rfl) l3_2 ?_
  refine r_s (fr' := (54, lv2, [.int (1 <<< (q27.1 &&& 31)), .int ((1 <<< (q27.1 &&& 31)) ||| (1 <<< (q38.1 &&& 31))), .ref 54])) (hp' := xW B q38.2) (q := (.ishl, 1, 0, 0, .null)) rfl (fun _ => rfl) (Nat.le_refl _) ?_
  obtain ⟨c3, h⟩ := xif h
  refine q_as (n := 64) (s2 := (xu q38.2 54 (((1 <<< (q27.1 &&& 31)) ||| (1 <<< (q38.1 &&& 31))) : Int32).toNatClampNeg (1 <<< (q27.1 &&& 31)))) H (pc := 54) rfl (by decide) c3 rfl ?_
  refine r_s (fr' := (56, lv2, [.int 1])) (hp' := xW B (xu q38.2 54 (((1 <<< (q27.1 &&& 31)) ||| (1 <<< (q38.1 &&& 31))) : Int32).toNatClampNeg (1 <<< (q27.1 &&& 31)))) (q := (.iconst 1, 1, 0, 0, .null)) rfl (fun _ => rfl) (Nat.le_refl _) ?_
  refine q_lr (k := 1) (i := 1) (q := (.aload_n 1, 1, 0, 0, .null)) rfl (fun _ => rfl) l1_2 ?_
  obtain ⟨q57, h57, h⟩ := xbind h
  refine r_call (ix := 9) (as := []) (rest := [.int 1]) (rv := some (.int q57.1)) (hp' := xW B q57.2) (pc := 57) rfl xr77 rfl rfl rfl (xkd H (by decide)) (Nat.le_of_ble_eq_true rfl) (Z77_9 H h57 (by omega)) (Nat.le_refl _) ?_
  refine r_s (fr' := (61, lv2, [.int (1 <<< (q57.1 &&& 31))])) (hp' := xW B q57.2) (q := (.ishl, 1, 0, 0, .null)) rfl (fun _ => rfl) (Nat.le_refl _) ?_
  refine q_si (k := 2) (i := 5) (q := (.istore 5, 2, 0, 0, .null)) rfl (fun _ => rfl) (by decide) ?_
  have l0_4 : zld (zs1 lv2 5 (.int (1 <<< (q57.1 &&& 31)))) 0 = some (.ref 51) := x_o1 l0_2 rfl rfl
  have l1_4 : zld (zs1 lv2 5 (.int (1 <<< (q57.1 &&& 31)))) 1 = some (.ref 9) := x_o1 l1_2 rfl rfl
  have l2_4 : zld (zs1 lv2 5 (.int (1 <<< (q57.1 &&& 31)))) 2 = some (.int v2) := x_o1 l2_2 rfl rfl
  have l3_4 : zld (zs1 lv2 5 (.int (1 <<< (q57.1 &&& 31)))) 3 = some (.int q27.1) := x_o1 l3_2 rfl rfl
  have l4_4 : zld (zs1 lv2 5 (.int (1 <<< (q57.1 &&& 31)))) 4 = some (.int ((1 <<< (q27.1 &&& 31)) ||| (1 <<< (q38.1 &&& 31)))) := x_o1 l4_2 rfl rfl
  have l5_4 : zld (zs1 lv2 5 (.int (1 <<< (q57.1 &&& 31)))) 5 = some (.int (1 <<< (q57.1 &&& 31))) := zs1_ld _ _ _
  generalize (zs1 lv2 5 (.int (1 <<< (q57.1 &&& 31)))) = lv4 at *
  refine q_li (k := 2) (i := 4) (q := (.iload 4, 2, 0, 0, .null)) rfl (fun _ => rfl) l4_4 ?_
  refine q_si (k := 2) (i := 6) (q := (.istore 6, 2, 0, 0, .null)) rfl (fun _ => rfl) (by decide) ?_
  have l0_5 : zld (zs1 lv4 6 (.int ((1 <<< (q27.1 &&& 31)) ||| (1 <<< (q38.1 &&& 31))))) 0 = some (.ref 51) := x_o1 l0_4 rfl rfl
  have l1_5 : zld (zs1 lv4 6 (.int ((1 <<< (q27.1 &&& 31)) ||| (1 <<< (q38.1 &&& 31))))) 1 = some (.ref 9) := x_o1 l1_4 rfl rfl
  have l2_5 : zld (zs1 lv4 6 (.int ((1 <<< (q27.1 &&& 31)) ||| (1 <<< (q38.1 &&& 31))))) 2 = some (.int v2) := x_o1 l2_4 rfl rfl
  have l3_5 : zld (zs1 lv4 6 (.int ((1 <<< (q27.1 &&& 31)) ||| (1 <<< (q38.1 &&& 31))))) 3 = some (.int q27.1) := x_o1 l3_4 rfl rfl
  have l4_5 : zld (zs1 lv4 6 (.int ((1 <<< (q27.1 &&& 31)) ||| (1 <<< (q38.1 &&& 31))))) 4 = some (.int ((1 <<< (q27.1 &&& 31)) ||| (1 <<< (q38.1 &&& 31)))) := x_o1 l4_4 rfl rfl
  have l5_5 : zld (zs1 lv4 6 (.int ((1 <<< (q27.1 &&& 31)) ||| (1 <<< (q38.1 &&& 31))))) 5 = some (.int (1 <<< (q57.1 &&& 31))) := x_o1 l5_4 rfl rfl
  have l6_5 : zld (zs1 lv4 6 (.int ((1 <<< (q27.1 &&& 31)) ||| (1 <<< (q38.1 &&& 31))))) 6 = some (.int ((1 <<< (q27.1 &&& 31)) ||| (1 <<< (q38.1 &&& 31)))) := zs1_ld _ _ _
  generalize (zs1 lv4 6 (.int ((1 <<< (q27.1 &&& 31)) ||| (1 <<< (q38.1 &&& 31))))) = lv5 at *
  exact T1_51_9_67 H he F F l0_5 l1_5 l2_5 l3_5 l4_5 l5_5 l6_5 h
set_option maxRecDepth 20000 in
theorem Z1_51_9 {B : zHp} (H : yH0 B) {F : Nat} {a2 : Int32} {m : xS} {x : Unit × xS} (h : D1_51_9 F a2 m = some x) {d : Nat} (hd : 3 ≤ d) : zCan d 1 [.ref 51, .ref 9, .int a2] (xW B m) (none, xW B x.2) := by
  obtain ⟨e, rfl⟩ : ∃ e, d = e + 1 := ⟨d - 1, by omega⟩
  refine zCan_body (nL := 7) (rt := none) (cd := zc1) (xg1) ⟨Nat.le_of_ble_eq_true rfl, by decide⟩ (Nat.le_refl _) ?_
  exact T1_51_9 H hd F rfl rfl rfl h
/-- LentTools$Matching.findWorksOf -/
def D22_50_9_92 (F : Nat) (g11 : Int32 → Int32 → xS → Option (Unit × xS)) (v2 : Int32) (v3 : Int32) (v4 : Int32) (m : xS) : Option (Unit × xS) :=
  g11 v2 (v3 + Int32.ofInt 1) m
set_option maxRecDepth 20000 in
theorem T22_50_9_92 {B : zHp} (H : yH0 B) {e : Nat} (he : 4 ≤ e + 1) (F : Nat) (g11 : Int32 → Int32 → xS → Option (Unit × xS)) (k11 : ∀ {v2 : Int32} {v3 : Int32} {lv : List (Nat × Value)} {m : xS} {x : Unit × xS}, zld lv 0 = some (.ref 50) → zld lv 1 = some (.ref 9) → zld lv 2 = some (.int v2) → zld lv 3 = some (.int v3) → g11 v2 v3 m = some x → zR none e 5 none zc22 (11, lv, []) (xW B m) (none, xW B x.2)) {v2 : Int32} {v3 : Int32} {v4 : Int32} {lv : List (Nat × Value)} {m : xS} {x : Unit × xS} (l0 : zld lv 0 = some (.ref 50)) (l1 : zld lv 1 = some (.ref 9)) (l2 : zld lv 2 = some (.int v2)) (l3 : zld lv 3 = some (.int v3)) (l4 : zld lv 4 = some (.int v4)) (h : D22_50_9_92 F g11 v2 v3 v4 m = some x) : zR none e 5 none zc22 (92, lv, []) (xW B m) (none, xW B x.2) := by
  unfold D22_50_9_92 at h
  refine q_inc (i := 3) (n := 1) (q := (.iinc 3 1, 3, 0, 0, .null)) rfl (fun _ => rfl) l3 (by decide) ?_
  have l0_1 : zld (zs1 lv 3 (.int (v3 + Int32.ofInt 1))) 0 = some (.ref 50) := x_o1 l0 rfl rfl
  have l1_1 : zld (zs1 lv 3 (.int (v3 + Int32.ofInt 1))) 1 = some (.ref 9) := x_o1 l1 rfl rfl
  have l2_1 : zld (zs1 lv 3 (.int (v3 + Int32.ofInt 1))) 2 = some (.int v2) := x_o1 l2 rfl rfl
  have l3_1 : zld (zs1 lv 3 (.int (v3 + Int32.ofInt 1))) 3 = some (.int (v3 + Int32.ofInt 1)) := zs1_ld _ _ _
  have l4_1 : zld (zs1 lv 3 (.int (v3 + Int32.ofInt 1))) 4 = some (.int v4) := x_o1 l4 rfl rfl
  generalize (zs1 lv 3 (.int (v3 + Int32.ofInt 1))) = lv1 at *
  refine r_s (fr' := (11, lv1, [])) (hp' := xW B m) (q := (.goto (-84), 3, 11, 0, .null)) rfl (fun _ => rfl) (Nat.le_refl _) ?_
  exact k11 l0_1 l1_1 l2_1 l3_1 h
def D22_50_9_11 (F : Nat) : Nat → Int32 → Int32 → xS → Option (Unit × xS)
  | 0, _, _, _ => none
  | f + 1, v2, v3, m =>
    if zcmp .ge v3 (m.1 50 1) = true then
      some ((), m)
    else
      (D89_9 F v3 0 m).bind fun q29 =>
        if xib q29.1 6 = true then
          if zcmp .eq (q29.2.1 52 (q29.1 : Int32).toNatClampNeg) (-1) = true then
            D22_50_9_92 F (D22_50_9_11 F f) v2 v3 (q29.2.1 52 (q29.1 : Int32).toNatClampNeg) q29.2
          else
            (D106_9 F v3 q29.2).bind fun q43 =>
              if zcmp .ne q43.1 0 = true then
                D22_50_9_92 F (D22_50_9_11 F f) v2 v3 (q29.2.1 52 (q29.1 : Int32).toNatClampNeg) q43.2
              else
                (D89_9 F v3 1 q43.2).bind fun q52 =>
                  (D87_9 F v2 1 q52.2).bind fun q58 =>
                    if zcmp .ne q52.1 q58.1 = true then
                      D22_50_9_92 F (D22_50_9_11 F f) v2 v3 (q29.2.1 52 (q29.1 : Int32).toNatClampNeg) q58.2
                    else
                      (D100_9 F v2 (q29.2.1 52 (q29.1 : Int32).toNatClampNeg) q58.2).bind fun q68 =>
                        (D89_9 F v3 2 q68.2).bind fun q74 =>
                          if zcmp .lt q68.1 q74.1 = true then
                            D22_50_9_92 F (D22_50_9_11 F f) v2 v3 (q29.2.1 52 (q29.1 : Int32).toNatClampNeg) q74.2
                          else
                            if xib v3 6 = true then
                              if xib v3 6 = true then
                                D22_50_9_92 F (D22_50_9_11 F f) v2 v3 (q29.2.1 52 (q29.1 : Int32).toNatClampNeg) (xu q74.2 57 (v3 : Int32).toNatClampNeg ((q74.2.1 57 (v3 : Int32).toNatClampNeg) ||| (1 <<< (v2 &&& 31))))
                              else none
                            else none
        else none
set_option maxRecDepth 20000 in
theorem T22_50_9_11 {B : zHp} (H : yH0 B) {e : Nat} (he : 4 ≤ e + 1) (F : Nat) : ∀ (f : Nat) {v2 : Int32} {v3 : Int32} {lv : List (Nat × Value)} {m : xS} {x : Unit × xS}, zld lv 0 = some (.ref 50) → zld lv 1 = some (.ref 9) → zld lv 2 = some (.int v2) → zld lv 3 = some (.int v3) → D22_50_9_11 F f v2 v3 m = some x → zR none e 5 none zc22 (11, lv, []) (xW B m) (none, xW B x.2) := by
  intro f
  induction f with
  | zero => intro v2 v3 lv m x l0 l1 l2 l3 h; cases h
  | succ f ih =>
    intro v2 v3 lv m x l0 l1 l2 l3 h
    unfold D22_50_9_11 at h
    refine q_li (k := 1) (i := 3) (q := (.iload_n 3, 1, 0, 0, .null)) rfl (fun _ => rfl) l3 ?_
    refine q_lr (k := 1) (i := 0) (q := (.aload_n 0, 1, 0, 0, .null)) rfl (fun _ => rfl) l0 ?_
    refine r_gi (v := (m.1 50 1)) H (pc := 13) (i := _) rfl (by decide) (by decide) rfl ?_
    refine r_ifc (len := 3) (a := 98) (b := 0) (v0 := .null) (cn := .ge) (off := 82) rfl (fun c => ?_) (fun c => ?_)
    · rw [if_pos c] at h
      obtain rfl := Option.some.inj h
      exact r_ret (q := (.return_, 1, 0, 0, .null)) rfl rfl (fun _ => rfl)
    · rw [if_neg (by rw [c]; decide)] at h
      refine q_lr (k := 1) (i := 0) (q := (.aload_n 0, 1, 0, 0, .null)) rfl (fun _ => rfl) l0 ?_
      refine r_gr (c := 51) H (pc := 20) rfl (by decide) (by decide) ?_
      refine r_gr (c := 52) H (pc := 23) rfl (by decide) (by decide) ?_
      refine q_lr (k := 1) (i := 1) (q := (.aload_n 1, 1, 0, 0, .null)) rfl (fun _ => rfl) l1 ?_
      refine q_li (k := 1) (i := 3) (q := (.iload_n 3, 1, 0, 0, .null)) rfl (fun _ => rfl) l3 ?_
      refine r_s (fr' := (29, lv, [.int 0, .int v3, .ref 9, .ref 52])) (hp' := xW B m) (q := (.iconst 0, 1, 0, 0, .null)) rfl (fun _ => rfl) (Nat.le_refl _) ?_
      obtain ⟨q29, h29, h⟩ := xbind h
      refine r_call (ix := 9) (as := [.int v3, .int 0]) (rest := [.ref 52]) (rv := some (.int q29.1)) (hp' := xW B q29.2) (pc := 29) rfl xr89 rfl rfl rfl (xkd H (by decide)) (Nat.le_of_ble_eq_true rfl) (Z89_9 H h29 (by omega)) (Nat.le_refl _) ?_
      obtain ⟨c1, h⟩ := xif h
      refine q_al (n := 6) (v := (q29.2.1 52 (q29.1 : Int32).toNatClampNeg)) H (pc := 32) rfl (by decide) c1 rfl ?_
      refine q_si (k := 2) (i := 4) (q := (.istore 4, 2, 0, 0, .null)) rfl (fun _ => rfl) (by decide) ?_
      have l0_2 : zld (zs1 lv 4 (.int (q29.2.1 52 (q29.1 : Int32).toNatClampNeg))) 0 = some (.ref 50) := x_o1 l0 rfl rfl
      have l1_2 : zld (zs1 lv 4 (.int (q29.2.1 52 (q29.1 : Int32).toNatClampNeg))) 1 = some (.ref 9) := x_o1 l1 rfl rfl
      have l2_2 : zld (zs1 lv 4 (.int (q29.2.1 52 (q29.1 : Int32).toNatClampNeg))) 2 = some (.int v2) := x_o1 l2 rfl rfl
      have l3_2 : zld (zs1 lv 4 (.int (q29.2.1 52 (q29.1 : Int32).toNatClampNeg))) 3 = some (.int v3) := x_o1 l3 rfl rfl
      have l4_2 : zld (zs1 lv 4 (.int (q29.2.1 52 (q29.1 : Int32).toNatClampNeg))) 4 = some (.int (q29.2.1 52 (q29.1 : Int32).toNatClampNeg)) := zs1_ld _ _ _
      generalize (zs1 lv 4 (.int (q29.2.1 52 (q29.1 : Int32).toNatClampNeg))) = lv2 at *
      refine q_li (k := 2) (i := 4) (q := (.iload 4, 2, 0, 0, .null)) rfl (fun _ => rfl) l4_2 ?_
      refine r_s (fr' := (38, lv2, [.int (-1), .int (q29.2.1 52 (q29.1 : Int32).toNatClampNeg)])) (hp' := xW B q29.2) (q := (.iconst (-1), 1, 0, 0, .null)) rfl (fun _ => rfl) (Nat.le_refl _) ?_
      refine r_ifc (len := 3) (a := 92) (b := 0) (v0 := .null) (cn := .eq) (off := 54) rfl (fun c => ?_) (fun c => ?_)
      · rw [if_pos c] at h
        exact T22_50_9_92 H he F _ ih l0_2 l1_2 l2_2 l3_2 l4_2 h
      · rw [if_neg (by rw [c]; decide)] at h
        refine q_lr (k := 1) (i := 1) (q := (.aload_n 1, 1, 0, 0, .null)) rfl (fun _ => rfl) l1_2 ?_
        refine q_li (k := 1) (i := 3) (q := (.iload_n 3, 1, 0, 0, .null)) rfl (fun _ => rfl) l3_2 ?_
        obtain ⟨q43, h43, h⟩ := xbind h
        refine r_call (ix := 9) (as := [.int v3]) (rest := []) (rv := some (.int q43.1)) (hp' := xW B q43.2) (pc := 43) rfl xr106 rfl rfl rfl (xkd H (by decide)) (Nat.le_of_ble_eq_true rfl) (Z106_9 H h43 (by omega)) (Nat.le_refl _) ?_
        refine r_if (len := 3) (a := 92) (b := 0) (v0 := .null) (cn := .ne) (off := 46) rfl (fun c => ?_) (fun c => ?_)
        · rw [if_pos c] at h
          exact T22_50_9_92 H he F _ ih l0_2 l1_2 l2_2 l3_2 l4_2 h
        · rw [if_neg (by rw [c]; decide)] at h
          refine q_lr (k := 1) (i := 1) (q := (.aload_n 1, 1, 0, 0, .null)) rfl (fun _ => rfl) l1_2 ?_
          refine q_li (k := 1) (i := 3) (q := (.iload_n 3, 1, 0, 0, .null)) rfl (fun _ => rfl) l3_2 ?_
          refine r_s (fr' := (52, lv2, [.int 1, .int v3, .ref 9])) (hp' := xW B q43.2) (q := (.iconst 1, 1, 0, 0, .null)) rfl (fun _ => rfl) (Nat.le_refl _) ?_
          obtain ⟨q52, h52, h⟩ := xbind h
          refine r_call (ix := 9) (as := [.int v3, .int 1]) (rest := []) (rv := some (.int q52.1)) (hp' := xW B q52.2) (pc := 52) rfl xr89 rfl rfl rfl (xkd H (by decide)) (Nat.le_of_ble_eq_true rfl) (Z89_9 H h52 (by omega)) (Nat.le_refl _) ?_
          refine q_lr (k := 1) (i := 1) (q := (.aload_n 1, 1, 0, 0, .null)) rfl (fun _ => rfl) l1_2 ?_
          refine q_li (k := 1) (i := 2) (q := (.iload_n 2, 1, 0, 0, .null)) rfl (fun _ => rfl) l2_2 ?_
          refine r_s (fr' := (58, lv2, [.int 1, .int v2, .ref 9, .int q52.1])) (hp' := xW B q52.2) (q := (.iconst 1, 1, 0, 0, .null)) rfl (fun _ => rfl) (Nat.le_refl _) ?_
          obtain ⟨q58, h58, h⟩ := xbind h
          refine r_call (ix := 9) (as := [.int v2, .int 1]) (rest := [.int q52.1]) (rv := some (.int q58.1)) (hp' := xW B q58.2) (pc := 58) rfl xr87 rfl rfl rfl (xkd H (by decide)) (Nat.le_of_ble_eq_true rfl) (Z87_9 H h58 (by omega)) (Nat.le_refl _) ?_
          refine r_ifc (len := 3) (a := 92) (b := 0) (v0 := .null) (cn := .ne) (off := 31) rfl (fun c => ?_) (fun c => ?_)
          · rw [if_pos c] at h
            exact T22_50_9_92 H he F _ ih l0_2 l1_2 l2_2 l3_2 l4_2 h
          · rw [if_neg (by rw [c]; decide)] at h
            refine q_lr (k := 1) (i := 1) (q := (.aload_n 1, 1, 0, 0, .null)) rfl (fun _ => rfl) l1_2 ?_
            refine q_li (k := 1) (i := 2) (q := (.iload_n 2, 1, 0, 0, .null)) rfl (fun _ => rfl) l2_2 ?_
            refine q_li (k := 2) (i := 4) (q := (.iload 4, 2, 0, 0, .null)) rfl (fun _ => rfl) l4_2 ?_
            obtain ⟨q68, h68, h⟩ := xbind h
            refine r_call (ix := 9) (as := [.int v2, .int (q29.2.1 52 (q29.1 : Int32).toNatClampNeg)]) (rest := []) (rv := some (.int q68.1)) (hp' := xW B q68.2) (pc := 68) rfl xr100 rfl rfl rfl (xkd H (by decide)) (Nat.le_of_ble_eq_true rfl) (Z100_9 H h68 (by omega)) (Nat.le_refl _) ?_
            refine q_lr (k := 1) (i := 1) (q := (.aload_n 1, 1, 0, 0, .null)) rfl (fun _ => rfl) l1_2 ?_
            refine q_li (k := 1) (i := 3) (q := (.iload_n 3, 1, 0, 0, .null)) rfl (fun _ => rfl) l3_2 ?_
            refine r_s (fr' := (74, lv2, [.int 2, .int v3, .ref 9, .int q68.1])) (hp' := xW B q68.2) (q := (.iconst 2, 1, 0, 0, .null)) rfl (fun _ => rfl) (Nat.le_refl _) ?_
            obtain ⟨q74, h74, h⟩ := xbind h
            refine r_call (ix := 9) (as := [.int v3, .int 2]) (rest := [.int q68.1]) (rv := some (.int q74.1)) (hp' := xW B q74.2) (pc := 74) rfl xr89 rfl rfl rfl (xkd H (by decide)) (Nat.le_of_ble_eq_true rfl) (Z89_9 H h74 (by omega)) (Nat.le_refl _) ?_
            refine r_ifc (len := 3) (a := 92) (b := 0) (v0 := .null) (cn := .lt) (off := 15) rfl (fun c => ?_) (fun c => ?_)
            · rw [if_pos c] at h
              exact T22_50_9_92 H he F _ ih l0_2 l1_2 l2_2 l3_2 l4_2 h
            · rw [if_neg (by rw [c]; decide)] at h
              refine q_lr (k := 1) (i := 0) (q := (.aload_n 0, 1, 0, 0, .null)) rfl (fun _ => rfl) l0_2 ?_
              refine r_gr (c := 57) H (pc := 81) rfl (by decide) (by decide) ?_
              refine q_li (k := 1) (i := 3) (q := (.iload_n 3, 1, 0, 0, .null)) rfl (fun _ => rfl) l3_2 ?_
              refine r_s (fr' := (86, lv2, [.int v3, .ref 57, .int v3, .ref 57])) (hp' := xW B q74.2) (q := (.dup2, 1, 0, 0, .null)) rfl (fun _ => rfl) (Nat.le_refl _) ?_
              obtain ⟨c3, h⟩ := xif h
              refine q_al (n := 6) (v := (q74.2.1 57 (v3 : Int32).toNatClampNeg)) H (pc := 86) rfl (by decide) c3 rfl ?_
              refine r_s (fr' := (88, lv2, [.int 1, .int (q74.2.1 57 (v3 : Int32).toNatClampNeg), .int v3, .ref 57])) (hp' := xW B q74.2) (q := (.iconst 1, 1, 0, 0, .null)) rfl (fun _ => rfl) (Nat.le_refl _) ?_
              refine q_li (k := 1) (i := 2) (q := (.iload_n 2, 1, 0, 0, .null)) rfl (fun _ => rfl) l2_2 ?_
              refine r_s (fr' := (90, lv2, [.int (1 <<< (v2 &&& 31)), .int (q74.2.1 57 (v3 : Int32).toNatClampNeg), .int v3, .ref 57])) (hp' := xW B q74.2) (q := (.ishl, 1, 0, 0, .null)) rfl (fun _ => rfl) (Nat.le_refl _) ?_
              refine r_s (fr' := (91, lv2, [.int ((q74.2.1 57 (v3 : Int32).toNatClampNeg) ||| (1 <<< (v2 &&& 31))), .int v3, .ref 57])) (hp' := xW B q74.2) (q := (.ior, 1, 0, 0, .null)) rfl (fun _ => rfl) (Nat.le_refl _) ?_
              obtain ⟨c4, h⟩ := xif h
              refine q_as (n := 6) (s2 := (xu q74.2 57 (v3 : Int32).toNatClampNeg ((q74.2.1 57 (v3 : Int32).toNatClampNeg) ||| (1 <<< (v2 &&& 31))))) H (pc := 91) rfl (by decide) c4 rfl ?_
              exact T22_50_9_92 H he F _ ih l0_2 l1_2 l2_2 l3_2 l4_2 h
def D22_50_9 (F : Nat) (v2 : Int32) (m : xS) : Option (Unit × xS) :=
  (D1_51_9 F v2 m).bind fun q6 =>
    D22_50_9_11 F F v2 0 q6.2
set_option maxRecDepth 20000 in
theorem T22_50_9 {B : zHp} (H : yH0 B) {e : Nat} (he : 4 ≤ e + 1) (F : Nat) {v2 : Int32} {lv : List (Nat × Value)} {m : xS} {x : Unit × xS} (l0 : zld lv 0 = some (.ref 50)) (l1 : zld lv 1 = some (.ref 9)) (l2 : zld lv 2 = some (.int v2)) (h : D22_50_9 F v2 m = some x) : zR none e 5 none zc22 (0, lv, []) (xW B m) (none, xW B x.2) := by
  unfold D22_50_9 at h
  refine q_lr (k := 1) (i := 0) (q := (.aload_n 0, 1, 0, 0, .null)) rfl (fun _ => rfl) l0 ?_
  refine r_gr (c := 51) H (pc := 1) rfl (by decide) (by decide) ?_
  refine q_lr (k := 1) (i := 1) (q := (.aload_n 1, 1, 0, 0, .null)) rfl (fun _ => rfl) l1 ?_
  refine q_li (k := 1) (i := 2) (q := (.iload_n 2, 1, 0, 0, .null)) rfl (fun _ => rfl) l2 ?_
  obtain ⟨q6, h6, h⟩ := xbind h
  refine r_call (ix := 51) (as := [.ref 9, .int v2]) (rest := []) (rv := none) (hp' := xW B q6.2) (pc := 6) rfl xr1 rfl rfl rfl (xkd H (by decide)) (Nat.le_of_ble_eq_true rfl) (Z1_51_9 H h6 (by omega)) (Nat.le_refl _) ?_
  refine r_s (fr' := (10, lv, [.int 0])) (hp' := xW B q6.2) (q := (.iconst 0, 1, 0, 0, .null)) rfl (fun _ => rfl) (Nat.le_refl _) ?_
  refine q_si (k := 1) (i := 3) (q := (.istore_n 3, 1, 0, 0, .null)) rfl (fun _ => rfl) (by decide) ?_
  have l0_1 : zld (zs1 lv 3 (.int 0)) 0 = some (.ref 50) := x_o1 l0 rfl rfl
  have l1_1 : zld (zs1 lv 3 (.int 0)) 1 = some (.ref 9) := x_o1 l1 rfl rfl
  have l2_1 : zld (zs1 lv 3 (.int 0)) 2 = some (.int v2) := x_o1 l2 rfl rfl
  have l3_1 : zld (zs1 lv 3 (.int 0)) 3 = some (.int 0) := zs1_ld _ _ _
  generalize (zs1 lv 3 (.int 0)) = lv1 at *
  exact T22_50_9_11 H he F F l0_1 l1_1 l2_1 l3_1 h
set_option maxRecDepth 20000 in
theorem Z22_50_9 {B : zHp} (H : yH0 B) {F : Nat} {a2 : Int32} {m : xS} {x : Unit × xS} (h : D22_50_9 F a2 m = some x) {d : Nat} (hd : 4 ≤ d) : zCan d 22 [.ref 50, .ref 9, .int a2] (xW B m) (none, xW B x.2) := by
  obtain ⟨e, rfl⟩ : ∃ e, d = e + 1 := ⟨d - 1, by omega⟩
  refine zCan_body (nL := 5) (rt := none) (cd := zc22) (xg22) ⟨Nat.le_of_ble_eq_true rfl, by decide⟩ (Nat.le_refl _) ?_
  exact T22_50_9 H hd F rfl rfl rfl h
/-- LentTools$Matching.findAble -/
def D21_50_9_56 (F : Nat) (g37 : Int32 → Int32 → xS → Option (Unit × xS)) (v2 : Int32) (v3 : Int32) (m : xS) : Option (Unit × xS) :=
  g37 v2 (v3 + Int32.ofInt 1) m
set_option maxRecDepth 20000 in
theorem T21_50_9_56 {B : zHp} (H : yH0 B) {e : Nat} (he : 5 ≤ e + 1) (F : Nat) (g37 : Int32 → Int32 → xS → Option (Unit × xS)) (k37 : ∀ {v2 : Int32} {v3 : Int32} {lv : List (Nat × Value)} {m : xS} {x : Unit × xS}, zld lv 0 = some (.ref 50) → zld lv 1 = some (.ref 9) → zld lv 2 = some (.int v2) → zld lv 3 = some (.int v3) → g37 v2 v3 m = some x → zR none e 4 none zc21 (37, lv, []) (xW B m) (none, xW B x.2)) {v2 : Int32} {v3 : Int32} {lv : List (Nat × Value)} {m : xS} {x : Unit × xS} (l0 : zld lv 0 = some (.ref 50)) (l1 : zld lv 1 = some (.ref 9)) (l2 : zld lv 2 = some (.int v2)) (l3 : zld lv 3 = some (.int v3)) (h : D21_50_9_56 F g37 v2 v3 m = some x) : zR none e 4 none zc21 (56, lv, []) (xW B m) (none, xW B x.2) := by
  unfold D21_50_9_56 at h
  refine q_inc (i := 3) (n := 1) (q := (.iinc 3 1, 3, 0, 0, .null)) rfl (fun _ => rfl) l3 (by decide) ?_
  have l0_1 : zld (zs1 lv 3 (.int (v3 + Int32.ofInt 1))) 0 = some (.ref 50) := x_o1 l0 rfl rfl
  have l1_1 : zld (zs1 lv 3 (.int (v3 + Int32.ofInt 1))) 1 = some (.ref 9) := x_o1 l1 rfl rfl
  have l2_1 : zld (zs1 lv 3 (.int (v3 + Int32.ofInt 1))) 2 = some (.int v2) := x_o1 l2 rfl rfl
  have l3_1 : zld (zs1 lv 3 (.int (v3 + Int32.ofInt 1))) 3 = some (.int (v3 + Int32.ofInt 1)) := zs1_ld _ _ _
  generalize (zs1 lv 3 (.int (v3 + Int32.ofInt 1))) = lv1 at *
  refine r_s (fr' := (37, lv1, [])) (hp' := xW B m) (q := (.goto (-22), 3, 37, 0, .null)) rfl (fun _ => rfl) (Nat.le_refl _) ?_
  exact k37 l0_1 l1_1 l2_1 l3_1 h
def D21_50_9_37 (F : Nat) : Nat → Int32 → Int32 → xS → Option (Unit × xS)
  | 0, _, _, _ => none
  | f + 1, v2, v3, m =>
    (D79_9 F m).bind fun q39 =>
      if zcmp .ge v3 q39.1 = true then
        some ((), q39.2)
      else
        if zcmp .eq v3 v2 = true then
          D21_50_9_56 F (D21_50_9_37 F f) v2 v3 q39.2
        else
          (D22_50_9 F v3 q39.2).bind fun q53 =>
            D21_50_9_56 F (D21_50_9_37 F f) v2 v3 q53.2
set_option maxRecDepth 20000 in
theorem T21_50_9_37 {B : zHp} (H : yH0 B) {e : Nat} (he : 5 ≤ e + 1) (F : Nat) : ∀ (f : Nat) {v2 : Int32} {v3 : Int32} {lv : List (Nat × Value)} {m : xS} {x : Unit × xS}, zld lv 0 = some (.ref 50) → zld lv 1 = some (.ref 9) → zld lv 2 = some (.int v2) → zld lv 3 = some (.int v3) → D21_50_9_37 F f v2 v3 m = some x → zR none e 4 none zc21 (37, lv, []) (xW B m) (none, xW B x.2) := by
  intro f
  induction f with
  | zero => intro v2 v3 lv m x l0 l1 l2 l3 h; cases h
  | succ f ih =>
    intro v2 v3 lv m x l0 l1 l2 l3 h
    unfold D21_50_9_37 at h
    refine q_li (k := 1) (i := 3) (q := (.iload_n 3, 1, 0, 0, .null)) rfl (fun _ => rfl) l3 ?_
    refine q_lr (k := 1) (i := 1) (q := (.aload_n 1, 1, 0, 0, .null)) rfl (fun _ => rfl) l1 ?_
    obtain ⟨q39, h39, h⟩ := xbind h
    refine r_call (ix := 9) (as := []) (rest := [.int v3]) (rv := some (.int q39.1)) (hp' := xW B q39.2) (pc := 39) rfl xr79 rfl rfl rfl (xkd H (by decide)) (Nat.le_of_ble_eq_true rfl) (Z79_9 H h39 (by omega)) (Nat.le_refl _) ?_
    refine r_ifc (len := 3) (a := 62) (b := 0) (v0 := .null) (cn := .ge) (off := 20) rfl (fun c => ?_) (fun c => ?_)
    · rw [if_pos c] at h
      obtain rfl := Option.some.inj h
      exact r_ret (q := (.return_, 1, 0, 0, .null)) rfl rfl (fun _ => rfl)
    · rw [if_neg (by rw [c]; decide)] at h
      refine q_li (k := 1) (i := 3) (q := (.iload_n 3, 1, 0, 0, .null)) rfl (fun _ => rfl) l3 ?_
      refine q_li (k := 1) (i := 2) (q := (.iload_n 2, 1, 0, 0, .null)) rfl (fun _ => rfl) l2 ?_
      refine r_ifc (len := 3) (a := 56) (b := 0) (v0 := .null) (cn := .eq) (off := 9) rfl (fun c => ?_) (fun c => ?_)
      · rw [if_pos c] at h
        exact T21_50_9_56 H he F _ ih l0 l1 l2 l3 h
      · rw [if_neg (by rw [c]; decide)] at h
        refine q_lr (k := 1) (i := 0) (q := (.aload_n 0, 1, 0, 0, .null)) rfl (fun _ => rfl) l0 ?_
        refine q_lr (k := 1) (i := 1) (q := (.aload_n 1, 1, 0, 0, .null)) rfl (fun _ => rfl) l1 ?_
        refine q_li (k := 1) (i := 3) (q := (.iload_n 3, 1, 0, 0, .null)) rfl (fun _ => rfl) l3 ?_
        obtain ⟨q53, h53, h⟩ := xbind h
        refine r_call (ix := 50) (as := [.ref 9, .int v3]) (rest := []) (rv := none) (hp' := xW B q53.2) (pc := 53) rfl xr22 rfl rfl rfl (xkd H (by decide)) (Nat.le_of_ble_eq_true rfl) (Z22_50_9 H h53 (by omega)) (Nat.le_refl _) ?_
        exact T21_50_9_56 H he F _ ih l0 l1 l2 l3 h
def D21_50_9_2 (F : Nat) : Nat → Int32 → Int32 → xS → Option (Unit × xS)
  | 0, _, _, _ => none
  | f + 1, v2, v3, m =>
    if zcmp .ge v3 (m.1 50 1) = true then
      D21_50_9_37 F F v2 0 m
    else
      if xib v3 6 = true then
        (D89_9 F v3 3 (xu m 57 (v3 : Int32).toNatClampNeg 0)).bind fun q25 =>
          if xib v3 6 = true then
            D21_50_9_2 F f v2 (v3 + Int32.ofInt 1) (xu q25.2 58 (v3 : Int32).toNatClampNeg q25.1)
          else none
      else none
set_option maxRecDepth 20000 in
theorem T21_50_9_2 {B : zHp} (H : yH0 B) {e : Nat} (he : 5 ≤ e + 1) (F : Nat) : ∀ (f : Nat) {v2 : Int32} {v3 : Int32} {lv : List (Nat × Value)} {m : xS} {x : Unit × xS}, zld lv 0 = some (.ref 50) → zld lv 1 = some (.ref 9) → zld lv 2 = some (.int v2) → zld lv 3 = some (.int v3) → D21_50_9_2 F f v2 v3 m = some x → zR none e 4 none zc21 (2, lv, []) (xW B m) (none, xW B x.2) := by
  intro f
  induction f with
  | zero => intro v2 v3 lv m x l0 l1 l2 l3 h; cases h
  | succ f ih =>
    intro v2 v3 lv m x l0 l1 l2 l3 h
    unfold D21_50_9_2 at h
    refine q_li (k := 1) (i := 3) (q := (.iload_n 3, 1, 0, 0, .null)) rfl (fun _ => rfl) l3 ?_
    refine q_lr (k := 1) (i := 0) (q := (.aload_n 0, 1, 0, 0, .null)) rfl (fun _ => rfl) l0 ?_
    refine r_gi (v := (m.1 50 1)) H (pc := 4) (i := _) rfl (by decide) (by decide) rfl ?_
    refine r_ifc (len := 3) (a := 35) (b := 0) (v0 := .null) (cn := .ge) (off := 28) rfl (fun c => ?_) (fun c => ?_)
    · rw [if_pos c] at h
      refine r_s (fr' := (36, lv, [.int 0])) (hp' := xW B m) (q := (.iconst 0, 1, 0, 0, .null)) rfl (fun _ => rfl) (Nat.le_refl _) ?_
      refine q_si (k := 1) (i := 3) (q := (.istore_n 3, 1, 0, 0, .null)) rfl (fun _ => rfl) (by decide) ?_
      have l0_1 : zld (zs1 lv 3 (.int 0)) 0 = some (.ref 50) := x_o1 l0 rfl rfl
      have l1_1 : zld (zs1 lv 3 (.int 0)) 1 = some (.ref 9) := x_o1 l1 rfl rfl
      have l2_1 : zld (zs1 lv 3 (.int 0)) 2 = some (.int v2) := x_o1 l2 rfl rfl
      have l3_1 : zld (zs1 lv 3 (.int 0)) 3 = some (.int 0) := zs1_ld _ _ _
      generalize (zs1 lv 3 (.int 0)) = lv1 at *
      exact T21_50_9_37 H he F F l0_1 l1_1 l2_1 l3_1 h
    · rw [if_neg (by rw [c]; decide)] at h
      refine q_lr (k := 1) (i := 0) (q := (.aload_n 0, 1, 0, 0, .null)) rfl (fun _ => rfl) l0 ?_
      refine r_gr (c := 57) H (pc := 11) rfl (by decide) (by decide) ?_
      refine q_li (k := 1) (i := 3) (q := (.iload_n 3, 1, 0, 0, .null)) rfl (fun _ => rfl) l3 ?_
      refine r_s (fr' := (16, lv, [.int 0, .int v3, .ref 57])) (hp' := xW B m) (q := (.iconst 0, 1, 0, 0, .null)) rfl (fun _ => rfl) (Nat.le_refl _) ?_
      obtain ⟨c2, h⟩ := xif h
      refine q_as (n := 6) (s2 := (xu m 57 (v3 : Int32).toNatClampNeg 0)) H (pc := 16) rfl (by decide) c2 rfl ?_
      refine q_lr (k := 1) (i := 0) (q := (.aload_n 0, 1, 0, 0, .null)) rfl (fun _ => rfl) l0 ?_
      refine r_gr (c := 58) H (pc := 18) rfl (by decide) (by decide) ?_
      refine q_li (k := 1) (i := 3) (q := (.iload_n 3, 1, 0, 0, .null)) rfl (fun _ => rfl) l3 ?_
      refine q_lr (k := 1) (i := 1) (q := (.aload_n 1, 1, 0, 0, .null)) rfl (fun _ => rfl) l1 ?_
      refine q_li (k := 1) (i := 3) (q := (.iload_n 3, 1, 0, 0, .null)) rfl (fun _ => rfl) l3 ?_
      refine r_s (fr' := (25, lv, [.int 3, .int v3, .ref 9, .int v3, .ref 58])) (hp' := xW B (xu m 57 (v3 : Int32).toNatClampNeg 0)) (q := (.iconst 3, 1, 0, 0, .null)) rfl (fun _ => rfl) (Nat.le_refl _) ?_
      obtain ⟨q25, h25, h⟩ := xbind h
      refine r_call (ix := 9) (as := [.int v3, .int 3]) (rest := [.int v3, .ref 58]) (rv := some (.int q25.1)) (hp' := xW B q25.2) (pc := 25) rfl xr89 rfl rfl rfl (xkd H (by decide)) (Nat.le_of_ble_eq_true rfl) (Z89_9 H h25 (by omega)) (Nat.le_refl _) ?_
      obtain ⟨c3, h⟩ := xif h
      refine q_as (n := 6) (s2 := (xu q25.2 58 (v3 : Int32).toNatClampNeg q25.1)) H (pc := 28) rfl (by decide) c3 rfl ?_
      refine q_inc (i := 3) (n := 1) (q := (.iinc 3 1, 3, 0, 0, .null)) rfl (fun _ => rfl) l3 (by decide) ?_
      have l0_4 : zld (zs1 lv 3 (.int (v3 + Int32.ofInt 1))) 0 = some (.ref 50) := x_o1 l0 rfl rfl
      have l1_4 : zld (zs1 lv 3 (.int (v3 + Int32.ofInt 1))) 1 = some (.ref 9) := x_o1 l1 rfl rfl
      have l2_4 : zld (zs1 lv 3 (.int (v3 + Int32.ofInt 1))) 2 = some (.int v2) := x_o1 l2 rfl rfl
      have l3_4 : zld (zs1 lv 3 (.int (v3 + Int32.ofInt 1))) 3 = some (.int (v3 + Int32.ofInt 1)) := zs1_ld _ _ _
      generalize (zs1 lv 3 (.int (v3 + Int32.ofInt 1))) = lv4 at *
      refine r_s (fr' := (2, lv4, [])) (hp' := xW B (xu q25.2 58 (v3 : Int32).toNatClampNeg q25.1)) (q := (.goto (-30), 3, 2, 0, .null)) rfl (fun _ => rfl) (Nat.le_refl _) ?_
      exact ih l0_4 l1_4 l2_4 l3_4 h
def D21_50_9 (F : Nat) (v2 : Int32) (m : xS) : Option (Unit × xS) :=
  D21_50_9_2 F F v2 0 m
set_option maxRecDepth 20000 in
theorem T21_50_9 {B : zHp} (H : yH0 B) {e : Nat} (he : 5 ≤ e + 1) (F : Nat) {v2 : Int32} {lv : List (Nat × Value)} {m : xS} {x : Unit × xS} (l0 : zld lv 0 = some (.ref 50)) (l1 : zld lv 1 = some (.ref 9)) (l2 : zld lv 2 = some (.int v2)) (h : D21_50_9 F v2 m = some x) : zR none e 4 none zc21 (0, lv, []) (xW B m) (none, xW B x.2) := by
  unfold D21_50_9 at h
  refine r_s (fr' := (1, lv, [.int 0])) (hp' := xW B m) (q := (.iconst 0, 1, 0, 0, .null)) rfl (fun _ => rfl) (Nat.le_refl _) ?_
  refine q_si (k := 1) (i := 3) (q := (.istore_n 3, 1, 0, 0, .null)) rfl (fun _ => rfl) (by decide) ?_
  have l0_1 : zld (zs1 lv 3 (.int 0)) 0 = some (.ref 50) := x_o1 l0 rfl rfl
  have l1_1 : zld (zs1 lv 3 (.int 0)) 1 = some (.ref 9) := x_o1 l1 rfl rfl
  have l2_1 : zld (zs1 lv 3 (.int 0)) 2 = some (.int v2) := x_o1 l2 rfl rfl
  have l3_1 : zld (zs1 lv 3 (.int 0)) 3 = some (.int 0) := zs1_ld _ _ _
  generalize (zs1 lv 3 (.int 0)) = lv1 at *
  exact T21_50_9_2 H he F F l0_1 l1_1 l2_1 l3_1 h
set_option maxRecDepth 20000 in
theorem Z21_50_9 {B : zHp} (H : yH0 B) {F : Nat} {a2 : Int32} {m : xS} {x : Unit × xS} (h : D21_50_9 F a2 m = some x) {d : Nat} (hd : 5 ≤ d) : zCan d 21 [.ref 50, .ref 9, .int a2] (xW B m) (none, xW B x.2) := by
  obtain ⟨e, rfl⟩ : ∃ e, d = e + 1 := ⟨d - 1, by omega⟩
  refine zCan_body (nL := 4) (rt := none) (cd := zc21) (xg21) ⟨Nat.le_of_ble_eq_true rfl, by decide⟩ (Nat.le_refl _) ?_
  exact T21_50_9 H hd F rfl rfl rfl h
/-- java/util/Arrays.fill -/
def D291_S60_7_5 (F : Nat) (r0 : Nat) : Nat → Int32 → Int32 → Int32 → xS → Option (Unit × xS)
  | 0, _, _, _, _ => none
  | f + 1, v1, v2, v3, m =>
    if zcmp .ge v2 v3 = true then
      some ((), m)
    else
      if xib v2 64 = true then
        D291_S60_7_5 F r0 f v1 (v2 + Int32.ofInt 1) v3 (xu m r0 (v2 : Int32).toNatClampNeg v1)
      else none
set_option maxRecDepth 20000 in
theorem T291_S60_7_5 {B : zHp} (H : yH0 B) {e : Nat} (he : 1 ≤ e + 1) (F : Nat) (r0 : Nat) (hr0 : 60 ≤ r0 ∧ r0 < 67) : ∀ (f : Nat) {v1 : Int32} {v2 : Int32} {v3 : Int32} {lv : List (Nat × Value)} {m : xS} {x : Unit × xS}, zld lv 0 = some (.ref r0) → zld lv 1 = some (.int v1) → zld lv 2 = some (.int v2) → zld lv 3 = some (.int v3) → D291_S60_7_5 F r0 f v1 v2 v3 m = some x → zR none e 4 none zc291 (5, lv, []) (xW B m) (none, xW B x.2) := by
  intro f
  induction f with
  | zero => intro v1 v2 v3 lv m x l0 l1 l2 l3 h; cases h
  | succ f ih =>
    intro v1 v2 v3 lv m x l0 l1 l2 l3 h
    unfold D291_S60_7_5 at h
    refine q_li (k := 1) (i := 2) (q := (.iload_n 2, 1, 0, 0, .null)) rfl (fun _ => rfl) l2 ?_
    refine q_li (k := 1) (i := 3) (q := (.iload_n 3, 1, 0, 0, .null)) rfl (fun _ => rfl) l3 ?_
    refine r_ifc (len := 3) (a := 20) (b := 0) (v0 := .null) (cn := .ge) (off := 13) rfl (fun c => ?_) (fun c => ?_)
    · rw [if_pos c] at h
      obtain rfl := Option.some.inj h
      exact r_ret (q := (.return_, 1, 0, 0, .null)) rfl rfl (fun _ => rfl)
    · rw [if_neg (by rw [c]; decide)] at h
      refine q_lr (k := 1) (i := 0) (q := (.aload_n 0, 1, 0, 0, .null)) rfl (fun _ => rfl) l0 ?_
      refine q_li (k := 1) (i := 2) (q := (.iload_n 2, 1, 0, 0, .null)) rfl (fun _ => rfl) l2 ?_
      refine q_li (k := 1) (i := 1) (q := (.iload_n 1, 1, 0, 0, .null)) rfl (fun _ => rfl) l1 ?_
      obtain ⟨c1, h⟩ := xif h
      refine q_as (n := 64) (s2 := (xu m r0 (v2 : Int32).toNatClampNeg v1)) H (pc := 13) rfl (xtS60_7 hr0) c1 rfl ?_
      refine q_inc (i := 2) (n := 1) (q := (.iinc 2 1, 3, 0, 0, .null)) rfl (fun _ => rfl) l2 (by decide) ?_
      have l0_2 : zld (zs1 lv 2 (.int (v2 + Int32.ofInt 1))) 0 = some (.ref r0) := x_o1 l0 rfl rfl
      have l1_2 : zld (zs1 lv 2 (.int (v2 + Int32.ofInt 1))) 1 = some (.int v1) := x_o1 l1 rfl rfl
      have l2_2 : zld (zs1 lv 2 (.int (v2 + Int32.ofInt 1))) 2 = some (.int (v2 + Int32.ofInt 1)) := zs1_ld _ _ _
      have l3_2 : zld (zs1 lv 2 (.int (v2 + Int32.ofInt 1))) 3 = some (.int v3) := x_o1 l3 rfl rfl
      generalize (zs1 lv 2 (.int (v2 + Int32.ofInt 1))) = lv2 at *
      refine r_s (fr' := (5, lv2, [])) (hp' := xW B (xu m r0 (v2 : Int32).toNatClampNeg v1)) (q := (.goto (-12), 3, 5, 0, .null)) rfl (fun _ => rfl) (Nat.le_refl _) ?_
      exact ih l0_2 l1_2 l2_2 l3_2 h
def D291_S60_7 (F : Nat) (r0 : Nat) (v1 : Int32) (m : xS) : Option (Unit × xS) :=
  D291_S60_7_5 F r0 F v1 0 (Int32.ofNat 64) m
set_option maxRecDepth 20000 in
theorem T291_S60_7 {B : zHp} (H : yH0 B) {e : Nat} (he : 1 ≤ e + 1) (F : Nat) (r0 : Nat) (hr0 : 60 ≤ r0 ∧ r0 < 67) {v1 : Int32} {lv : List (Nat × Value)} {m : xS} {x : Unit × xS} (l0 : zld lv 0 = some (.ref r0)) (l1 : zld lv 1 = some (.int v1)) (h : D291_S60_7 F r0 v1 m = some x) : zR none e 4 none zc291 (0, lv, []) (xW B m) (none, xW B x.2) := by
  unfold D291_S60_7 at h
  refine r_s (fr' := (1, lv, [.int 0])) (hp' := xW B m) (q := (.iconst 0, 1, 0, 0, .null)) rfl (fun _ => rfl) (Nat.le_refl _) ?_
  refine q_si (k := 1) (i := 2) (q := (.istore_n 2, 1, 0, 0, .null)) rfl (fun _ => rfl) (by decide) ?_
  have l0_1 : zld (zs1 lv 2 (.int 0)) 0 = some (.ref r0) := x_o1 l0 rfl rfl
  have l1_1 : zld (zs1 lv 2 (.int 0)) 1 = some (.int v1) := x_o1 l1 rfl rfl
  have l2_1 : zld (zs1 lv 2 (.int 0)) 2 = some (.int 0) := zs1_ld _ _ _
  generalize (zs1 lv 2 (.int 0)) = lv1 at *
  refine q_lr (k := 1) (i := 0) (q := (.aload_n 0, 1, 0, 0, .null)) rfl (fun _ => rfl) l0_1 ?_
  refine q_len (n := 64) (k := 0) H (pc := 3) rfl (xtS60_7 hr0) ?_
  refine q_si (k := 1) (i := 3) (q := (.istore_n 3, 1, 0, 0, .null)) rfl (fun _ => rfl) (by decide) ?_
  have l0_2 : zld (zs1 lv1 3 (.int (Int32.ofNat 64))) 0 = some (.ref r0) := x_o1 l0_1 rfl rfl
  have l1_2 : zld (zs1 lv1 3 (.int (Int32.ofNat 64))) 1 = some (.int v1) := x_o1 l1_1 rfl rfl
  have l2_2 : zld (zs1 lv1 3 (.int (Int32.ofNat 64))) 2 = some (.int 0) := x_o1 l2_1 rfl rfl
  have l3_2 : zld (zs1 lv1 3 (.int (Int32.ofNat 64))) 3 = some (.int (Int32.ofNat 64)) := zs1_ld _ _ _
  generalize (zs1 lv1 3 (.int (Int32.ofNat 64))) = lv2 at *
  exact T291_S60_7_5 H he F r0 hr0 F l0_2 l1_2 l2_2 l3_2 h
set_option maxRecDepth 20000 in
theorem Z291_S60_7 {B : zHp} (H : yH0 B) {F : Nat} {r0 : Nat} (hr0 : 60 ≤ r0 ∧ r0 < 67) {a1 : Int32} {m : xS} {x : Unit × xS} (h : D291_S60_7 F r0 a1 m = some x) {d : Nat} (hd : 1 ≤ d) : zCan d 291 [.ref r0, .int a1] (xW B m) (none, xW B x.2) := by
  obtain ⟨e, rfl⟩ : ∃ e, d = e + 1 := ⟨d - 1, by omega⟩
  refine zCan_body (nL := 4) (rt := none) (cd := zc291) (xg291) ⟨Nat.le_of_ble_eq_true rfl, by decide⟩ (Nat.le_refl _) ?_
  exact T291_S60_7 H hd F r0 hr0 rfl rfl h
/-- LentTools$Matching.mostFrom -/
def D20_50_70 (F : Nat) (g26 : Int32 → Int32 → Int32 → Int32 → Int32 → xS → Option (Int32 × xS)) (v1 : Int32) (v2 : Int32) (v3 : Int32) (v4 : Int32) (v5 : Int32) (m : xS) : Option (Int32 × xS) :=
  g26 v1 v2 v3 v4 (v5 + Int32.ofInt 1) m
set_option maxRecDepth 20000 in
theorem T20_50_70 {B : zHp} (H : yH0 B) {e : Nat} (he : 1 ≤ e + 1) (F : Nat) (g26 : Int32 → Int32 → Int32 → Int32 → Int32 → xS → Option (Int32 × xS)) (k26 : ∀ {v1 : Int32} {v2 : Int32} {v3 : Int32} {v4 : Int32} {v5 : Int32} {lv : List (Nat × Value)} {m : xS} {x : Int32 × xS}, zld lv 0 = some (.ref 50) → zld lv 1 = some (.int v1) → zld lv 2 = some (.int v2) → zld lv 3 = some (.int v3) → zld lv 4 = some (.int v4) → zld lv 5 = some (.int v5) → g26 v1 v2 v3 v4 v5 m = some x → zR none e 6 (some .int) zc20 (26, lv, []) (xW B m) (some (.int x.1), xW B x.2)) {v1 : Int32} {v2 : Int32} {v3 : Int32} {v4 : Int32} {v5 : Int32} {lv : List (Nat × Value)} {m : xS} {x : Int32 × xS} (l0 : zld lv 0 = some (.ref 50)) (l1 : zld lv 1 = some (.int v1)) (l2 : zld lv 2 = some (.int v2)) (l3 : zld lv 3 = some (.int v3)) (l4 : zld lv 4 = some (.int v4)) (l5 : zld lv 5 = some (.int v5)) (h : D20_50_70 F g26 v1 v2 v3 v4 v5 m = some x) : zR none e 6 (some .int) zc20 (70, lv, []) (xW B m) (some (.int x.1), xW B x.2) := by
  unfold D20_50_70 at h
  refine q_inc (i := 5) (n := 1) (q := (.iinc 5 1, 3, 0, 0, .null)) rfl (fun _ => rfl) l5 (by decide) ?_
  have l0_1 : zld (zs1 lv 5 (.int (v5 + Int32.ofInt 1))) 0 = some (.ref 50) := x_o1 l0 rfl rfl
  have l1_1 : zld (zs1 lv 5 (.int (v5 + Int32.ofInt 1))) 1 = some (.int v1) := x_o1 l1 rfl rfl
  have l2_1 : zld (zs1 lv 5 (.int (v5 + Int32.ofInt 1))) 2 = some (.int v2) := x_o1 l2 rfl rfl
  have l3_1 : zld (zs1 lv 5 (.int (v5 + Int32.ofInt 1))) 3 = some (.int v3) := x_o1 l3 rfl rfl
  have l4_1 : zld (zs1 lv 5 (.int (v5 + Int32.ofInt 1))) 4 = some (.int v4) := x_o1 l4 rfl rfl
  have l5_1 : zld (zs1 lv 5 (.int (v5 + Int32.ofInt 1))) 5 = some (.int (v5 + Int32.ofInt 1)) := zs1_ld _ _ _
  generalize (zs1 lv 5 (.int (v5 + Int32.ofInt 1))) = lv1 at *
  refine r_s (fr' := (26, lv1, [])) (hp' := xW B m) (q := (.goto (-47), 3, 26, 0, .null)) rfl (fun _ => rfl) (Nat.le_refl _) ?_
  exact k26 l0_1 l1_1 l2_1 l3_1 l4_1 l5_1 h
def D20_50_26 (F : Nat) : Nat → Int32 → Int32 → Int32 → Int32 → Int32 → xS → Option (Int32 × xS)
  | 0, _, _, _, _, _, _ => none
  | f + 1, v1, v2, v3, v4, v5, m =>
    if zcmp .ge v5 6 = true then
      some (v3, m)
    else
      if zcmp .eq ((v4 >>> (v5 &&& 31)) &&& 1) 0 = true then
        D20_50_70 F (D20_50_26 F f) v1 v2 v3 v4 v5 m
      else
        if xib v1 6 = true then
          if xib (v1 + 1) 7 = true then
            if xib (v2 ||| (1 <<< (v5 &&& 31))) 64 = true then
              D20_50_70 F (D20_50_26 F f) v1 v2 (if v3 < ((m.1 58 (v1 : Int32).toNatClampNeg) + (m.1 (60 + ((v1 + 1) : Int32).toNatClampNeg) ((v2 ||| (1 <<< (v5 &&& 31))) : Int32).toNatClampNeg)) then ((m.1 58 (v1 : Int32).toNatClampNeg) + (m.1 (60 + ((v1 + 1) : Int32).toNatClampNeg) ((v2 ||| (1 <<< (v5 &&& 31))) : Int32).toNatClampNeg)) else v3) v4 v5 m
            else none
          else none
        else none
set_option maxRecDepth 20000 in
theorem T20_50_26 {B : zHp} (H : yH0 B) {e : Nat} (he : 1 ≤ e + 1) (F : Nat) : ∀ (f : Nat) {v1 : Int32} {v2 : Int32} {v3 : Int32} {v4 : Int32} {v5 : Int32} {lv : List (Nat × Value)} {m : xS} {x : Int32 × xS}, zld lv 0 = some (.ref 50) → zld lv 1 = some (.int v1) → zld lv 2 = some (.int v2) → zld lv 3 = some (.int v3) → zld lv 4 = some (.int v4) → zld lv 5 = some (.int v5) → D20_50_26 F f v1 v2 v3 v4 v5 m = some x → zR none e 6 (some .int) zc20 (26, lv, []) (xW B m) (some (.int x.1), xW B x.2) := by
  intro f
  induction f with
  | zero => intro v1 v2 v3 v4 v5 lv m x l0 l1 l2 l3 l4 l5 h; cases h
  | succ f ih =>
    intro v1 v2 v3 v4 v5 lv m x l0 l1 l2 l3 l4 l5 h
    unfold D20_50_26 at h
    refine q_li (k := 2) (i := 5) (q := (.iload 5, 2, 0, 0, .null)) rfl (fun _ => rfl) l5 ?_
    refine r_s (fr' := (30, lv, [.int 6, .int v5])) (hp' := xW B m) (q := (.bipush 6, 2, 0, 0, .null)) rfl (fun _ => rfl) (Nat.le_refl _) ?_
    refine r_ifc (len := 3) (a := 76) (b := 0) (v0 := .null) (cn := .ge) (off := 46) rfl (fun c => ?_) (fun c => ?_)
    · rw [if_pos c] at h
      refine q_li (k := 1) (i := 3) (q := (.iload_n 3, 1, 0, 0, .null)) rfl (fun _ => rfl) l3 ?_
      obtain rfl := Option.some.inj h
      exact q_ri (q := (.ireturn, 1, 0, 0, .null)) rfl (fun _ => rfl) rfl rfl
    · rw [if_neg (by rw [c]; decide)] at h
      refine q_li (k := 2) (i := 4) (q := (.iload 4, 2, 0, 0, .null)) rfl (fun _ => rfl) l4 ?_
      refine q_li (k := 2) (i := 5) (q := (.iload 5, 2, 0, 0, .null)) rfl (fun _ => rfl) l5 ?_
      refine r_s (fr' := (38, lv, [.int (v4 >>> (v5 &&& 31))])) (hp' := xW B m) (q := (.ishr, 1, 0, 0, .null)) rfl (fun _ => rfl) (Nat.le_refl _) ?_
      refine r_s (fr' := (39, lv, [.int 1, .int (v4 >>> (v5 &&& 31))])) (hp' := xW B m) (q := (.iconst 1, 1, 0, 0, .null)) rfl (fun _ => rfl) (Nat.le_refl _) ?_
      refine r_s (fr' := (40, lv, [.int ((v4 >>> (v5 &&& 31)) &&& 1)])) (hp' := xW B m) (q := (.iand, 1, 0, 0, .null)) rfl (fun _ => rfl) (Nat.le_refl _) ?_
      refine r_if (len := 3) (a := 70) (b := 0) (v0 := .null) (cn := .eq) (off := 30) rfl (fun c => ?_) (fun c => ?_)
      · rw [if_pos c] at h
        exact T20_50_70 H he F _ ih l0 l1 l2 l3 l4 l5 h
      · rw [if_neg (by rw [c]; decide)] at h
        refine q_li (k := 1) (i := 3) (q := (.iload_n 3, 1, 0, 0, .null)) rfl (fun _ => rfl) l3 ?_
        refine q_lr (k := 1) (i := 0) (q := (.aload_n 0, 1, 0, 0, .null)) rfl (fun _ => rfl) l0 ?_
        refine r_gr (c := 58) H (pc := 45) rfl (by decide) (by decide) ?_
        refine q_li (k := 1) (i := 1) (q := (.iload_n 1, 1, 0, 0, .null)) rfl (fun _ => rfl) l1 ?_
        obtain ⟨c1, h⟩ := xif h
        refine q_al (n := 6) (v := (m.1 58 (v1 : Int32).toNatClampNeg)) H (pc := 49) rfl (by decide) c1 rfl ?_
        refine q_lr (k := 1) (i := 0) (q := (.aload_n 0, 1, 0, 0, .null)) rfl (fun _ => rfl) l0 ?_
        refine r_gr (c := 59) H (pc := 51) rfl (by decide) (by decide) ?_
        refine q_li (k := 1) (i := 1) (q := (.iload_n 1, 1, 0, 0, .null)) rfl (fun _ => rfl) l1 ?_
        refine r_s (fr' := (56, lv, [.int 1, .int v1, .ref 59, .int (m.1 58 (v1 : Int32).toNatClampNeg), .int v3])) (hp' := xW B m) (q := (.iconst 1, 1, 0, 0, .null)) rfl (fun _ => rfl) (Nat.le_refl _) ?_
        refine r_s (fr' := (57, lv, [.int (v1 + 1), .ref 59, .int (m.1 58 (v1 : Int32).toNatClampNeg), .int v3])) (hp' := xW B m) (q := (.iadd, 1, 0, 0, .null)) rfl (fun _ => rfl) (Nat.le_refl _) ?_
        obtain ⟨c2, h⟩ := xif h
        refine q_aal (n := 7) (b := 60) H (pc := 57) rfl ⟨rfl, by decide⟩ c2 ?_
        refine q_li (k := 1) (i := 2) (q := (.iload_n 2, 1, 0, 0, .null)) rfl (fun _ => rfl) l2 ?_
        refine r_s (fr' := (60, lv, [.int 1, .int v2, .ref (60 + ((v1 + 1) : Int32).toNatClampNeg), .int (m.1 58 (v1 : Int32).toNatClampNeg), .int v3])) (hp' := xW B m) (q := (.iconst 1, 1, 0, 0, .null)) rfl (fun _ => rfl) (Nat.le_refl _) ?_
        refine q_li (k := 2) (i := 5) (q := (.iload 5, 2, 0, 0, .null)) rfl (fun _ => rfl) l5 ?_
        refine r_s (fr' := (63, lv, [.int (1 <<< (v5 &&& 31)), .int v2, .ref (60 + ((v1 + 1) : Int32).toNatClampNeg), .int (m.1 58 (v1 : Int32).toNatClampNeg), .int v3])) (hp' := xW B m) (q := (.ishl, 1, 0, 0, .null)) rfl (fun _ => rfl) (Nat.le_refl _) ?_
        refine r_s (fr' := (64, lv, [.int (v2 ||| (1 <<< (v5 &&& 31))), .ref (60 + ((v1 + 1) : Int32).toNatClampNeg), .int (m.1 58 (v1 : Int32).toNatClampNeg), .int v3])) (hp' := xW B m) (q := (.ior, 1, 0, 0, .null)) rfl (fun _ => rfl) (Nat.le_refl _) ?_
        obtain ⟨c3, h⟩ := xif h
        refine q_al (n := 64) (v := (m.1 (60 + ((v1 + 1) : Int32).toNatClampNeg) ((v2 ||| (1 <<< (v5 &&& 31))) : Int32).toNatClampNeg)) H (pc := 64) rfl (xtS60_7 (xibS c2)) c3 rfl ?_
        refine r_s (fr' := (66, lv, [.int ((m.1 58 (v1 : Int32).toNatClampNeg) + (m.1 (60 + ((v1 + 1) : Int32).toNatClampNeg) ((v2 ||| (1 <<< (v5 &&& 31))) : Int32).toNatClampNeg)), .int v3])) (hp' := xW B m) (q := (.iadd, 1, 0, 0, .null)) rfl (fun _ => rfl) (Nat.le_refl _) ?_
        refine r_s (fr' := (69, lv, [.int (if v3 < ((m.1 58 (v1 : Int32).toNatClampNeg) + (m.1 (60 + ((v1 + 1) : Int32).toNatClampNeg) ((v2 ||| (1 <<< (v5 &&& 31))) : Int32).toNatClampNeg)) then ((m.1 58 (v1 : Int32).toNatClampNeg) + (m.1 (60 + ((v1 + 1) : Int32).toNatClampNeg) ((v2 ||| (1 <<< (v5 &&& 31))) : Int32).toNatClampNeg)) else v3)])) (hp' := xW B m) (q := (.invokestatic 61, 3, 0, 2, .null)) rfl (fun _ => rfl) (Nat.le_refl _) ?_
        refine q_si (k := 1) (i := 3) (q := (.istore_n 3, 1, 0, 0, .null)) rfl (fun _ => rfl) (by decide) ?_
        have l0_4 : zld (zs1 lv 3 (.int (if v3 < ((m.1 58 (v1 : Int32).toNatClampNeg) + (m.1 (60 + ((v1 + 1) : Int32).toNatClampNeg) ((v2 ||| (1 <<< (v5 &&& 31))) : Int32).toNatClampNeg)) then ((m.1 58 (v1 : Int32).toNatClampNeg) + (m.1 (60 + ((v1 + 1) : Int32).toNatClampNeg) ((v2 ||| (1 <<< (v5 &&& 31))) : Int32).toNatClampNeg)) else v3))) 0 = some (.ref 50) := x_o1 l0 rfl rfl
        have l1_4 : zld (zs1 lv 3 (.int (if v3 < ((m.1 58 (v1 : Int32).toNatClampNeg) + (m.1 (60 + ((v1 + 1) : Int32).toNatClampNeg) ((v2 ||| (1 <<< (v5 &&& 31))) : Int32).toNatClampNeg)) then ((m.1 58 (v1 : Int32).toNatClampNeg) + (m.1 (60 + ((v1 + 1) : Int32).toNatClampNeg) ((v2 ||| (1 <<< (v5 &&& 31))) : Int32).toNatClampNeg)) else v3))) 1 = some (.int v1) := x_o1 l1 rfl rfl
        have l2_4 : zld (zs1 lv 3 (.int (if v3 < ((m.1 58 (v1 : Int32).toNatClampNeg) + (m.1 (60 + ((v1 + 1) : Int32).toNatClampNeg) ((v2 ||| (1 <<< (v5 &&& 31))) : Int32).toNatClampNeg)) then ((m.1 58 (v1 : Int32).toNatClampNeg) + (m.1 (60 + ((v1 + 1) : Int32).toNatClampNeg) ((v2 ||| (1 <<< (v5 &&& 31))) : Int32).toNatClampNeg)) else v3))) 2 = some (.int v2) := x_o1 l2 rfl rfl
        have l3_4 : zld (zs1 lv 3 (.int (if v3 < ((m.1 58 (v1 : Int32).toNatClampNeg) + (m.1 (60 + ((v1 + 1) : Int32).toNatClampNeg) ((v2 ||| (1 <<< (v5 &&& 31))) : Int32).toNatClampNeg)) then ((m.1 58 (v1 : Int32).toNatClampNeg) + (m.1 (60 + ((v1 + 1) : Int32).toNatClampNeg) ((v2 ||| (1 <<< (v5 &&& 31))) : Int32).toNatClampNeg)) else v3))) 3 = some (.int (if v3 < ((m.1 58 (v1 : Int32).toNatClampNeg) + (m.1 (60 + ((v1 + 1) : Int32).toNatClampNeg) ((v2 ||| (1 <<< (v5 &&& 31))) : Int32).toNatClampNeg)) then ((m.1 58 (v1 : Int32).toNatClampNeg) + (m.1 (60 + ((v1 + 1) : Int32).toNatClampNeg) ((v2 ||| (1 <<< (v5 &&& 31))) : Int32).toNatClampNeg)) else v3)) := zs1_ld _ _ _
        have l4_4 : zld (zs1 lv 3 (.int (if v3 < ((m.1 58 (v1 : Int32).toNatClampNeg) + (m.1 (60 + ((v1 + 1) : Int32).toNatClampNeg) ((v2 ||| (1 <<< (v5 &&& 31))) : Int32).toNatClampNeg)) then ((m.1 58 (v1 : Int32).toNatClampNeg) + (m.1 (60 + ((v1 + 1) : Int32).toNatClampNeg) ((v2 ||| (1 <<< (v5 &&& 31))) : Int32).toNatClampNeg)) else v3))) 4 = some (.int v4) := x_o1 l4 rfl rfl
        have l5_4 : zld (zs1 lv 3 (.int (if v3 < ((m.1 58 (v1 : Int32).toNatClampNeg) + (m.1 (60 + ((v1 + 1) : Int32).toNatClampNeg) ((v2 ||| (1 <<< (v5 &&& 31))) : Int32).toNatClampNeg)) then ((m.1 58 (v1 : Int32).toNatClampNeg) + (m.1 (60 + ((v1 + 1) : Int32).toNatClampNeg) ((v2 ||| (1 <<< (v5 &&& 31))) : Int32).toNatClampNeg)) else v3))) 5 = some (.int v5) := x_o1 l5 rfl rfl
        generalize (zs1 lv 3 (.int (if v3 < ((m.1 58 (v1 : Int32).toNatClampNeg) + (m.1 (60 + ((v1 + 1) : Int32).toNatClampNeg) ((v2 ||| (1 <<< (v5 &&& 31))) : Int32).toNatClampNeg)) then ((m.1 58 (v1 : Int32).toNatClampNeg) + (m.1 (60 + ((v1 + 1) : Int32).toNatClampNeg) ((v2 ||| (1 <<< (v5 &&& 31))) : Int32).toNatClampNeg)) else v3))) = lv4 at *
        exact T20_50_70 H he F _ ih l0_4 l1_4 l2_4 l3_4 l4_4 l5_4 h
def D20_50 (F : Nat) (v1 : Int32) (v2 : Int32) (m : xS) : Option (Int32 × xS) :=
  if xib (v1 + 1) 7 = true then
    if xib v2 64 = true then
      if xib v1 6 = true then
        D20_50_26 F F v1 v2 (m.1 (60 + ((v1 + 1) : Int32).toNatClampNeg) (v2 : Int32).toNatClampNeg) ((m.1 57 (v1 : Int32).toNatClampNeg) &&& (v2 ^^^ (-1))) 0 m
      else none
    else none
  else none
set_option maxRecDepth 20000 in
theorem T20_50 {B : zHp} (H : yH0 B) {e : Nat} (he : 1 ≤ e + 1) (F : Nat) {v1 : Int32} {v2 : Int32} {lv : List (Nat × Value)} {m : xS} {x : Int32 × xS} (l0 : zld lv 0 = some (.ref 50)) (l1 : zld lv 1 = some (.int v1)) (l2 : zld lv 2 = some (.int v2)) (h : D20_50 F v1 v2 m = some x) : zR none e 6 (some .int) zc20 (0, lv, []) (xW B m) (some (.int x.1), xW B x.2) := by
  unfold D20_50 at h
  refine q_lr (k := 1) (i := 0) (q := (.aload_n 0, 1, 0, 0, .null)) rfl (fun _ => rfl) l0 ?_
  refine r_gr (c := 59) H (pc := 1) rfl (by decide) (by decide) ?_
  refine q_li (k := 1) (i := 1) (q := (.iload_n 1, 1, 0, 0, .null)) rfl (fun _ => rfl) l1 ?_
  refine r_s (fr' := (6, lv, [.int 1, .int v1, .ref 59])) (hp' := xW B m) (q := (.iconst 1, 1, 0, 0, .null)) rfl (fun _ => rfl) (Nat.le_refl _) ?_
  refine r_s (fr' := (7, lv, [.int (v1 + 1), .ref 59])) (hp' := xW B m) (q := (.iadd, 1, 0, 0, .null)) rfl (fun _ => rfl) (Nat.le_refl _) ?_
  obtain ⟨c1, h⟩ := xif h
  refine q_aal (n := 7) (b := 60) H (pc := 7) rfl ⟨rfl, by decide⟩ c1 ?_
  refine q_li (k := 1) (i := 2) (q := (.iload_n 2, 1, 0, 0, .null)) rfl (fun _ => rfl) l2 ?_
  obtain ⟨c2, h⟩ := xif h
  refine q_al (n := 64) (v := (m.1 (60 + ((v1 + 1) : Int32).toNatClampNeg) (v2 : Int32).toNatClampNeg)) H (pc := 9) rfl (xtS60_7 (xibS c1)) c2 rfl ?_
  refine q_si (k := 1) (i := 3) (q := (.istore_n 3, 1, 0, 0, .null)) rfl (fun _ => rfl) (by decide) ?_
  have l0_3 : zld (zs1 lv 3 (.int (m.1 (60 + ((v1 + 1) : Int32).toNatClampNeg) (v2 : Int32).toNatClampNeg))) 0 = some (.ref 50) := x_o1 l0 rfl rfl
  have l1_3 : zld (zs1 lv 3 (.int (m.1 (60 + ((v1 + 1) : Int32).toNatClampNeg) (v2 : Int32).toNatClampNeg))) 1 = some (.int v1) := x_o1 l1 rfl rfl
  have l2_3 : zld (zs1 lv 3 (.int (m.1 (60 + ((v1 + 1) : Int32).toNatClampNeg) (v2 : Int32).toNatClampNeg))) 2 = some (.int v2) := x_o1 l2 rfl rfl
  have l3_3 : zld (zs1 lv 3 (.int (m.1 (60 + ((v1 + 1) : Int32).toNatClampNeg) (v2 : Int32).toNatClampNeg))) 3 = some (.int (m.1 (60 + ((v1 + 1) : Int32).toNatClampNeg) (v2 : Int32).toNatClampNeg)) := zs1_ld _ _ _
  generalize (zs1 lv 3 (.int (m.1 (60 + ((v1 + 1) : Int32).toNatClampNeg) (v2 : Int32).toNatClampNeg))) = lv3 at *
  refine q_lr (k := 1) (i := 0) (q := (.aload_n 0, 1, 0, 0, .null)) rfl (fun _ => rfl) l0_3 ?_
  refine r_gr (c := 57) H (pc := 12) rfl (by decide) (by decide) ?_
  refine q_li (k := 1) (i := 1) (q := (.iload_n 1, 1, 0, 0, .null)) rfl (fun _ => rfl) l1_3 ?_
  obtain ⟨c4, h⟩ := xif h
  refine q_al (n := 6) (v := (m.1 57 (v1 : Int32).toNatClampNeg)) H (pc := 16) rfl (by decide) c4 rfl ?_
  refine q_li (k := 1) (i := 2) (q := (.iload_n 2, 1, 0, 0, .null)) rfl (fun _ => rfl) l2_3 ?_
  refine r_s (fr' := (19, lv3, [.int (-1), .int v2, .int (m.1 57 (v1 : Int32).toNatClampNeg)])) (hp' := xW B m) (q := (.iconst (-1), 1, 0, 0, .null)) rfl (fun _ => rfl) (Nat.le_refl _) ?_
  refine r_s (fr' := (20, lv3, [.int (v2 ^^^ (-1)), .int (m.1 57 (v1 : Int32).toNatClampNeg)])) (hp' := xW B m) (q := (.ixor, 1, 0, 0, .null)) rfl (fun _ => rfl) (Nat.le_refl _) ?_
  refine r_s (fr' := (21, lv3, [.int ((m.1 57 (v1 : Int32).toNatClampNeg) &&& (v2 ^^^ (-1)))])) (hp' := xW B m) (q := (.iand, 1, 0, 0, .null)) rfl (fun _ => rfl) (Nat.le_refl _) ?_
  refine q_si (k := 2) (i := 4) (q := (.istore 4, 2, 0, 0, .null)) rfl (fun _ => rfl) (by decide) ?_
  have l0_5 : zld (zs1 lv3 4 (.int ((m.1 57 (v1 : Int32).toNatClampNeg) &&& (v2 ^^^ (-1))))) 0 = some (.ref 50) := x_o1 l0_3 rfl rfl
  have l1_5 : zld (zs1 lv3 4 (.int ((m.1 57 (v1 : Int32).toNatClampNeg) &&& (v2 ^^^ (-1))))) 1 = some (.int v1) := x_o1 l1_3 rfl rfl
  have l2_5 : zld (zs1 lv3 4 (.int ((m.1 57 (v1 : Int32).toNatClampNeg) &&& (v2 ^^^ (-1))))) 2 = some (.int v2) := x_o1 l2_3 rfl rfl
  have l3_5 : zld (zs1 lv3 4 (.int ((m.1 57 (v1 : Int32).toNatClampNeg) &&& (v2 ^^^ (-1))))) 3 = some (.int (m.1 (60 + ((v1 + 1) : Int32).toNatClampNeg) (v2 : Int32).toNatClampNeg)) := x_o1 l3_3 rfl rfl
  have l4_5 : zld (zs1 lv3 4 (.int ((m.1 57 (v1 : Int32).toNatClampNeg) &&& (v2 ^^^ (-1))))) 4 = some (.int ((m.1 57 (v1 : Int32).toNatClampNeg) &&& (v2 ^^^ (-1)))) := zs1_ld _ _ _
  generalize (zs1 lv3 4 (.int ((m.1 57 (v1 : Int32).toNatClampNeg) &&& (v2 ^^^ (-1))))) = lv5 at *
  refine r_s (fr' := (24, lv5, [.int 0])) (hp' := xW B m) (q := (.iconst 0, 1, 0, 0, .null)) rfl (fun _ => rfl) (Nat.le_refl _) ?_
  refine q_si (k := 2) (i := 5) (q := (.istore 5, 2, 0, 0, .null)) rfl (fun _ => rfl) (by decide) ?_
  have l0_6 : zld (zs1 lv5 5 (.int 0)) 0 = some (.ref 50) := x_o1 l0_5 rfl rfl
  have l1_6 : zld (zs1 lv5 5 (.int 0)) 1 = some (.int v1) := x_o1 l1_5 rfl rfl
  have l2_6 : zld (zs1 lv5 5 (.int 0)) 2 = some (.int v2) := x_o1 l2_5 rfl rfl
  have l3_6 : zld (zs1 lv5 5 (.int 0)) 3 = some (.int (m.1 (60 + ((v1 + 1) : Int32).toNatClampNeg) (v2 : Int32).toNatClampNeg)) := x_o1 l3_5 rfl rfl
  have l4_6 : zld (zs1 lv5 5 (.int 0)) 4 = some (.int ((m.1 57 (v1 : Int32).toNatClampNeg) &&& (v2 ^^^ (-1)))) := x_o1 l4_5 rfl rfl
  have l5_6 : zld (zs1 lv5 5 (.int 0)) 5 = some (.int 0) := zs1_ld _ _ _
  generalize (zs1 lv5 5 (.int 0)) = lv6 at *
  exact T20_50_26 H he F F l0_6 l1_6 l2_6 l3_6 l4_6 l5_6 h
set_option maxRecDepth 20000 in
theorem Z20_50 {B : zHp} (H : yH0 B) {F : Nat} {a1 : Int32} {a2 : Int32} {m : xS} {x : Int32 × xS} (h : D20_50 F a1 a2 m = some x) {d : Nat} (hd : 1 ≤ d) : zCan d 20 [.ref 50, .int a1, .int a2] (xW B m) (some (.int x.1), xW B x.2) := by
  obtain ⟨e, rfl⟩ : ∃ e, d = e + 1 := ⟨d - 1, by omega⟩
  refine zCan_body (nL := 6) (rt := (some .int)) (cd := zc20) (xg20) ⟨Nat.le_of_ble_eq_true rfl, by decide⟩ (Nat.le_refl _) ?_
  exact T20_50 H hd F rfl rfl rfl h
/-- LentTools$Matching.earn -/
def D19_50_9_60 (F : Nat) (g52 : Int32 → Int32 → Int32 → xS → Option (Int32 × xS)) : Nat → Int32 → Int32 → Int32 → Int32 → xS → Option (Int32 × xS)
  | 0, _, _, _, _, _ => none
  | f + 1, v2, v3, v4, v5, m =>
    if zcmp .ge v5 v3 = true then
      g52 v2 v3 (v4 + Int32.ofInt (-1)) m
    else
      if xib v4 7 = true then
        (D20_50 F v4 v5 m).bind fun q80 =>
          if xib v5 64 = true then
            D19_50_9_60 F g52 f v2 v3 v4 (v5 + Int32.ofInt 1) (xu q80.2 (60 + (v4 : Int32).toNatClampNeg) (v5 : Int32).toNatClampNeg q80.1)
          else none
      else none
set_option maxRecDepth 20000 in
theorem T19_50_9_60 {B : zHp} (H : yH0 B) {e : Nat} (he : 6 ≤ e + 1) (F : Nat) (g52 : Int32 → Int32 → Int32 → xS → Option (Int32 × xS)) (k52 : ∀ {v2 : Int32} {v3 : Int32} {v4 : Int32} {lv : List (Nat × Value)} {m : xS} {x : Int32 × xS}, zld lv 0 = some (.ref 50) → zld lv 1 = some (.ref 9) → zld lv 2 = some (.int v2) → zld lv 3 = some (.int v3) → zld lv 4 = some (.int v4) → g52 v2 v3 v4 m = some x → zR none e 6 (some .int) zc19 (52, lv, []) (xW B m) (some (.int x.1), xW B x.2)) : ∀ (f : Nat) {v2 : Int32} {v3 : Int32} {v4 : Int32} {v5 : Int32} {lv : List (Nat × Value)} {m : xS} {x : Int32 × xS}, zld lv 0 = some (.ref 50) → zld lv 1 = some (.ref 9) → zld lv 2 = some (.int v2) → zld lv 3 = some (.int v3) → zld lv 4 = some (.int v4) → zld lv 5 = some (.int v5) → D19_50_9_60 F g52 f v2 v3 v4 v5 m = some x → zR none e 6 (some .int) zc19 (60, lv, []) (xW B m) (some (.int x.1), xW B x.2) := by
  intro f
  induction f with
  | zero => intro v2 v3 v4 v5 lv m x l0 l1 l2 l3 l4 l5 h; cases h
  | succ f ih =>
    intro v2 v3 v4 v5 lv m x l0 l1 l2 l3 l4 l5 h
    unfold D19_50_9_60 at h
    refine q_li (k := 2) (i := 5) (q := (.iload 5, 2, 0, 0, .null)) rfl (fun _ => rfl) l5 ?_
    refine q_li (k := 1) (i := 3) (q := (.iload_n 3, 1, 0, 0, .null)) rfl (fun _ => rfl) l3 ?_
    refine r_ifc (len := 3) (a := 90) (b := 0) (v0 := .null) (cn := .ge) (off := 27) rfl (fun c => ?_) (fun c => ?_)
    · rw [if_pos c] at h
      refine q_inc (i := 4) (n := (-1)) (q := (.iinc 4 (-1), 3, 0, 0, .null)) rfl (fun _ => rfl) l4 (by decide) ?_
      have l0_1 : zld (zs1 lv 4 (.int (v4 + Int32.ofInt (-1)))) 0 = some (.ref 50) := x_o1 l0 rfl rfl
      have l1_1 : zld (zs1 lv 4 (.int (v4 + Int32.ofInt (-1)))) 1 = some (.ref 9) := x_o1 l1 rfl rfl
      have l2_1 : zld (zs1 lv 4 (.int (v4 + Int32.ofInt (-1)))) 2 = some (.int v2) := x_o1 l2 rfl rfl
      have l3_1 : zld (zs1 lv 4 (.int (v4 + Int32.ofInt (-1)))) 3 = some (.int v3) := x_o1 l3 rfl rfl
      have l4_1 : zld (zs1 lv 4 (.int (v4 + Int32.ofInt (-1)))) 4 = some (.int (v4 + Int32.ofInt (-1))) := zs1_ld _ _ _
      have l5_1 : zld (zs1 lv 4 (.int (v4 + Int32.ofInt (-1)))) 5 = some (.int v5) := x_o1 l5 rfl rfl
      generalize (zs1 lv 4 (.int (v4 + Int32.ofInt (-1)))) = lv1 at *
      refine r_s (fr' := (52, lv1, [])) (hp' := xW B m) (q := (.goto (-41), 3, 52, 0, .null)) rfl (fun _ => rfl) (Nat.le_refl _) ?_
      exact k52 l0_1 l1_1 l2_1 l3_1 l4_1 h
    · rw [if_neg (by rw [c]; decide)] at h
      refine q_lr (k := 1) (i := 0) (q := (.aload_n 0, 1, 0, 0, .null)) rfl (fun _ => rfl) l0 ?_
      refine r_gr (c := 59) H (pc := 67) rfl (by decide) (by decide) ?_
      refine q_li (k := 2) (i := 4) (q := (.iload 4, 2, 0, 0, .null)) rfl (fun _ => rfl) l4 ?_
      obtain ⟨c2, h⟩ := xif h
      refine q_aal (n := 7) (b := 60) H (pc := 72) rfl ⟨rfl, by decide⟩ c2 ?_
      refine q_li (k := 2) (i := 5) (q := (.iload 5, 2, 0, 0, .null)) rfl (fun _ => rfl) l5 ?_
      refine q_lr (k := 1) (i := 0) (q := (.aload_n 0, 1, 0, 0, .null)) rfl (fun _ => rfl) l0 ?_
      refine q_li (k := 2) (i := 4) (q := (.iload 4, 2, 0, 0, .null)) rfl (fun _ => rfl) l4 ?_
      refine q_li (k := 2) (i := 5) (q := (.iload 5, 2, 0, 0, .null)) rfl (fun _ => rfl) l5 ?_
      obtain ⟨q80, h80, h⟩ := xbind h
      refine r_call (ix := 50) (as := [.int v4, .int v5]) (rest := [.int v5, .ref (60 + (v4 : Int32).toNatClampNeg)]) (rv := some (.int q80.1)) (hp' := xW B q80.2) (pc := 80) rfl xr20 rfl rfl rfl (xkd H (by decide)) (Nat.le_of_ble_eq_true rfl) (Z20_50 H h80 (by omega)) (Nat.le_refl _) ?_
      obtain ⟨c3, h⟩ := xif h
      refine q_as (n := 64) (s2 := (xu q80.2 (60 + (v4 : Int32).toNatClampNeg) (v5 : Int32).toNatClampNeg q80.1)) H (pc := 83) rfl (xtS60_7 (xibS c2)) c3 rfl ?_
      refine q_inc (i := 5) (n := 1) (q := (.iinc 5 1, 3, 0, 0, .null)) rfl (fun _ => rfl) l5 (by decide) ?_
      have l0_4 : zld (zs1 lv 5 (.int (v5 + Int32.ofInt 1))) 0 = some (.ref 50) := x_o1 l0 rfl rfl
      have l1_4 : zld (zs1 lv 5 (.int (v5 + Int32.ofInt 1))) 1 = some (.ref 9) := x_o1 l1 rfl rfl
      have l2_4 : zld (zs1 lv 5 (.int (v5 + Int32.ofInt 1))) 2 = some (.int v2) := x_o1 l2 rfl rfl
      have l3_4 : zld (zs1 lv 5 (.int (v5 + Int32.ofInt 1))) 3 = some (.int v3) := x_o1 l3 rfl rfl
      have l4_4 : zld (zs1 lv 5 (.int (v5 + Int32.ofInt 1))) 4 = some (.int v4) := x_o1 l4 rfl rfl
      have l5_4 : zld (zs1 lv 5 (.int (v5 + Int32.ofInt 1))) 5 = some (.int (v5 + Int32.ofInt 1)) := zs1_ld _ _ _
      generalize (zs1 lv 5 (.int (v5 + Int32.ofInt 1))) = lv4 at *
      refine r_s (fr' := (60, lv4, [])) (hp' := xW B (xu q80.2 (60 + (v4 : Int32).toNatClampNeg) (v5 : Int32).toNatClampNeg q80.1)) (q := (.goto (-27), 3, 60, 0, .null)) rfl (fun _ => rfl) (Nat.le_refl _) ?_
      exact ih l0_4 l1_4 l2_4 l3_4 l4_4 l5_4 h
def D19_50_9_52 (F : Nat) : Nat → Int32 → Int32 → Int32 → xS → Option (Int32 × xS)
  | 0, _, _, _, _ => none
  | f + 1, v2, v3, v4, m =>
    if zcmp .lt v4 0 = true then
      if xib 0 7 = true then
        some ((m.1 (60 + (0 : Int32).toNatClampNeg) 0), m)
      else none
    else
      D19_50_9_60 F (D19_50_9_52 F f) F v2 v3 v4 0 m
set_option maxRecDepth 20000 in
theorem T19_50_9_52 {B : zHp} (H : yH0 B) {e : Nat} (he : 6 ≤ e + 1) (F : Nat) : ∀ (f : Nat) {v2 : Int32} {v3 : Int32} {v4 : Int32} {lv : List (Nat × Value)} {m : xS} {x : Int32 × xS}, zld lv 0 = some (.ref 50) → zld lv 1 = some (.ref 9) → zld lv 2 = some (.int v2) → zld lv 3 = some (.int v3) → zld lv 4 = some (.int v4) → D19_50_9_52 F f v2 v3 v4 m = some x → zR none e 6 (some .int) zc19 (52, lv, []) (xW B m) (some (.int x.1), xW B x.2) := by
  intro f
  induction f with
  | zero => intro v2 v3 v4 lv m x l0 l1 l2 l3 l4 h; cases h
  | succ f ih =>
    intro v2 v3 v4 lv m x l0 l1 l2 l3 l4 h
    unfold D19_50_9_52 at h
    refine q_li (k := 2) (i := 4) (q := (.iload 4, 2, 0, 0, .null)) rfl (fun _ => rfl) l4 ?_
    refine r_if (len := 3) (a := 96) (b := 0) (v0 := .null) (cn := .lt) (off := 42) rfl (fun c => ?_) (fun c => ?_)
    · rw [if_pos c] at h
      refine q_lr (k := 1) (i := 0) (q := (.aload_n 0, 1, 0, 0, .null)) rfl (fun _ => rfl) l0 ?_
      refine r_gr (c := 59) H (pc := 97) rfl (by decide) (by decide) ?_
      refine r_s (fr' := (101, lv, [.int 0, .ref 59])) (hp' := xW B m) (q := (.iconst 0, 1, 0, 0, .null)) rfl (fun _ => rfl) (Nat.le_refl _) ?_
      obtain ⟨c1, h⟩ := xif h
      refine q_aal (n := 7) (b := 60) H (pc := 101) rfl ⟨rfl, by decide⟩ c1 ?_
      refine r_s (fr' := (103, lv, [.int 0, .ref (60 + (0 : Int32).toNatClampNeg)])) (hp' := xW B m) (q := (.iconst 0, 1, 0, 0, .null)) rfl (fun _ => rfl) (Nat.le_refl _) ?_
      refine q_al (n := 64) (v := (m.1 (60 + (0 : Int32).toNatClampNeg) 0)) H (pc := 103) rfl (xtS60_7 (xibS c1)) (by decide) rfl ?_
      obtain rfl := Option.some.inj h
      exact q_ri (q := (.ireturn, 1, 0, 0, .null)) rfl (fun _ => rfl) rfl rfl
    · rw [if_neg (by rw [c]; decide)] at h
      refine r_s (fr' := (58, lv, [.int 0])) (hp' := xW B m) (q := (.iconst 0, 1, 0, 0, .null)) rfl (fun _ => rfl) (Nat.le_refl _) ?_
      refine q_si (k := 2) (i := 5) (q := (.istore 5, 2, 0, 0, .null)) rfl (fun _ => rfl) (by decide) ?_
      have l0_2 : zld (zs1 lv 5 (.int 0)) 0 = some (.ref 50) := x_o1 l0 rfl rfl
      have l1_2 : zld (zs1 lv 5 (.int 0)) 1 = some (.ref 9) := x_o1 l1 rfl rfl
      have l2_2 : zld (zs1 lv 5 (.int 0)) 2 = some (.int v2) := x_o1 l2 rfl rfl
      have l3_2 : zld (zs1 lv 5 (.int 0)) 3 = some (.int v3) := x_o1 l3 rfl rfl
      have l4_2 : zld (zs1 lv 5 (.int 0)) 4 = some (.int v4) := x_o1 l4 rfl rfl
      have l5_2 : zld (zs1 lv 5 (.int 0)) 5 = some (.int 0) := zs1_ld _ _ _
      generalize (zs1 lv 5 (.int 0)) = lv2 at *
      exact T19_50_9_60 H he F _ ih F l0_2 l1_2 l2_2 l3_2 l4_2 l5_2 h
def D19_50_9 (F : Nat) (v2 : Int32) (m : xS) : Option (Int32 × xS) :=
  (D80_9 F m).bind fun q2 =>
    (D21_50_9 F v2 (xu q2.2 50 1 (if 6 < q2.1 then 6 else q2.1))).bind fun q16 =>
      (D79_9 F q16.2).bind fun q21 =>
        if xib (q21.2.1 50 1) 7 = true then
          (D291_S60_7 F (60 + ((q21.2.1 50 1) : Int32).toNatClampNeg) 0 q21.2).bind fun q41 =>
            D19_50_9_52 F F v2 (if (64 : Int32) < (1 <<< (q21.1 &&& 31)) then 64 else (1 <<< (q21.1 &&& 31))) ((q41.2.1 50 1) - 1) q41.2
        else none
set_option maxRecDepth 20000 in
theorem T19_50_9 {B : zHp} (H : yH0 B) {e : Nat} (he : 6 ≤ e + 1) (F : Nat) {v2 : Int32} {lv : List (Nat × Value)} {m : xS} {x : Int32 × xS} (l0 : zld lv 0 = some (.ref 50)) (l1 : zld lv 1 = some (.ref 9)) (l2 : zld lv 2 = some (.int v2)) (h : D19_50_9 F v2 m = some x) : zR none e 6 (some .int) zc19 (0, lv, []) (xW B m) (some (.int x.1), xW B x.2) := by
  unfold D19_50_9 at h
  refine q_lr (k := 1) (i := 0) (q := (.aload_n 0, 1, 0, 0, .null)) rfl (fun _ => rfl) l0 ?_
  refine q_lr (k := 1) (i := 1) (q := (.aload_n 1, 1, 0, 0, .null)) rfl (fun _ => rfl) l1 ?_
  obtain ⟨q2, h2, h⟩ := xbind h
  refine r_call (ix := 9) (as := []) (rest := [.ref 50]) (rv := some (.int q2.1)) (hp' := xW B q2.2) (pc := 2) rfl xr80 rfl rfl rfl (xkd H (by decide)) (Nat.le_of_ble_eq_true rfl) (Z80_9 H h2 (by omega)) (Nat.le_refl _) ?_
  refine r_s (fr' := (7, lv, [.int 6, .int q2.1, .ref 50])) (hp' := xW B q2.2) (q := (.bipush 6, 2, 0, 0, .null)) rfl (fun _ => rfl) (Nat.le_refl _) ?_
  refine r_s (fr' := (10, lv, [.int (if 6 < q2.1 then 6 else q2.1), .ref 50])) (hp' := xW B q2.2) (q := (.invokestatic 36, 3, 0, 3, .null)) rfl (fun _ => rfl) (Nat.le_refl _) ?_
  refine r_pi (s2 := (xu q2.2 50 1 (if 6 < q2.1 then 6 else q2.1))) H (pc := 10) rfl (by decide) rfl rfl ?_
  refine q_lr (k := 1) (i := 0) (q := (.aload_n 0, 1, 0, 0, .null)) rfl (fun _ => rfl) l0 ?_
  refine q_lr (k := 1) (i := 1) (q := (.aload_n 1, 1, 0, 0, .null)) rfl (fun _ => rfl) l1 ?_
  refine q_li (k := 1) (i := 2) (q := (.iload_n 2, 1, 0, 0, .null)) rfl (fun _ => rfl) l2 ?_
  obtain ⟨q16, h16, h⟩ := xbind h
  refine r_call (ix := 50) (as := [.ref 9, .int v2]) (rest := []) (rv := none) (hp' := xW B q16.2) (pc := 16) rfl xr21 rfl rfl rfl (xkd H (by decide)) (Nat.le_of_ble_eq_true rfl) (Z21_50_9 H h16 (by omega)) (Nat.le_refl _) ?_
  refine r_s (fr' := (20, lv, [.int 1])) (hp' := xW B q16.2) (q := (.iconst 1, 1, 0, 0, .null)) rfl (fun _ => rfl) (Nat.le_refl _) ?_
  refine q_lr (k := 1) (i := 1) (q := (.aload_n 1, 1, 0, 0, .null)) rfl (fun _ => rfl) l1 ?_
  obtain ⟨q21, h21, h⟩ := xbind h
  refine r_call (ix := 9) (as := []) (rest := [.int 1]) (rv := some (.int q21.1)) (hp' := xW B q21.2) (pc := 21) rfl xr79 rfl rfl rfl (xkd H (by decide)) (Nat.le_of_ble_eq_true rfl) (Z79_9 H h21 (by omega)) (Nat.le_refl _) ?_
  refine r_s (fr' := (25, lv, [.int (1 <<< (q21.1 &&& 31))])) (hp' := xW B q21.2) (q := (.ishl, 1, 0, 0, .null)) rfl (fun _ => rfl) (Nat.le_refl _) ?_
  refine r_s (fr' := (27, lv, [.int 64, .int (1 <<< (q21.1 &&& 31))])) (hp' := xW B q21.2) (q := (.bipush 64, 2, 0, 0, .null)) rfl (fun _ => rfl) (Nat.le_refl _) ?_
  refine r_s (fr' := (30, lv, [.int (if (64 : Int32) < (1 <<< (q21.1 &&& 31)) then 64 else (1 <<< (q21.1 &&& 31)))])) (hp' := xW B q21.2) (q := (.invokestatic 36, 3, 0, 3, .null)) rfl (fun _ => rfl) (Nat.le_refl _) ?_
  refine q_si (k := 1) (i := 3) (q := (.istore_n 3, 1, 0, 0, .null)) rfl (fun _ => rfl) (by decide) ?_
  have l0_1 : zld (zs1 lv 3 (.int (if (64 : Int32) < (1 <<< (q21.1 &&& 31)) then 64 else (1 <<< (q21.1 &&& 31))))) 0 = some (.ref 50) := x_o1 l0 rfl rfl
  have l1_1 : zld (zs1 lv 3 (.int (if (64 : Int32) < (1 <<< (q21.1 &&& 31)) then 64 else (1 <<< (q21.1 &&& 31))))) 1 = some (.ref 9) := x_o1 l1 rfl rfl
  have l2_1 : zld (zs1 lv 3 (.int (if (64 : Int32) < (1 <<< (q21.1 &&& 31)) then 64 else (1 <<< (q21.1 &&& 31))))) 2 = some (.int v2) := x_o1 l2 rfl rfl
  have l3_1 : zld (zs1 lv 3 (.int (if (64 : Int32) < (1 <<< (q21.1 &&& 31)) then 64 else (1 <<< (q21.1 &&& 31))))) 3 = some (.int (if (64 : Int32) < (1 <<< (q21.1 &&& 31)) then 64 else (1 <<< (q21.1 &&& 31)))) := zs1_ld _ _ _
  generalize (zs1 lv 3 (.int (if (64 : Int32) < (1 <<< (q21.1 &&& 31)) then 64 else (1 <<< (q21.1 &&& 31))))) = lv1 at *
  refine q_lr (k := 1) (i := 0) (q := (.aload_n 0, 1, 0, 0, .null)) rfl (fun _ => rfl) l0_1 ?_
  refine r_gr (c := 59) H (pc := 32) rfl (by decide) (by decide) ?_
  refine q_lr (k := 1) (i := 0) (q := (.aload_n 0, 1, 0, 0, .null)) rfl (fun _ => rfl) l0_1 ?_
  refine r_gi (v := (q21.2.1 50 1)) H (pc := 36) (i := _) rfl (by decide) (by decide) rfl ?_
  obtain ⟨c2, h⟩ := xif h
  refine q_aal (n := 7) (b := 60) H (pc := 39) rfl ⟨rfl, by decide⟩ c2 ?_
  refine r_s (fr' := (41, lv1, [.int 0, .ref (60 + ((q21.2.1 50 1) : Int32).toNatClampNeg)])) (hp' := xW B q21.2) (q := (.iconst 0, 1, 0, 0, .null)) rfl (fun _ => rfl) (Nat.le_refl _) ?_
  obtain ⟨q41, h41, h⟩ := xbind h
  refine r_callS (as := [.ref (60 + ((q21.2.1 50 1) : Int32).toNatClampNeg), .int 0]) (rest := []) (rv := none) (hp' := xW B q41.2) (pc := 41) rfl xr291 rfl rfl rfl (Nat.le_of_ble_eq_true rfl) (Z291_S60_7 H ((xibS c2)) h41 (by omega)) (Nat.le_refl _) ?_
  refine q_lr (k := 1) (i := 0) (q := (.aload_n 0, 1, 0, 0, .null)) rfl (fun _ => rfl) l0_1 ?_
  refine r_gi (v := (q41.2.1 50 1)) H (pc := 45) (i := _) rfl (by decide) (by decide) rfl ?_
  refine r_s (fr' := (49, lv1, [.int 1, .int (q41.2.1 50 1)])) (hp' := xW B q41.2) (q := (.iconst 1, 1, 0, 0, .null)) rfl (fun _ => rfl) (Nat.le_refl _) ?_
  refine r_s (fr' := (50, lv1, [.int ((q41.2.1 50 1) - 1)])) (hp' := xW B q41.2) (q := (.isub, 1, 0, 0, .null)) rfl (fun _ => rfl) (Nat.le_refl _) ?_
  refine q_si (k := 2) (i := 4) (q := (.istore 4, 2, 0, 0, .null)) rfl (fun _ => rfl) (by decide) ?_
  have l0_3 : zld (zs1 lv1 4 (.int ((q41.2.1 50 1) - 1))) 0 = some (.ref 50) := x_o1 l0_1 rfl rfl
  have l1_3 : zld (zs1 lv1 4 (.int ((q41.2.1 50 1) - 1))) 1 = some (.ref 9) := x_o1 l1_1 rfl rfl
  have l2_3 : zld (zs1 lv1 4 (.int ((q41.2.1 50 1) - 1))) 2 = some (.int v2) := x_o1 l2_1 rfl rfl
  have l3_3 : zld (zs1 lv1 4 (.int ((q41.2.1 50 1) - 1))) 3 = some (.int (if (64 : Int32) < (1 <<< (q21.1 &&& 31)) then 64 else (1 <<< (q21.1 &&& 31)))) := x_o1 l3_1 rfl rfl
  have l4_3 : zld (zs1 lv1 4 (.int ((q41.2.1 50 1) - 1))) 4 = some (.int ((q41.2.1 50 1) - 1)) := zs1_ld _ _ _
  generalize (zs1 lv1 4 (.int ((q41.2.1 50 1) - 1))) = lv3 at *
  exact T19_50_9_52 H he F F l0_3 l1_3 l2_3 l3_3 l4_3 h
set_option maxRecDepth 20000 in
theorem Z19_50_9 {B : zHp} (H : yH0 B) {F : Nat} {a2 : Int32} {m : xS} {x : Int32 × xS} (h : D19_50_9 F a2 m = some x) {d : Nat} (hd : 6 ≤ d) : zCan d 19 [.ref 50, .ref 9, .int a2] (xW B m) (some (.int x.1), xW B x.2) := by
  obtain ⟨e, rfl⟩ : ∃ e, d = e + 1 := ⟨d - 1, by omega⟩
  refine zCan_body (nL := 6) (rt := (some .int)) (cd := zc19) (xg19) ⟨Nat.le_of_ble_eq_true rfl, by decide⟩ (Nat.le_refl _) ?_
  exact T19_50_9 H hd F rfl rfl rfl h
/-- LentTools$Matching.firstTool -/
def D24_50_89 (F : Nat) (g37 : Int32 → Int32 → Int32 → Int32 → xS → Option (Int32 × xS)) (v1 : Int32) (v2 : Int32) (v3 : Int32) (v4 : Int32) (m : xS) : Option (Int32 × xS) :=
  g37 v1 v2 v3 (v4 + Int32.ofInt 1) m
set_option maxRecDepth 20000 in
theorem T24_50_89 {B : zHp} (H : yH0 B) {e : Nat} (he : 1 ≤ e + 1) (F : Nat) (g37 : Int32 → Int32 → Int32 → Int32 → xS → Option (Int32 × xS)) (k37 : ∀ {v1 : Int32} {v2 : Int32} {v3 : Int32} {v4 : Int32} {lv : List (Nat × Value)} {m : xS} {x : Int32 × xS}, zld lv 0 = some (.ref 50) → zld lv 1 = some (.int v1) → zld lv 2 = some (.int v2) → zld lv 3 = some (.int v3) → zld lv 4 = some (.int v4) → g37 v1 v2 v3 v4 m = some x → zR none e 5 (some .int) zc24 (37, lv, []) (xW B m) (some (.int x.1), xW B x.2)) {v1 : Int32} {v2 : Int32} {v3 : Int32} {v4 : Int32} {lv : List (Nat × Value)} {m : xS} {x : Int32 × xS} (l0 : zld lv 0 = some (.ref 50)) (l1 : zld lv 1 = some (.int v1)) (l2 : zld lv 2 = some (.int v2)) (l3 : zld lv 3 = some (.int v3)) (l4 : zld lv 4 = some (.int v4)) (h : D24_50_89 F g37 v1 v2 v3 v4 m = some x) : zR none e 5 (some .int) zc24 (89, lv, []) (xW B m) (some (.int x.1), xW B x.2) := by
  unfold D24_50_89 at h
  refine q_inc (i := 4) (n := 1) (q := (.iinc 4 1, 3, 0, 0, .null)) rfl (fun _ => rfl) l4 (by decide) ?_
  have l0_1 : zld (zs1 lv 4 (.int (v4 + Int32.ofInt 1))) 0 = some (.ref 50) := x_o1 l0 rfl rfl
  have l1_1 : zld (zs1 lv 4 (.int (v4 + Int32.ofInt 1))) 1 = some (.int v1) := x_o1 l1 rfl rfl
  have l2_1 : zld (zs1 lv 4 (.int (v4 + Int32.ofInt 1))) 2 = some (.int v2) := x_o1 l2 rfl rfl
  have l3_1 : zld (zs1 lv 4 (.int (v4 + Int32.ofInt 1))) 3 = some (.int v3) := x_o1 l3 rfl rfl
  have l4_1 : zld (zs1 lv 4 (.int (v4 + Int32.ofInt 1))) 4 = some (.int (v4 + Int32.ofInt 1)) := zs1_ld _ _ _
  generalize (zs1 lv 4 (.int (v4 + Int32.ofInt 1))) = lv1 at *
  refine r_s (fr' := (37, lv1, [])) (hp' := xW B m) (q := (.goto (-55), 3, 37, 0, .null)) rfl (fun _ => rfl) (Nat.le_refl _) ?_
  exact k37 l0_1 l1_1 l2_1 l3_1 l4_1 h
def D24_50_37 (F : Nat) : Nat → Int32 → Int32 → Int32 → Int32 → xS → Option (Int32 × xS)
  | 0, _, _, _, _, _ => none
  | f + 1, v1, v2, v3, v4, m =>
    if zcmp .ge v4 6 = true then
      some ((-1), m)
    else
      if zcmp .eq ((v3 >>> (v4 &&& 31)) &&& 1) 0 = true then
        D24_50_89 F (D24_50_37 F f) v1 v2 v3 v4 m
      else
        if xib v1 6 = true then
          if xib (v1 + 1) 7 = true then
            if xib (v2 ||| (1 <<< (v4 &&& 31))) 64 = true then
              if xib v1 7 = true then
                if xib v2 64 = true then
                  if zcmp .ne ((m.1 58 (v1 : Int32).toNatClampNeg) + (m.1 (60 + ((v1 + 1) : Int32).toNatClampNeg) ((v2 ||| (1 <<< (v4 &&& 31))) : Int32).toNatClampNeg)) (m.1 (60 + (v1 : Int32).toNatClampNeg) (v2 : Int32).toNatClampNeg) = true then
                    D24_50_89 F (D24_50_37 F f) v1 v2 v3 v4 m
                  else
                    some (v4, m)
                else none
              else none
            else none
          else none
        else none
set_option maxRecDepth 20000 in
theorem T24_50_37 {B : zHp} (H : yH0 B) {e : Nat} (he : 1 ≤ e + 1) (F : Nat) : ∀ (f : Nat) {v1 : Int32} {v2 : Int32} {v3 : Int32} {v4 : Int32} {lv : List (Nat × Value)} {m : xS} {x : Int32 × xS}, zld lv 0 = some (.ref 50) → zld lv 1 = some (.int v1) → zld lv 2 = some (.int v2) → zld lv 3 = some (.int v3) → zld lv 4 = some (.int v4) → D24_50_37 F f v1 v2 v3 v4 m = some x → zR none e 5 (some .int) zc24 (37, lv, []) (xW B m) (some (.int x.1), xW B x.2) := by
  intro f
  induction f with
  | zero => intro v1 v2 v3 v4 lv m x l0 l1 l2 l3 l4 h; cases h
  | succ f ih =>
    intro v1 v2 v3 v4 lv m x l0 l1 l2 l3 l4 h
    unfold D24_50_37 at h
    refine q_li (k := 2) (i := 4) (q := (.iload 4, 2, 0, 0, .null)) rfl (fun _ => rfl) l4 ?_
    refine r_s (fr' := (41, lv, [.int 6, .int v4])) (hp' := xW B m) (q := (.bipush 6, 2, 0, 0, .null)) rfl (fun _ => rfl) (Nat.le_refl _) ?_
    refine r_ifc (len := 3) (a := 95) (b := 0) (v0 := .null) (cn := .ge) (off := 54) rfl (fun c => ?_) (fun c => ?_)
    · rw [if_pos c] at h
      refine r_s (fr' := (96, lv, [.int (-1)])) (hp' := xW B m) (q := (.iconst (-1), 1, 0, 0, .null)) rfl (fun _ => rfl) (Nat.le_refl _) ?_
      obtain rfl := Option.some.inj h
      exact q_ri (q := (.ireturn, 1, 0, 0, .null)) rfl (fun _ => rfl) rfl rfl
    · rw [if_neg (by rw [c]; decide)] at h
      refine q_li (k := 1) (i := 3) (q := (.iload_n 3, 1, 0, 0, .null)) rfl (fun _ => rfl) l3 ?_
      refine q_li (k := 2) (i := 4) (q := (.iload 4, 2, 0, 0, .null)) rfl (fun _ => rfl) l4 ?_
      refine r_s (fr' := (48, lv, [.int (v3 >>> (v4 &&& 31))])) (hp' := xW B m) (q := (.ishr, 1, 0, 0, .null)) rfl (fun _ => rfl) (Nat.le_refl _) ?_
      refine r_s (fr' := (49, lv, [.int 1, .int (v3 >>> (v4 &&& 31))])) (hp' := xW B m) (q := (.iconst 1, 1, 0, 0, .null)) rfl (fun _ => rfl) (Nat.le_refl _) ?_
      refine r_s (fr' := (50, lv, [.int ((v3 >>> (v4 &&& 31)) &&& 1)])) (hp' := xW B m) (q := (.iand, 1, 0, 0, .null)) rfl (fun _ => rfl) (Nat.le_refl _) ?_
      refine r_if (len := 3) (a := 89) (b := 0) (v0 := .null) (cn := .eq) (off := 39) rfl (fun c => ?_) (fun c => ?_)
      · rw [if_pos c] at h
        exact T24_50_89 H he F _ ih l0 l1 l2 l3 l4 h
      · rw [if_neg (by rw [c]; decide)] at h
        refine q_lr (k := 1) (i := 0) (q := (.aload_n 0, 1, 0, 0, .null)) rfl (fun _ => rfl) l0 ?_
        refine r_gr (c := 58) H (pc := 54) rfl (by decide) (by decide) ?_
        refine q_li (k := 1) (i := 1) (q := (.iload_n 1, 1, 0, 0, .null)) rfl (fun _ => rfl) l1 ?_
        obtain ⟨c1, h⟩ := xif h
        refine q_al (n := 6) (v := (m.1 58 (v1 : Int32).toNatClampNeg)) H (pc := 58) rfl (by decide) c1 rfl ?_
        refine q_lr (k := 1) (i := 0) (q := (.aload_n 0, 1, 0, 0, .null)) rfl (fun _ => rfl) l0 ?_
        refine r_gr (c := 59) H (pc := 60) rfl (by decide) (by decide) ?_
        refine q_li (k := 1) (i := 1) (q := (.iload_n 1, 1, 0, 0, .null)) rfl (fun _ => rfl) l1 ?_
        refine r_s (fr' := (65, lv, [.int 1, .int v1, .ref 59, .int (m.1 58 (v1 : Int32).toNatClampNeg)])) (hp' := xW B m) (q := (.iconst 1, 1, 0, 0, .null)) rfl (fun _ => rfl) (Nat.le_refl _) ?_
        refine r_s (fr' := (66, lv, [.int (v1 + 1), .ref 59, .int (m.1 58 (v1 : Int32).toNatClampNeg)])) (hp' := xW B m) (q := (.iadd, 1, 0, 0, .null)) rfl (fun _ => rfl) (Nat.le_refl _) ?_
        obtain ⟨c2, h⟩ := xif h
        refine q_aal (n := 7) (b := 60) H (pc := 66) rfl ⟨rfl, by decide⟩ c2 ?_
        refine q_li (k := 1) (i := 2) (q := (.iload_n 2, 1, 0, 0, .null)) rfl (fun _ => rfl) l2 ?_
        refine r_s (fr' := (69, lv, [.int 1, .int v2, .ref (60 + ((v1 + 1) : Int32).toNatClampNeg), .int (m.1 58 (v1 : Int32).toNatClampNeg)])) (hp' := xW B m) (q := (.iconst 1, 1, 0, 0, .null)) rfl (fun _ => rfl) (Nat.le_refl _) ?_
        refine q_li (k := 2) (i := 4) (q := (.iload 4, 2, 0, 0, .null)) rfl (fun _ => rfl) l4 ?_
        refine r_s (fr' := (72, lv, [.int (1 <<< (v4 &&& 31)), .int v2, .ref (60 + ((v1 + 1) : Int32).toNatClampNeg), .int (m.1 58 (v1 : Int32).toNatClampNeg)])) (hp' := xW B m) (q := (.ishl, 1, 0, 0, .null)) rfl (fun _ => rfl) (Nat.le_refl _) ?_
        refine r_s (fr' := (73, lv, [.int (v2 ||| (1 <<< (v4 &&& 31))), .ref (60 + ((v1 + 1) : Int32).toNatClampNeg), .int (m.1 58 (v1 : Int32).toNatClampNeg)])) (hp' := xW B m) (q := (.ior, 1, 0, 0, .null)) rfl (fun _ => rfl) (Nat.le_refl _) ?_
        obtain ⟨c3, h⟩ := xif h
        refine q_al (n := 64) (v := (m.1 (60 + ((v1 + 1) : Int32).toNatClampNeg) ((v2 ||| (1 <<< (v4 &&& 31))) : Int32).toNatClampNeg)) H (pc := 73) rfl (xtS60_7 (xibS c2)) c3 rfl ?_
        refine r_s (fr' := (75, lv, [.int ((m.1 58 (v1 : Int32).toNatClampNeg) + (m.1 (60 + ((v1 + 1) : Int32).toNatClampNeg) ((v2 ||| (1 <<< (v4 &&& 31))) : Int32).toNatClampNeg))])) (hp' := xW B m) (q := (.iadd, 1, 0, 0, .null)) rfl (fun _ => rfl) (Nat.le_refl _) ?_
        refine q_lr (k := 1) (i := 0) (q := (.aload_n 0, 1, 0, 0, .null)) rfl (fun _ => rfl) l0 ?_
        refine r_gr (c := 59) H (pc := 76) rfl (by decide) (by decide) ?_
        refine q_li (k := 1) (i := 1) (q := (.iload_n 1, 1, 0, 0, .null)) rfl (fun _ => rfl) l1 ?_
        obtain ⟨c4, h⟩ := xif h
        refine q_aal (n := 7) (b := 60) H (pc := 80) rfl ⟨rfl, by decide⟩ c4 ?_
        refine q_li (k := 1) (i := 2) (q := (.iload_n 2, 1, 0, 0, .null)) rfl (fun _ => rfl) l2 ?_
        obtain ⟨c5, h⟩ := xif h
        refine q_al (n := 64) (v := (m.1 (60 + (v1 : Int32).toNatClampNeg) (v2 : Int32).toNatClampNeg)) H (pc := 82) rfl (xtS60_7 (xibS c4)) c5 rfl ?_
        refine r_ifc (len := 3) (a := 89) (b := 0) (v0 := .null) (cn := .ne) (off := 6) rfl (fun c => ?_) (fun c => ?_)
        · rw [if_pos c] at h
          exact T24_50_89 H he F _ ih l0 l1 l2 l3 l4 h
        · rw [if_neg (by rw [c]; decide)] at h
          refine q_li (k := 2) (i := 4) (q := (.iload 4, 2, 0, 0, .null)) rfl (fun _ => rfl) l4 ?_
          obtain rfl := Option.some.inj h
          exact q_ri (q := (.ireturn, 1, 0, 0, .null)) rfl (fun _ => rfl) rfl rfl
def D24_50 (F : Nat) (v1 : Int32) (v2 : Int32) (m : xS) : Option (Int32 × xS) :=
  if xib (v1 + 1) 7 = true then
    if xib v2 64 = true then
      if xib v1 7 = true then
        if xib v2 64 = true then
          if zcmp .ne (m.1 (60 + ((v1 + 1) : Int32).toNatClampNeg) (v2 : Int32).toNatClampNeg) (m.1 (60 + (v1 : Int32).toNatClampNeg) (v2 : Int32).toNatClampNeg) = true then
            if xib v1 6 = true then
              D24_50_37 F F v1 v2 ((m.1 57 (v1 : Int32).toNatClampNeg) &&& (v2 ^^^ (-1))) 0 m
            else none
          else
            some ((-1), m)
        else none
      else none
    else none
  else none
set_option maxRecDepth 20000 in
theorem T24_50 {B : zHp} (H : yH0 B) {e : Nat} (he : 1 ≤ e + 1) (F : Nat) {v1 : Int32} {v2 : Int32} {lv : List (Nat × Value)} {m : xS} {x : Int32 × xS} (l0 : zld lv 0 = some (.ref 50)) (l1 : zld lv 1 = some (.int v1)) (l2 : zld lv 2 = some (.int v2)) (h : D24_50 F v1 v2 m = some x) : zR none e 5 (some .int) zc24 (0, lv, []) (xW B m) (some (.int x.1), xW B x.2) := by
  unfold D24_50 at h
  refine q_lr (k := 1) (i := 0) (q := (.aload_n 0, 1, 0, 0, .null)) rfl (fun _ => rfl) l0 ?_
  refine r_gr (c := 59) H (pc := 1) rfl (by decide) (by decide) ?_
  refine q_li (k := 1) (i := 1) (q := (.iload_n 1, 1, 0, 0, .null)) rfl (fun _ => rfl) l1 ?_
  refine r_s (fr' := (6, lv, [.int 1, .int v1, .ref 59])) (hp' := xW B m) (q := (.iconst 1, 1, 0, 0, .null)) rfl (fun _ => rfl) (Nat.le_refl _) ?_
  refine r_s (fr' := (7, lv, [.int (v1 + 1), .ref 59])) (hp' := xW B m) (q := (.iadd, 1, 0, 0, .null)) rfl (fun _ => rfl) (Nat.le_refl _) ?_
  obtain ⟨c1, h⟩ := xif h
  refine q_aal (n := 7) (b := 60) H (pc := 7) rfl ⟨rfl, by decide⟩ c1 ?_
  refine q_li (k := 1) (i := 2) (q := (.iload_n 2, 1, 0, 0, .null)) rfl (fun _ => rfl) l2 ?_
  obtain ⟨c2, h⟩ := xif h
  refine q_al (n := 64) (v := (m.1 (60 + ((v1 + 1) : Int32).toNatClampNeg) (v2 : Int32).toNatClampNeg)) H (pc := 9) rfl (xtS60_7 (xibS c1)) c2 rfl ?_
  refine q_lr (k := 1) (i := 0) (q := (.aload_n 0, 1, 0, 0, .null)) rfl (fun _ => rfl) l0 ?_
  refine r_gr (c := 59) H (pc := 11) rfl (by decide) (by decide) ?_
  refine q_li (k := 1) (i := 1) (q := (.iload_n 1, 1, 0, 0, .null)) rfl (fun _ => rfl) l1 ?_
  obtain ⟨c3, h⟩ := xif h
  refine q_aal (n := 7) (b := 60) H (pc := 15) rfl ⟨rfl, by decide⟩ c3 ?_
  refine q_li (k := 1) (i := 2) (q := (.iload_n 2, 1, 0, 0, .null)) rfl (fun _ => rfl) l2 ?_
  obtain ⟨c4, h⟩ := xif h
  refine q_al (n := 64) (v := (m.1 (60 + (v1 : Int32).toNatClampNeg) (v2 : Int32).toNatClampNeg)) H (pc := 17) rfl (xtS60_7 (xibS c3)) c4 rfl ?_
  refine r_ifc (len := 3) (a := 23) (b := 0) (v0 := .null) (cn := .ne) (off := 5) rfl (fun c => ?_) (fun c => ?_)
  · rw [if_pos c] at h
    refine q_lr (k := 1) (i := 0) (q := (.aload_n 0, 1, 0, 0, .null)) rfl (fun _ => rfl) l0 ?_
    refine r_gr (c := 57) H (pc := 24) rfl (by decide) (by decide) ?_
    refine q_li (k := 1) (i := 1) (q := (.iload_n 1, 1, 0, 0, .null)) rfl (fun _ => rfl) l1 ?_
    obtain ⟨c5, h⟩ := xif h
    refine q_al (n := 6) (v := (m.1 57 (v1 : Int32).toNatClampNeg)) H (pc := 28) rfl (by decide) c5 rfl ?_
    refine q_li (k := 1) (i := 2) (q := (.iload_n 2, 1, 0, 0, .null)) rfl (fun _ => rfl) l2 ?_
    refine r_s (fr' := (31, lv, [.int (-1), .int v2, .int (m.1 57 (v1 : Int32).toNatClampNeg)])) (hp' := xW B m) (q := (.iconst (-1), 1, 0, 0, .null)) rfl (fun _ => rfl) (Nat.le_refl _) ?_
    refine r_s (fr' := (32, lv, [.int (v2 ^^^ (-1)), .int (m.1 57 (v1 : Int32).toNatClampNeg)])) (hp' := xW B m) (q := (.ixor, 1, 0, 0, .null)) rfl (fun _ => rfl) (Nat.le_refl _) ?_
    refine r_s (fr' := (33, lv, [.int ((m.1 57 (v1 : Int32).toNatClampNeg) &&& (v2 ^^^ (-1)))])) (hp' := xW B m) (q := (.iand, 1, 0, 0, .null)) rfl (fun _ => rfl) (Nat.le_refl _) ?_
    refine q_si (k := 1) (i := 3) (q := (.istore_n 3, 1, 0, 0, .null)) rfl (fun _ => rfl) (by decide) ?_
    have l0_6 : zld (zs1 lv 3 (.int ((m.1 57 (v1 : Int32).toNatClampNeg) &&& (v2 ^^^ (-1))))) 0 = some (.ref 50) := x_o1 l0 rfl rfl
    have l1_6 : zld (zs1 lv 3 (.int ((m.1 57 (v1 : Int32).toNatClampNeg) &&& (v2 ^^^ (-1))))) 1 = some (.int v1) := x_o1 l1 rfl rfl
    have l2_6 : zld (zs1 lv 3 (.int ((m.1 57 (v1 : Int32).toNatClampNeg) &&& (v2 ^^^ (-1))))) 2 = some (.int v2) := x_o1 l2 rfl rfl
    have l3_6 : zld (zs1 lv 3 (.int ((m.1 57 (v1 : Int32).toNatClampNeg) &&& (v2 ^^^ (-1))))) 3 = some (.int ((m.1 57 (v1 : Int32).toNatClampNeg) &&& (v2 ^^^ (-1)))) := zs1_ld _ _ _
    generalize (zs1 lv 3 (.int ((m.1 57 (v1 : Int32).toNatClampNeg) &&& (v2 ^^^ (-1))))) = lv6 at *
    refine r_s (fr' := (35, lv6, [.int 0])) (hp' := xW B m) (q := (.iconst 0, 1, 0, 0, .null)) rfl (fun _ => rfl) (Nat.le_refl _) ?_
    refine q_si (k := 2) (i := 4) (q := (.istore 4, 2, 0, 0, .null)) rfl (fun _ => rfl) (by decide) ?_
    have l0_7 : zld (zs1 lv6 4 (.int 0)) 0 = some (.ref 50) := x_o1 l0_6 rfl rfl
    have l1_7 : zld (zs1 lv6 4 (.int 0)) 1 = some (.int v1) := x_o1 l1_6 rfl rfl
    have l2_7 : zld (zs1 lv6 4 (.int 0)) 2 = some (.int v2) := x_o1 l2_6 rfl rfl
    have l3_7 : zld (zs1 lv6 4 (.int 0)) 3 = some (.int ((m.1 57 (v1 : Int32).toNatClampNeg) &&& (v2 ^^^ (-1)))) := x_o1 l3_6 rfl rfl
    have l4_7 : zld (zs1 lv6 4 (.int 0)) 4 = some (.int 0) := zs1_ld _ _ _
    generalize (zs1 lv6 4 (.int 0)) = lv7 at *
    exact T24_50_37 H he F F l0_7 l1_7 l2_7 l3_7 l4_7 h
  · rw [if_neg (by rw [c]; decide)] at h
    refine r_s (fr' := (22, lv, [.int (-1)])) (hp' := xW B m) (q := (.iconst (-1), 1, 0, 0, .null)) rfl (fun _ => rfl) (Nat.le_refl _) ?_
    obtain rfl := Option.some.inj h
    exact q_ri (q := (.ireturn, 1, 0, 0, .null)) rfl (fun _ => rfl) rfl rfl
set_option maxRecDepth 20000 in
theorem Z24_50 {B : zHp} (H : yH0 B) {F : Nat} {a1 : Int32} {a2 : Int32} {m : xS} {x : Int32 × xS} (h : D24_50 F a1 a2 m = some x) {d : Nat} (hd : 1 ≤ d) : zCan d 24 [.ref 50, .int a1, .int a2] (xW B m) (some (.int x.1), xW B x.2) := by
  obtain ⟨e, rfl⟩ : ∃ e, d = e + 1 := ⟨d - 1, by omega⟩
  refine zCan_body (nL := 5) (rt := (some .int)) (cd := zc24) (xg24) ⟨Nat.le_of_ble_eq_true rfl, by decide⟩ (Nat.le_refl _) ?_
  exact T24_50 H hd F rfl rfl rfl h
/-- LentTools$Matching.toolFor -/
def D23_50_41 (F : Nat) (g7 : Int32 → Int32 → Int32 → Int32 → xS → Option (Int32 × xS)) (v1 : Int32) (v2 : Int32) (v3 : Int32) (v4 : Int32) (m : xS) : Option (Int32 × xS) :=
  g7 v1 v2 v3 (v4 + Int32.ofInt 1) m
set_option maxRecDepth 20000 in
theorem T23_50_41 {B : zHp} (H : yH0 B) {e : Nat} (he : 2 ≤ e + 1) (F : Nat) (g7 : Int32 → Int32 → Int32 → Int32 → xS → Option (Int32 × xS)) (k7 : ∀ {v1 : Int32} {v2 : Int32} {v3 : Int32} {v4 : Int32} {lv : List (Nat × Value)} {m : xS} {x : Int32 × xS}, zld lv 0 = some (.ref 50) → zld lv 1 = some (.int v1) → zld lv 2 = some (.int v2) → zld lv 3 = some (.int v3) → zld lv 4 = some (.int v4) → g7 v1 v2 v3 v4 m = some x → zR none e 5 (some .int) zc23 (7, lv, []) (xW B m) (some (.int x.1), xW B x.2)) {v1 : Int32} {v2 : Int32} {v3 : Int32} {v4 : Int32} {lv : List (Nat × Value)} {m : xS} {x : Int32 × xS} (l0 : zld lv 0 = some (.ref 50)) (l1 : zld lv 1 = some (.int v1)) (l2 : zld lv 2 = some (.int v2)) (l3 : zld lv 3 = some (.int v3)) (l4 : zld lv 4 = some (.int v4)) (h : D23_50_41 F g7 v1 v2 v3 v4 m = some x) : zR none e 5 (some .int) zc23 (41, lv, []) (xW B m) (some (.int x.1), xW B x.2) := by
  unfold D23_50_41 at h
  refine q_inc (i := 4) (n := 1) (q := (.iinc 4 1, 3, 0, 0, .null)) rfl (fun _ => rfl) l4 (by decide) ?_
  have l0_1 : zld (zs1 lv 4 (.int (v4 + Int32.ofInt 1))) 0 = some (.ref 50) := x_o1 l0 rfl rfl
  have l1_1 : zld (zs1 lv 4 (.int (v4 + Int32.ofInt 1))) 1 = some (.int v1) := x_o1 l1 rfl rfl
  have l2_1 : zld (zs1 lv 4 (.int (v4 + Int32.ofInt 1))) 2 = some (.int v2) := x_o1 l2 rfl rfl
  have l3_1 : zld (zs1 lv 4 (.int (v4 + Int32.ofInt 1))) 3 = some (.int v3) := x_o1 l3 rfl rfl
  have l4_1 : zld (zs1 lv 4 (.int (v4 + Int32.ofInt 1))) 4 = some (.int (v4 + Int32.ofInt 1)) := zs1_ld _ _ _
  generalize (zs1 lv 4 (.int (v4 + Int32.ofInt 1))) = lv1 at *
  refine r_s (fr' := (7, lv1, [])) (hp' := xW B m) (q := (.goto (-37), 3, 7, 0, .null)) rfl (fun _ => rfl) (Nat.le_refl _) ?_
  exact k7 l0_1 l1_1 l2_1 l3_1 l4_1 h
def D23_50_47 (F : Nat) (v1 : Int32) (v2 : Int32) (v3 : Int32) (v4 : Int32) (m : xS) : Option (Int32 × xS) :=
  some (v3, m)
set_option maxRecDepth 20000 in
theorem T23_50_47 {B : zHp} (H : yH0 B) {e : Nat} (he : 2 ≤ e + 1) (F : Nat) {v1 : Int32} {v2 : Int32} {v3 : Int32} {v4 : Int32} {lv : List (Nat × Value)} {m : xS} {x : Int32 × xS} (l0 : zld lv 0 = some (.ref 50)) (l1 : zld lv 1 = some (.int v1)) (l2 : zld lv 2 = some (.int v2)) (l3 : zld lv 3 = some (.int v3)) (l4 : zld lv 4 = some (.int v4)) (h : D23_50_47 F v1 v2 v3 v4 m = some x) : zR none e 5 (some .int) zc23 (47, lv, []) (xW B m) (some (.int x.1), xW B x.2) := by
  unfold D23_50_47 at h
  refine q_li (k := 1) (i := 3) (q := (.iload_n 3, 1, 0, 0, .null)) rfl (fun _ => rfl) l3 ?_
  obtain rfl := Option.some.inj h
  exact q_ri (q := (.ireturn, 1, 0, 0, .null)) rfl (fun _ => rfl) rfl rfl
def D23_50_7 (F : Nat) : Nat → Int32 → Int32 → Int32 → Int32 → xS → Option (Int32 × xS)
  | 0, _, _, _, _, _ => none
  | f + 1, v1, v2, v3, v4, m =>
    if zcmp .gt v4 v1 = true then
      D23_50_47 F v1 v2 v3 v4 m
    else
      if zcmp .ge v4 (m.1 50 1) = true then
        D23_50_47 F v1 v2 v3 v4 m
      else
        (D24_50 F v4 v2 m).bind fun q26 =>
          if zcmp .eq q26.1 (-1) = true then
            D23_50_41 F (D23_50_7 F f) v1 v2 q26.1 v4 q26.2
          else
            D23_50_41 F (D23_50_7 F f) v1 (v2 ||| (1 <<< (q26.1 &&& 31))) q26.1 v4 q26.2
set_option maxRecDepth 20000 in
theorem T23_50_7 {B : zHp} (H : yH0 B) {e : Nat} (he : 2 ≤ e + 1) (F : Nat) : ∀ (f : Nat) {v1 : Int32} {v2 : Int32} {v3 : Int32} {v4 : Int32} {lv : List (Nat × Value)} {m : xS} {x : Int32 × xS}, zld lv 0 = some (.ref 50) → zld lv 1 = some (.int v1) → zld lv 2 = some (.int v2) → zld lv 3 = some (.int v3) → zld lv 4 = some (.int v4) → D23_50_7 F f v1 v2 v3 v4 m = some x → zR none e 5 (some .int) zc23 (7, lv, []) (xW B m) (some (.int x.1), xW B x.2) := by
  intro f
  induction f with
  | zero => intro v1 v2 v3 v4 lv m x l0 l1 l2 l3 l4 h; cases h
  | succ f ih =>
    intro v1 v2 v3 v4 lv m x l0 l1 l2 l3 l4 h
    unfold D23_50_7 at h
    refine q_li (k := 2) (i := 4) (q := (.iload 4, 2, 0, 0, .null)) rfl (fun _ => rfl) l4 ?_
    refine q_li (k := 1) (i := 1) (q := (.iload_n 1, 1, 0, 0, .null)) rfl (fun _ => rfl) l1 ?_
    refine r_ifc (len := 3) (a := 47) (b := 0) (v0 := .null) (cn := .gt) (off := 37) rfl (fun c => ?_) (fun c => ?_)
    · rw [if_pos c] at h
      exact T23_50_47 H he F l0 l1 l2 l3 l4 h
    · rw [if_neg (by rw [c]; decide)] at h
      refine q_li (k := 2) (i := 4) (q := (.iload 4, 2, 0, 0, .null)) rfl (fun _ => rfl) l4 ?_
      refine q_lr (k := 1) (i := 0) (q := (.aload_n 0, 1, 0, 0, .null)) rfl (fun _ => rfl) l0 ?_
      refine r_gi (v := (m.1 50 1)) H (pc := 16) (i := _) rfl (by decide) (by decide) rfl ?_
      refine r_ifc (len := 3) (a := 47) (b := 0) (v0 := .null) (cn := .ge) (off := 28) rfl (fun c => ?_) (fun c => ?_)
      · rw [if_pos c] at h
        exact T23_50_47 H he F l0 l1 l2 l3 l4 h
      · rw [if_neg (by rw [c]; decide)] at h
        refine q_lr (k := 1) (i := 0) (q := (.aload_n 0, 1, 0, 0, .null)) rfl (fun _ => rfl) l0 ?_
        refine q_li (k := 2) (i := 4) (q := (.iload 4, 2, 0, 0, .null)) rfl (fun _ => rfl) l4 ?_
        refine q_li (k := 1) (i := 2) (q := (.iload_n 2, 1, 0, 0, .null)) rfl (fun _ => rfl) l2 ?_
        obtain ⟨q26, h26, h⟩ := xbind h
        refine r_call (ix := 50) (as := [.int v4, .int v2]) (rest := []) (rv := some (.int q26.1)) (hp' := xW B q26.2) (pc := 26) rfl xr24 rfl rfl rfl (xkd H (by decide)) (Nat.le_of_ble_eq_true rfl) (Z24_50 H h26 (by omega)) (Nat.le_refl _) ?_
        refine q_si (k := 1) (i := 3) (q := (.istore_n 3, 1, 0, 0, .null)) rfl (fun _ => rfl) (by decide) ?_
        have l0_1 : zld (zs1 lv 3 (.int q26.1)) 0 = some (.ref 50) := x_o1 l0 rfl rfl
        have l1_1 : zld (zs1 lv 3 (.int q26.1)) 1 = some (.int v1) := x_o1 l1 rfl rfl
        have l2_1 : zld (zs1 lv 3 (.int q26.1)) 2 = some (.int v2) := x_o1 l2 rfl rfl
        have l3_1 : zld (zs1 lv 3 (.int q26.1)) 3 = some (.int q26.1) := zs1_ld _ _ _
        have l4_1 : zld (zs1 lv 3 (.int q26.1)) 4 = some (.int v4) := x_o1 l4 rfl rfl
        generalize (zs1 lv 3 (.int q26.1)) = lv1 at *
        refine q_li (k := 1) (i := 3) (q := (.iload_n 3, 1, 0, 0, .null)) rfl (fun _ => rfl) l3_1 ?_
        refine r_s (fr' := (32, lv1, [.int (-1), .int q26.1])) (hp' := xW B q26.2) (q := (.iconst (-1), 1, 0, 0, .null)) rfl (fun _ => rfl) (Nat.le_refl _) ?_
        refine r_ifc (len := 3) (a := 41) (b := 0) (v0 := .null) (cn := .eq) (off := 9) rfl (fun c => ?_) (fun c => ?_)
        · rw [if_pos c] at h
          exact T23_50_41 H he F _ ih l0_1 l1_1 l2_1 l3_1 l4_1 h
        · rw [if_neg (by rw [c]; decide)] at h
          refine q_li (k := 1) (i := 2) (q := (.iload_n 2, 1, 0, 0, .null)) rfl (fun _ => rfl) l2_1 ?_
          refine r_s (fr' := (37, lv1, [.int 1, .int v2])) (hp' := xW B q26.2) (q := (.iconst 1, 1, 0, 0, .null)) rfl (fun _ => rfl) (Nat.le_refl _) ?_
          refine q_li (k := 1) (i := 3) (q := (.iload_n 3, 1, 0, 0, .null)) rfl (fun _ => rfl) l3_1 ?_
          refine r_s (fr' := (39, lv1, [.int (1 <<< (q26.1 &&& 31)), .int v2])) (hp' := xW B q26.2) (q := (.ishl, 1, 0, 0, .null)) rfl (fun _ => rfl) (Nat.le_refl _) ?_
          refine r_s (fr' := (40, lv1, [.int (v2 ||| (1 <<< (q26.1 &&& 31)))])) (hp' := xW B q26.2) (q := (.ior, 1, 0, 0, .null)) rfl (fun _ => rfl) (Nat.le_refl _) ?_
          refine q_si (k := 1) (i := 2) (q := (.istore_n 2, 1, 0, 0, .null)) rfl (fun _ => rfl) (by decide) ?_
          have l0_2 : zld (zs1 lv1 2 (.int (v2 ||| (1 <<< (q26.1 &&& 31))))) 0 = some (.ref 50) := x_o1 l0_1 rfl rfl
          have l1_2 : zld (zs1 lv1 2 (.int (v2 ||| (1 <<< (q26.1 &&& 31))))) 1 = some (.int v1) := x_o1 l1_1 rfl rfl
          have l2_2 : zld (zs1 lv1 2 (.int (v2 ||| (1 <<< (q26.1 &&& 31))))) 2 = some (.int (v2 ||| (1 <<< (q26.1 &&& 31)))) := zs1_ld _ _ _
          have l3_2 : zld (zs1 lv1 2 (.int (v2 ||| (1 <<< (q26.1 &&& 31))))) 3 = some (.int q26.1) := x_o1 l3_1 rfl rfl
          have l4_2 : zld (zs1 lv1 2 (.int (v2 ||| (1 <<< (q26.1 &&& 31))))) 4 = some (.int v4) := x_o1 l4_1 rfl rfl
          generalize (zs1 lv1 2 (.int (v2 ||| (1 <<< (q26.1 &&& 31))))) = lv2 at *
          exact T23_50_41 H he F _ ih l0_2 l1_2 l2_2 l3_2 l4_2 h
def D23_50 (F : Nat) (v1 : Int32) (m : xS) : Option (Int32 × xS) :=
  D23_50_7 F F v1 0 (-1) 0 m
set_option maxRecDepth 20000 in
theorem T23_50 {B : zHp} (H : yH0 B) {e : Nat} (he : 2 ≤ e + 1) (F : Nat) {v1 : Int32} {lv : List (Nat × Value)} {m : xS} {x : Int32 × xS} (l0 : zld lv 0 = some (.ref 50)) (l1 : zld lv 1 = some (.int v1)) (h : D23_50 F v1 m = some x) : zR none e 5 (some .int) zc23 (0, lv, []) (xW B m) (some (.int x.1), xW B x.2) := by
  unfold D23_50 at h
  refine r_s (fr' := (1, lv, [.int 0])) (hp' := xW B m) (q := (.iconst 0, 1, 0, 0, .null)) rfl (fun _ => rfl) (Nat.le_refl _) ?_
  refine q_si (k := 1) (i := 2) (q := (.istore_n 2, 1, 0, 0, .null)) rfl (fun _ => rfl) (by decide) ?_
  have l0_1 : zld (zs1 lv 2 (.int 0)) 0 = some (.ref 50) := x_o1 l0 rfl rfl
  have l1_1 : zld (zs1 lv 2 (.int 0)) 1 = some (.int v1) := x_o1 l1 rfl rfl
  have l2_1 : zld (zs1 lv 2 (.int 0)) 2 = some (.int 0) := zs1_ld _ _ _
  generalize (zs1 lv 2 (.int 0)) = lv1 at *
  refine r_s (fr' := (3, lv1, [.int (-1)])) (hp' := xW B m) (q := (.iconst (-1), 1, 0, 0, .null)) rfl (fun _ => rfl) (Nat.le_refl _) ?_
  refine q_si (k := 1) (i := 3) (q := (.istore_n 3, 1, 0, 0, .null)) rfl (fun _ => rfl) (by decide) ?_
  have l0_2 : zld (zs1 lv1 3 (.int (-1))) 0 = some (.ref 50) := x_o1 l0_1 rfl rfl
  have l1_2 : zld (zs1 lv1 3 (.int (-1))) 1 = some (.int v1) := x_o1 l1_1 rfl rfl
  have l2_2 : zld (zs1 lv1 3 (.int (-1))) 2 = some (.int 0) := x_o1 l2_1 rfl rfl
  have l3_2 : zld (zs1 lv1 3 (.int (-1))) 3 = some (.int (-1)) := zs1_ld _ _ _
  generalize (zs1 lv1 3 (.int (-1))) = lv2 at *
  refine r_s (fr' := (5, lv2, [.int 0])) (hp' := xW B m) (q := (.iconst 0, 1, 0, 0, .null)) rfl (fun _ => rfl) (Nat.le_refl _) ?_
  refine q_si (k := 2) (i := 4) (q := (.istore 4, 2, 0, 0, .null)) rfl (fun _ => rfl) (by decide) ?_
  have l0_3 : zld (zs1 lv2 4 (.int 0)) 0 = some (.ref 50) := x_o1 l0_2 rfl rfl
  have l1_3 : zld (zs1 lv2 4 (.int 0)) 1 = some (.int v1) := x_o1 l1_2 rfl rfl
  have l2_3 : zld (zs1 lv2 4 (.int 0)) 2 = some (.int 0) := x_o1 l2_2 rfl rfl
  have l3_3 : zld (zs1 lv2 4 (.int 0)) 3 = some (.int (-1)) := x_o1 l3_2 rfl rfl
  have l4_3 : zld (zs1 lv2 4 (.int 0)) 4 = some (.int 0) := zs1_ld _ _ _
  generalize (zs1 lv2 4 (.int 0)) = lv3 at *
  exact T23_50_7 H he F F l0_3 l1_3 l2_3 l3_3 l4_3 h
set_option maxRecDepth 20000 in
theorem Z23_50 {B : zHp} (H : yH0 B) {F : Nat} {a1 : Int32} {m : xS} {x : Int32 × xS} (h : D23_50 F a1 m = some x) {d : Nat} (hd : 2 ≤ d) : zCan d 23 [.ref 50, .int a1] (xW B m) (some (.int x.1), xW B x.2) := by
  obtain ⟨e, rfl⟩ : ∃ e, d = e + 1 := ⟨d - 1, by omega⟩
  refine zCan_body (nL := 5) (rt := (some .int)) (cd := zc23) (xg23) ⟨Nat.le_of_ble_eq_true rfl, by decide⟩ (Nat.le_refl _) ?_
  exact T23_50 H hd F rfl rfl h
/-- LentTools.match -/
def D142_0_20 (F : Nat) (v1 : Int32) (m : xS) : Option (Int32 × xS) :=
  some ((-3), m)
set_option maxRecDepth 20000 in
theorem T142_0_20 {B : zHp} (H : yH0 B) {e : Nat} (he : 7 ≤ e + 1) (F : Nat) {v1 : Int32} {lv : List (Nat × Value)} {m : xS} {x : Int32 × xS} (l0 : zld lv 0 = some (.ref 0)) (l1 : zld lv 1 = some (.int v1)) (h : D142_0_20 F v1 m = some x) : zR none e 3 (some .int) zc142 (20, lv, []) (xW B m) (some (.int x.1), xW B x.2) := by
  unfold D142_0_20 at h
  refine r_s (fr' := (22, lv, [.int (-3)])) (hp' := xW B m) (q := (.bipush (-3), 2, 0, 0, .null)) rfl (fun _ => rfl) (Nat.le_refl _) ?_
  obtain rfl := Option.some.inj h
  exact q_ri (q := (.ireturn, 1, 0, 0, .null)) rfl (fun _ => rfl) rfl rfl
def D142_0 (F : Nat) (v1 : Int32) (m : xS) : Option (Int32 × xS) :=
  (D76_9 F m).bind fun q4 =>
    if zcmp .eq q4.1 0 = true then
      D142_0_20 F v1 q4.2
    else
      if zcmp .lt v1 0 = true then
        D142_0_20 F v1 q4.2
      else
        if zcmp .le v1 6 = true then
          (D80_9 F q4.2).bind fun q28 =>
            if zcmp .le v1 q28.1 = true then
              (D19_50_9 F (-1) q28.2).bind fun q46 =>
                if zcmp .ne v1 0 = true then
                  (D23_50 F (v1 - 1) q46.2).bind fun q65 =>
                    some (q65.1, q65.2)
                else
                  some (q46.1, q46.2)
            else
              some ((-2), q28.2)
        else
          D142_0_20 F v1 q4.2
set_option maxRecDepth 20000 in
theorem T142_0 {B : zHp} (H : yH0 B) {e : Nat} (he : 7 ≤ e + 1) (F : Nat) {v1 : Int32} {lv : List (Nat × Value)} {m : xS} {x : Int32 × xS} (l0 : zld lv 0 = some (.ref 0)) (l1 : zld lv 1 = some (.int v1)) (h : D142_0 F v1 m = some x) : zR none e 3 (some .int) zc142 (0, lv, []) (xW B m) (some (.int x.1), xW B x.2) := by
  unfold D142_0 at h
  refine q_lr (k := 1) (i := 0) (q := (.aload_n 0, 1, 0, 0, .null)) rfl (fun _ => rfl) l0 ?_
  refine r_gr (c := 9) H (pc := 1) rfl (by decide) (by decide) ?_
  obtain ⟨q4, h4, h⟩ := xbind h
  refine r_call (ix := 9) (as := []) (rest := []) (rv := some (.int q4.1)) (hp' := xW B q4.2) (pc := 4) rfl xr76 rfl rfl rfl (xkd H (by decide)) (Nat.le_of_ble_eq_true rfl) (Z76_9 H h4 (by omega)) (Nat.le_refl _) ?_
  refine r_if (len := 3) (a := 20) (b := 0) (v0 := .null) (cn := .eq) (off := 13) rfl (fun c => ?_) (fun c => ?_)
  · rw [if_pos c] at h
    exact T142_0_20 H he F l0 l1 h
  · rw [if_neg (by rw [c]; decide)] at h
    refine q_li (k := 1) (i := 1) (q := (.iload_n 1, 1, 0, 0, .null)) rfl (fun _ => rfl) l1 ?_
    refine r_if (len := 3) (a := 20) (b := 0) (v0 := .null) (cn := .lt) (off := 9) rfl (fun c => ?_) (fun c => ?_)
    · rw [if_pos c] at h
      exact T142_0_20 H he F l0 l1 h
    · rw [if_neg (by rw [c]; decide)] at h
      refine q_li (k := 1) (i := 1) (q := (.iload_n 1, 1, 0, 0, .null)) rfl (fun _ => rfl) l1 ?_
      refine r_s (fr' := (17, lv, [.int 6, .int v1])) (hp' := xW B q4.2) (q := (.bipush 6, 2, 0, 0, .null)) rfl (fun _ => rfl) (Nat.le_refl _) ?_
      refine r_ifc (len := 3) (a := 23) (b := 0) (v0 := .null) (cn := .le) (off := 6) rfl (fun c => ?_) (fun c => ?_)
      · rw [if_pos c] at h
        refine q_li (k := 1) (i := 1) (q := (.iload_n 1, 1, 0, 0, .null)) rfl (fun _ => rfl) l1 ?_
        refine q_lr (k := 1) (i := 0) (q := (.aload_n 0, 1, 0, 0, .null)) rfl (fun _ => rfl) l0 ?_
        refine r_gr (c := 9) H (pc := 25) rfl (by decide) (by decide) ?_
        obtain ⟨q28, h28, h⟩ := xbind h
        refine r_call (ix := 9) (as := []) (rest := [.int v1]) (rv := some (.int q28.1)) (hp' := xW B q28.2) (pc := 28) rfl xr80 rfl rfl rfl (xkd H (by decide)) (Nat.le_of_ble_eq_true rfl) (Z80_9 H h28 (by omega)) (Nat.le_refl _) ?_
        refine r_ifc (len := 3) (a := 37) (b := 0) (v0 := .null) (cn := .le) (off := 6) rfl (fun c => ?_) (fun c => ?_)
        · rw [if_pos c] at h
          refine q_lr (k := 1) (i := 0) (q := (.aload_n 0, 1, 0, 0, .null)) rfl (fun _ => rfl) l0 ?_
          refine r_gr (c := 50) H (pc := 38) rfl (by decide) (by decide) ?_
          refine q_lr (k := 1) (i := 0) (q := (.aload_n 0, 1, 0, 0, .null)) rfl (fun _ => rfl) l0 ?_
          refine r_gr (c := 9) H (pc := 42) rfl (by decide) (by decide) ?_
          refine r_s (fr' := (46, lv, [.int (-1), .ref 9, .ref 50])) (hp' := xW B q28.2) (q := (.iconst (-1), 1, 0, 0, .null)) rfl (fun _ => rfl) (Nat.le_refl _) ?_
          obtain ⟨q46, h46, h⟩ := xbind h
          refine r_call (ix := 50) (as := [.ref 9, .int (-1)]) (rest := []) (rv := some (.int q46.1)) (hp' := xW B q46.2) (pc := 46) rfl xr19 rfl rfl rfl (xkd H (by decide)) (Nat.le_of_ble_eq_true rfl) (Z19_50_9 H h46 (by omega)) (Nat.le_refl _) ?_
          refine q_si (k := 1) (i := 2) (q := (.istore_n 2, 1, 0, 0, .null)) rfl (fun _ => rfl) (by decide) ?_
          have l0_1 : zld (zs1 lv 2 (.int q46.1)) 0 = some (.ref 0) := x_o1 l0 rfl rfl
          have l1_1 : zld (zs1 lv 2 (.int q46.1)) 1 = some (.int v1) := x_o1 l1 rfl rfl
          have l2_1 : zld (zs1 lv 2 (.int q46.1)) 2 = some (.int q46.1) := zs1_ld _ _ _
          generalize (zs1 lv 2 (.int q46.1)) = lv1 at *
          refine q_li (k := 1) (i := 1) (q := (.iload_n 1, 1, 0, 0, .null)) rfl (fun _ => rfl) l1_1 ?_
          refine r_if (len := 3) (a := 58) (b := 0) (v0 := .null) (cn := .ne) (off := 7) rfl (fun c => ?_) (fun c => ?_)
          · rw [if_pos c] at h
            refine q_lr (k := 1) (i := 0) (q := (.aload_n 0, 1, 0, 0, .null)) rfl (fun _ => rfl) l0_1 ?_
            refine r_gr (c := 50) H (pc := 59) rfl (by decide) (by decide) ?_
            refine q_li (k := 1) (i := 1) (q := (.iload_n 1, 1, 0, 0, .null)) rfl (fun _ => rfl) l1_1 ?_
            refine r_s (fr' := (64, lv1, [.int 1, .int v1, .ref 50])) (hp' := xW B q46.2) (q := (.iconst 1, 1, 0, 0, .null)) rfl (fun _ => rfl) (Nat.le_refl _) ?_
            refine r_s (fr' := (65, lv1, [.int (v1 - 1), .ref 50])) (hp' := xW B q46.2) (q := (.isub, 1, 0, 0, .null)) rfl (fun _ => rfl) (Nat.le_refl _) ?_
            obtain ⟨q65, h65, h⟩ := xbind h
            refine r_call (ix := 50) (as := [.int (v1 - 1)]) (rest := []) (rv := some (.int q65.1)) (hp' := xW B q65.2) (pc := 65) rfl xr23 rfl rfl rfl (xkd H (by decide)) (Nat.le_of_ble_eq_true rfl) (Z23_50 H h65 (by omega)) (Nat.le_refl _) ?_
            obtain rfl := Option.some.inj h
            exact q_ri (q := (.ireturn, 1, 0, 0, .null)) rfl (fun _ => rfl) rfl rfl
          · rw [if_neg (by rw [c]; decide)] at h
            refine q_li (k := 1) (i := 2) (q := (.iload_n 2, 1, 0, 0, .null)) rfl (fun _ => rfl) l2_1 ?_
            refine r_s (fr' := (68, lv1, [.int q46.1])) (hp' := xW B q46.2) (q := (.goto 13, 3, 68, 0, .null)) rfl (fun _ => rfl) (Nat.le_refl _) ?_
            obtain rfl := Option.some.inj h
            exact q_ri (q := (.ireturn, 1, 0, 0, .null)) rfl (fun _ => rfl) rfl rfl
        · rw [if_neg (by rw [c]; decide)] at h
          refine r_s (fr' := (36, lv, [.int (-2)])) (hp' := xW B q28.2) (q := (.bipush (-2), 2, 0, 0, .null)) rfl (fun _ => rfl) (Nat.le_refl _) ?_
          obtain rfl := Option.some.inj h
          exact q_ri (q := (.ireturn, 1, 0, 0, .null)) rfl (fun _ => rfl) rfl rfl
      · rw [if_neg (by rw [c]; decide)] at h
        exact T142_0_20 H he F l0 l1 h
set_option maxRecDepth 20000 in
theorem Z142_0 {B : zHp} (H : yH0 B) {F : Nat} {a1 : Int32} {m : xS} {x : Int32 × xS} (h : D142_0 F a1 m = some x) {d : Nat} (hd : 7 ≤ d) : zCan d 142 [.ref 0, .int a1] (xW B m) (some (.int x.1), xW B x.2) := by
  obtain ⟨e, rfl⟩ : ∃ e, d = e + 1 := ⟨d - 1, by omega⟩
  refine zCan_body (nL := 3) (rt := (some .int)) (cd := zc142) (xg142) ⟨Nat.le_of_ble_eq_true rfl, by decide⟩ (Nat.le_refl _) ?_
  exact T142_0 H hd F rfl rfl h
/-- LentTools.worth -/
def D143_0 (F : Nat) (v1 : Int32) (m : xS) : Option (Int32 × xS) :=
  (D83_9 F v1 m).bind fun q5 =>
    if zcmp .ne q5.1 0 = true then
      (D19_50_9 F (-1) q5.2).bind fun q22 =>
        (D19_50_9 F v1 q22.2).bind fun q34 =>
          some ((q22.1 - q34.1), q34.2)
    else
      some ((-1), q5.2)
set_option maxRecDepth 20000 in
theorem T143_0 {B : zHp} (H : yH0 B) {e : Nat} (he : 7 ≤ e + 1) (F : Nat) {v1 : Int32} {lv : List (Nat × Value)} {m : xS} {x : Int32 × xS} (l0 : zld lv 0 = some (.ref 0)) (l1 : zld lv 1 = some (.int v1)) (h : D143_0 F v1 m = some x) : zR none e 2 (some .int) zc143 (0, lv, []) (xW B m) (some (.int x.1), xW B x.2) := by
  unfold D143_0 at h
  refine q_lr (k := 1) (i := 0) (q := (.aload_n 0, 1, 0, 0, .null)) rfl (fun _ => rfl) l0 ?_
  refine r_gr (c := 9) H (pc := 1) rfl (by decide) (by decide) ?_
  refine q_li (k := 1) (i := 1) (q := (.iload_n 1, 1, 0, 0, .null)) rfl (fun _ => rfl) l1 ?_
  obtain ⟨q5, h5, h⟩ := xbind h
  refine r_call (ix := 9) (as := [.int v1]) (rest := []) (rv := some (.int q5.1)) (hp' := xW B q5.2) (pc := 5) rfl xr83 rfl rfl rfl (xkd H (by decide)) (Nat.le_of_ble_eq_true rfl) (Z83_9 H h5 (by omega)) (Nat.le_refl _) ?_
  refine r_if (len := 3) (a := 13) (b := 0) (v0 := .null) (cn := .ne) (off := 5) rfl (fun c => ?_) (fun c => ?_)
  · rw [if_pos c] at h
    refine q_lr (k := 1) (i := 0) (q := (.aload_n 0, 1, 0, 0, .null)) rfl (fun _ => rfl) l0 ?_
    refine r_gr (c := 50) H (pc := 14) rfl (by decide) (by decide) ?_
    refine q_lr (k := 1) (i := 0) (q := (.aload_n 0, 1, 0, 0, .null)) rfl (fun _ => rfl) l0 ?_
    refine r_gr (c := 9) H (pc := 18) rfl (by decide) (by decide) ?_
    refine r_s (fr' := (22, lv, [.int (-1), .ref 9, .ref 50])) (hp' := xW B q5.2) (q := (.iconst (-1), 1, 0, 0, .null)) rfl (fun _ => rfl) (Nat.le_refl _) ?_
    obtain ⟨q22, h22, h⟩ := xbind h
    refine r_call (ix := 50) (as := [.ref 9, .int (-1)]) (rest := []) (rv := some (.int q22.1)) (hp' := xW B q22.2) (pc := 22) rfl xr19 rfl rfl rfl (xkd H (by decide)) (Nat.le_of_ble_eq_true rfl) (Z19_50_9 H h22 (by omega)) (Nat.le_refl _) ?_
    refine q_lr (k := 1) (i := 0) (q := (.aload_n 0, 1, 0, 0, .null)) rfl (fun _ => rfl) l0 ?_
    refine r_gr (c := 50) H (pc := 26) rfl (by decide) (by decide) ?_
    refine q_lr (k := 1) (i := 0) (q := (.aload_n 0, 1, 0, 0, .null)) rfl (fun _ => rfl) l0 ?_
    refine r_gr (c := 9) H (pc := 30) rfl (by decide) (by decide) ?_
    refine q_li (k := 1) (i := 1) (q := (.iload_n 1, 1, 0, 0, .null)) rfl (fun _ => rfl) l1 ?_
    obtain ⟨q34, h34, h⟩ := xbind h
    refine r_call (ix := 50) (as := [.ref 9, .int v1]) (rest := [.int q22.1]) (rv := some (.int q34.1)) (hp' := xW B q34.2) (pc := 34) rfl xr19 rfl rfl rfl (xkd H (by decide)) (Nat.le_of_ble_eq_true rfl) (Z19_50_9 H h34 (by omega)) (Nat.le_refl _) ?_
    refine r_s (fr' := (38, lv, [.int (q22.1 - q34.1)])) (hp' := xW B q34.2) (q := (.isub, 1, 0, 0, .null)) rfl (fun _ => rfl) (Nat.le_refl _) ?_
    obtain rfl := Option.some.inj h
    exact q_ri (q := (.ireturn, 1, 0, 0, .null)) rfl (fun _ => rfl) rfl rfl
  · rw [if_neg (by rw [c]; decide)] at h
    refine r_s (fr' := (12, lv, [.int (-1)])) (hp' := xW B q5.2) (q := (.iconst (-1), 1, 0, 0, .null)) rfl (fun _ => rfl) (Nat.le_refl _) ?_
    obtain rfl := Option.some.inj h
    exact q_ri (q := (.ireturn, 1, 0, 0, .null)) rfl (fun _ => rfl) rfl rfl
set_option maxRecDepth 20000 in
theorem Z143_0 {B : zHp} (H : yH0 B) {F : Nat} {a1 : Int32} {m : xS} {x : Int32 × xS} (h : D143_0 F a1 m = some x) {d : Nat} (hd : 7 ≤ d) : zCan d 143 [.ref 0, .int a1] (xW B m) (some (.int x.1), xW B x.2) := by
  obtain ⟨e, rfl⟩ : ∃ e, d = e + 1 := ⟨d - 1, by omega⟩
  refine zCan_body (nL := 2) (rt := (some .int)) (cd := zc143) (xg143) ⟨Nat.le_of_ble_eq_true rfl, by decide⟩ (Nat.le_refl _) ?_
  exact T143_0 H hd F rfl rfl h
/-- LentTools$Chains.goFurther -/
def D3_51_11t_37 (F : Nat) (g5 : Int32 → Int32 → Int32 → xS → Option (Unit × xS)) (v2 : Int32) (v3 : Int32) (v4 : Int32) (m : xS) : Option (Unit × xS) :=
  g5 v2 v3 (v4 + Int32.ofInt 1) m
set_option maxRecDepth 20000 in
theorem T3_51_11t_37 {B : zHp} (H : yH0 B) {e : Nat} (he : 2 ≤ e + 1) (F : Nat) (g5 : Int32 → Int32 → Int32 → xS → Option (Unit × xS)) (k5 : ∀ {v2 : Int32} {v3 : Int32} {v4 : Int32} {lv : List (Nat × Value)} {m : xS} {x : Unit × xS}, zld lv 0 = some (.ref 51) → zld lv 1 = some (.ref 11) → zld lv 2 = some (.int v2) → zld lv 3 = some (.int v3) → zld lv 4 = some (.int v4) → g5 v2 v3 v4 m = some x → zR none e 5 none zc3 (5, lv, []) (xW B m) (none, xW B x.2)) {v2 : Int32} {v3 : Int32} {v4 : Int32} {lv : List (Nat × Value)} {m : xS} {x : Unit × xS} (l0 : zld lv 0 = some (.ref 51)) (l1 : zld lv 1 = some (.ref 11)) (l2 : zld lv 2 = some (.int v2)) (l3 : zld lv 3 = some (.int v3)) (l4 : zld lv 4 = some (.int v4)) (h : D3_51_11t_37 F g5 v2 v3 v4 m = some x) : zR none e 5 none zc3 (37, lv, []) (xW B m) (none, xW B x.2) := by
  unfold D3_51_11t_37 at h
  refine q_inc (i := 4) (n := 1) (q := (.iinc 4 1, 3, 0, 0, .null)) rfl (fun _ => rfl) l4 (by decide) ?_
  have l0_1 : zld (zs1 lv 4 (.int (v4 + Int32.ofInt 1))) 0 = some (.ref 51) := x_o1 l0 rfl rfl
  have l1_1 : zld (zs1 lv 4 (.int (v4 + Int32.ofInt 1))) 1 = some (.ref 11) := x_o1 l1 rfl rfl
  have l2_1 : zld (zs1 lv 4 (.int (v4 + Int32.ofInt 1))) 2 = some (.int v2) := x_o1 l2 rfl rfl
  have l3_1 : zld (zs1 lv 4 (.int (v4 + Int32.ofInt 1))) 3 = some (.int v3) := x_o1 l3 rfl rfl
  have l4_1 : zld (zs1 lv 4 (.int (v4 + Int32.ofInt 1))) 4 = some (.int (v4 + Int32.ofInt 1)) := zs1_ld _ _ _
  generalize (zs1 lv 4 (.int (v4 + Int32.ofInt 1))) = lv1 at *
  refine r_s (fr' := (5, lv1, [])) (hp' := xW B m) (q := (.goto (-35), 3, 5, 0, .null)) rfl (fun _ => rfl) (Nat.le_refl _) ?_
  exact k5 l0_1 l1_1 l2_1 l3_1 l4_1 h
def D3_51_11t_88 (F : Nat) (g52 : Int32 → Int32 → Int32 → xS → Option (Unit × xS)) (v2 : Int32) (v3 : Int32) (v4 : Int32) (m : xS) : Option (Unit × xS) :=
  g52 v2 v3 (v4 + Int32.ofInt 1) m
set_option maxRecDepth 20000 in
theorem T3_51_11t_88 {B : zHp} (H : yH0 B) {e : Nat} (he : 2 ≤ e + 1) (F : Nat) (g52 : Int32 → Int32 → Int32 → xS → Option (Unit × xS)) (k52 : ∀ {v2 : Int32} {v3 : Int32} {v4 : Int32} {lv : List (Nat × Value)} {m : xS} {x : Unit × xS}, zld lv 0 = some (.ref 51) → zld lv 1 = some (.ref 11) → zld lv 2 = some (.int v2) → zld lv 3 = some (.int v3) → zld lv 4 = some (.int v4) → g52 v2 v3 v4 m = some x → zR none e 5 none zc3 (52, lv, []) (xW B m) (none, xW B x.2)) {v2 : Int32} {v3 : Int32} {v4 : Int32} {lv : List (Nat × Value)} {m : xS} {x : Unit × xS} (l0 : zld lv 0 = some (.ref 51)) (l1 : zld lv 1 = some (.ref 11)) (l2 : zld lv 2 = some (.int v2)) (l3 : zld lv 3 = some (.int v3)) (l4 : zld lv 4 = some (.int v4)) (h : D3_51_11t_88 F g52 v2 v3 v4 m = some x) : zR none e 5 none zc3 (88, lv, []) (xW B m) (none, xW B x.2) := by
  unfold D3_51_11t_88 at h
  refine q_inc (i := 4) (n := 1) (q := (.iinc 4 1, 3, 0, 0, .null)) rfl (fun _ => rfl) l4 (by decide) ?_
  have l0_1 : zld (zs1 lv 4 (.int (v4 + Int32.ofInt 1))) 0 = some (.ref 51) := x_o1 l0 rfl rfl
  have l1_1 : zld (zs1 lv 4 (.int (v4 + Int32.ofInt 1))) 1 = some (.ref 11) := x_o1 l1 rfl rfl
  have l2_1 : zld (zs1 lv 4 (.int (v4 + Int32.ofInt 1))) 2 = some (.int v2) := x_o1 l2 rfl rfl
  have l3_1 : zld (zs1 lv 4 (.int (v4 + Int32.ofInt 1))) 3 = some (.int v3) := x_o1 l3 rfl rfl
  have l4_1 : zld (zs1 lv 4 (.int (v4 + Int32.ofInt 1))) 4 = some (.int (v4 + Int32.ofInt 1)) := zs1_ld _ _ _
  generalize (zs1 lv 4 (.int (v4 + Int32.ofInt 1))) = lv1 at *
  refine r_s (fr' := (52, lv1, [])) (hp' := xW B m) (q := (.goto (-39), 3, 52, 0, .null)) rfl (fun _ => rfl) (Nat.le_refl _) ?_
  exact k52 l0_1 l1_1 l2_1 l3_1 l4_1 h
def D3_51_11t_52 (F : Nat) : Nat → Int32 → Int32 → Int32 → xS → Option (Unit × xS)
  | 0, _, _, _, _ => none
  | f + 1, v2, v3, v4, m =>
    (D77_11t F m).bind fun q55 =>
      if zcmp .ge v4 q55.1 = true then
        some ((), q55.2)
      else
        if zcmp .eq ((v3 >>> (v4 &&& 31)) &&& 1) 0 = true then
          D3_51_11t_88 F (D3_51_11t_52 F f) v2 v3 v4 q55.2
        else
          if xib (v2 ||| (1 <<< (v4 &&& 31))) 64 = true then
            if xib (v2 ||| (1 <<< (v4 &&& 31))) 64 = true then
              D3_51_11t_88 F (D3_51_11t_52 F f) v2 v3 v4 (xu q55.2 54 ((v2 ||| (1 <<< (v4 &&& 31))) : Int32).toNatClampNeg ((q55.2.1 54 ((v2 ||| (1 <<< (v4 &&& 31))) : Int32).toNatClampNeg) ||| (1 <<< (v4 &&& 31))))
            else none
          else none
set_option maxRecDepth 20000 in
theorem T3_51_11t_52 {B : zHp} (H : yH0 B) {e : Nat} (he : 2 ≤ e + 1) (F : Nat) : ∀ (f : Nat) {v2 : Int32} {v3 : Int32} {v4 : Int32} {lv : List (Nat × Value)} {m : xS} {x : Unit × xS}, zld lv 0 = some (.ref 51) → zld lv 1 = some (.ref 11) → zld lv 2 = some (.int v2) → zld lv 3 = some (.int v3) → zld lv 4 = some (.int v4) → D3_51_11t_52 F f v2 v3 v4 m = some x → zR none e 5 none zc3 (52, lv, []) (xW B m) (none, xW B x.2) := by
  intro f
  induction f with
  | zero => intro v2 v3 v4 lv m x l0 l1 l2 l3 l4 h; cases h
  | succ f ih =>
    intro v2 v3 v4 lv m x l0 l1 l2 l3 l4 h
    unfold D3_51_11t_52 at h
    refine q_li (k := 2) (i := 4) (q := (.iload 4, 2, 0, 0, .null)) rfl (fun _ => rfl) l4 ?_
    refine q_lr (k := 1) (i := 1) (q := (.aload_n 1, 1, 0, 0, .null)) rfl (fun _ => rfl) l1 ?_
    obtain ⟨q55, h55, h⟩ := xbind h
    refine r_call (ix := 11) (as := []) (rest := [.int v4]) (rv := some (.int q55.1)) (hp' := xW B q55.2) (pc := 55) rfl xr77 rfl rfl rfl (xkd H (by decide)) (Nat.le_of_ble_eq_true rfl) (Z77_11t H h55 (by omega)) (Nat.le_refl _) ?_
    refine r_ifc (len := 3) (a := 94) (b := 0) (v0 := .null) (cn := .ge) (off := 36) rfl (fun c => ?_) (fun c => ?_)
    · rw [if_pos c] at h
      obtain rfl := Option.some.inj h
      exact r_ret (q := (.return_, 1, 0, 0, .null)) rfl rfl (fun _ => rfl)
    · rw [if_neg (by rw [c]; decide)] at h
      refine q_li (k := 1) (i := 3) (q := (.iload_n 3, 1, 0, 0, .null)) rfl (fun _ => rfl) l3 ?_
      refine q_li (k := 2) (i := 4) (q := (.iload 4, 2, 0, 0, .null)) rfl (fun _ => rfl) l4 ?_
      refine r_s (fr' := (65, lv, [.int (v3 >>> (v4 &&& 31))])) (hp' := xW B q55.2) (q := (.ishr, 1, 0, 0, .null)) rfl (fun _ => rfl) (Nat.le_refl _) ?_
      refine r_s (fr' := (66, lv, [.int 1, .int (v3 >>> (v4 &&& 31))])) (hp' := xW B q55.2) (q := (.iconst 1, 1, 0, 0, .null)) rfl (fun _ => rfl) (Nat.le_refl _) ?_
      refine r_s (fr' := (67, lv, [.int ((v3 >>> (v4 &&& 31)) &&& 1)])) (hp' := xW B q55.2) (q := (.iand, 1, 0, 0, .null)) rfl (fun _ => rfl) (Nat.le_refl _) ?_
      refine r_if (len := 3) (a := 88) (b := 0) (v0 := .null) (cn := .eq) (off := 21) rfl (fun c => ?_) (fun c => ?_)
      · rw [if_pos c] at h
        exact T3_51_11t_88 H he F _ ih l0 l1 l2 l3 l4 h
      · rw [if_neg (by rw [c]; decide)] at h
        refine q_lr (k := 1) (i := 0) (q := (.aload_n 0, 1, 0, 0, .null)) rfl (fun _ => rfl) l0 ?_
        refine r_gr (c := 54) H (pc := 71) rfl (by decide) (by decide) ?_
        refine q_li (k := 1) (i := 2) (q := (.iload_n 2, 1, 0, 0, .null)) rfl (fun _ => rfl) l2 ?_
        refine r_s (fr' := (76, lv, [.int 1, .int v2, .ref 54])) (hp' := xW B q55.2) (q := (.iconst 1, 1, 0, 0, .null)) rfl (fun _ => rfl) (Nat.le_refl _) ?_
        refine q_li (k := 2) (i := 4) (q := (.iload 4, 2, 0, 0, .null)) rfl (fun _ => rfl) l4 ?_
        refine r_s (fr' := (79, lv, [.int (1 <<< (v4 &&& 31)), .int v2, .ref 54])) (hp' := xW B q55.2) (q := (.ishl, 1, 0, 0, .null)) rfl (fun _ => rfl) (Nat.le_refl _) ?_
        refine r_s (fr' := (80, lv, [.int (v2 ||| (1 <<< (v4 &&& 31))), .ref 54])) (hp' := xW B q55.2) (q := (.ior, 1, 0, 0, .null)) rfl (fun _ => rfl) (Nat.le_refl _) ?_
        refine r_s (fr' := (81, lv, [.int (v2 ||| (1 <<< (v4 &&& 31))), .ref 54, .int (v2 ||| (1 <<< (v4 &&& 31))), .ref 54])) (hp' := xW B q55.2) (q := (.dup2, 1, 0, 0, .null)) rfl (fun _ => rfl) (Nat.le_refl _) ?_
        obtain ⟨c1, h⟩ := xif h
        refine q_al (n := 64) (v := (q55.2.1 54 ((v2 ||| (1 <<< (v4 &&& 31))) : Int32).toNatClampNeg)) H (pc := 81) rfl (by decide) c1 rfl ?_
        refine r_s (fr' := (83, lv, [.int 1, .int (q55.2.1 54 ((v2 ||| (1 <<< (v4 &&& 31))) : Int32).toNatClampNeg), .int (v2 ||| (1 <<< (v4 &&& 31))), .ref 54])) (hp' := xW B q55.2) (q := (.iconst 1, 1, 0, 0, .null)) rfl (fun _ => rfl) (Nat.le_refl _) ?_
        refine q_li (k := 2) (i := 4) (q := (.iload 4, 2, 0, 0, .null)) rfl (fun _ => rfl) l4 ?_
        refine r_s (fr' := (86, lv, [.int (1 <<< (v4 &&& 31)), .int (q55.2.1 54 ((v2 ||| (1 <<< (v4 &&& 31))) : Int32).toNatClampNeg), .int (v2 ||| (1 <<< (v4 &&& 31))), .ref 54])) (hp' := xW B q55.2) (q := (.ishl, 1, 0, 0, .null)) rfl (fun _ => rfl) (Nat.le_refl _) ?_
        refine r_s (fr' := (87, lv, [.int ((q55.2.1 54 ((v2 ||| (1 <<< (v4 &&& 31))) : Int32).toNatClampNeg) ||| (1 <<< (v4 &&& 31))), .int (v2 ||| (1 <<< (v4 &&& 31))), .ref 54])) (hp' := xW B q55.2) (q := (.ior, 1, 0, 0, .null)) rfl (fun _ => rfl) (Nat.le_refl _) ?_
        obtain ⟨c2, h⟩ := xif h
        refine q_as (n := 64) (s2 := (xu q55.2 54 ((v2 ||| (1 <<< (v4 &&& 31))) : Int32).toNatClampNeg ((q55.2.1 54 ((v2 ||| (1 <<< (v4 &&& 31))) : Int32).toNatClampNeg) ||| (1 <<< (v4 &&& 31))))) H (pc := 87) rfl (by decide) c2 rfl ?_
        exact T3_51_11t_88 H he F _ ih l0 l1 l2 l3 l4 h
def D3_51_11t_5 (F : Nat) : Nat → Int32 → Int32 → Int32 → xS → Option (Unit × xS)
  | 0, _, _, _, _ => none
  | f + 1, v2, v3, v4, m =>
    (D77_11t F m).bind fun q8 =>
      if zcmp .ge v4 q8.1 = true then
        D3_51_11t_52 F F v2 (v3 &&& (v2 ^^^ (-1))) 0 q8.2
      else
        if xib v2 64 = true then
          if zcmp .eq (((q8.2.1 54 (v2 : Int32).toNatClampNeg) >>> (v4 &&& 31)) &&& 1) 0 = true then
            D3_51_11t_37 F (D3_51_11t_5 F f) v2 v3 v4 q8.2
          else
            (D91_11t F v4 q8.2).bind fun q32 =>
              D3_51_11t_37 F (D3_51_11t_5 F f) v2 (v3 ||| q32.1) v4 q32.2
        else none
set_option maxRecDepth 20000 in
theorem T3_51_11t_5 {B : zHp} (H : yH0 B) {e : Nat} (he : 2 ≤ e + 1) (F : Nat) : ∀ (f : Nat) {v2 : Int32} {v3 : Int32} {v4 : Int32} {lv : List (Nat × Value)} {m : xS} {x : Unit × xS}, zld lv 0 = some (.ref 51) → zld lv 1 = some (.ref 11) → zld lv 2 = some (.int v2) → zld lv 3 = some (.int v3) → zld lv 4 = some (.int v4) → D3_51_11t_5 F f v2 v3 v4 m = some x → zR none e 5 none zc3 (5, lv, []) (xW B m) (none, xW B x.2) := by
  intro f
  induction f with
  | zero => intro v2 v3 v4 lv m x l0 l1 l2 l3 l4 h; cases h
  | succ f ih =>
    intro v2 v3 v4 lv m x l0 l1 l2 l3 l4 h
    unfold D3_51_11t_5 at h
    refine q_li (k := 2) (i := 4) (q := (.iload 4, 2, 0, 0, .null)) rfl (fun _ => rfl) l4 ?_
    refine q_lr (k := 1) (i := 1) (q := (.aload_n 1, 1, 0, 0, .null)) rfl (fun _ => rfl) l1 ?_
    obtain ⟨q8, h8, h⟩ := xbind h
    refine r_call (ix := 11) (as := []) (rest := [.int v4]) (rv := some (.int q8.1)) (hp' := xW B q8.2) (pc := 8) rfl xr77 rfl rfl rfl (xkd H (by decide)) (Nat.le_of_ble_eq_true rfl) (Z77_11t H h8 (by omega)) (Nat.le_refl _) ?_
    refine r_ifc (len := 3) (a := 43) (b := 0) (v0 := .null) (cn := .ge) (off := 32) rfl (fun c => ?_) (fun c => ?_)
    · rw [if_pos c] at h
      refine q_li (k := 1) (i := 3) (q := (.iload_n 3, 1, 0, 0, .null)) rfl (fun _ => rfl) l3 ?_
      refine q_li (k := 1) (i := 2) (q := (.iload_n 2, 1, 0, 0, .null)) rfl (fun _ => rfl) l2 ?_
      refine r_s (fr' := (46, lv, [.int (-1), .int v2, .int v3])) (hp' := xW B q8.2) (q := (.iconst (-1), 1, 0, 0, .null)) rfl (fun _ => rfl) (Nat.le_refl _) ?_
      refine r_s (fr' := (47, lv, [.int (v2 ^^^ (-1)), .int v3])) (hp' := xW B q8.2) (q := (.ixor, 1, 0, 0, .null)) rfl (fun _ => rfl) (Nat.le_refl _) ?_
      refine r_s (fr' := (48, lv, [.int (v3 &&& (v2 ^^^ (-1)))])) (hp' := xW B q8.2) (q := (.iand, 1, 0, 0, .null)) rfl (fun _ => rfl) (Nat.le_refl _) ?_
      refine q_si (k := 1) (i := 3) (q := (.istore_n 3, 1, 0, 0, .null)) rfl (fun _ => rfl) (by decide) ?_
      have l0_1 : zld (zs1 lv 3 (.int (v3 &&& (v2 ^^^ (-1))))) 0 = some (.ref 51) := x_o1 l0 rfl rfl
      have l1_1 : zld (zs1 lv 3 (.int (v3 &&& (v2 ^^^ (-1))))) 1 = some (.ref 11) := x_o1 l1 rfl rfl
      have l2_1 : zld (zs1 lv 3 (.int (v3 &&& (v2 ^^^ (-1))))) 2 = some (.int v2) := x_o1 l2 rfl rfl
      have l3_1 : zld (zs1 lv 3 (.int (v3 &&& (v2 ^^^ (-1))))) 3 = some (.int (v3 &&& (v2 ^^^ (-1)))) := zs1_ld _ _ _
      have l4_1 : zld (zs1 lv 3 (.int (v3 &&& (v2 ^^^ (-1))))) 4 = some (.int v4) := x_o1 l4 rfl rfl
      generalize (zs1 lv 3 (.int (v3 &&& (v2 ^^^ (-1))))) = lv1 at *
      refine r_s (fr' := (50, lv1, [.int 0])) (hp' := xW B q8.2) (q := (.iconst 0, 1, 0, 0, .null)) rfl (fun _ => rfl) (Nat.le_refl _) ?_
      refine q_si (k := 2) (i := 4) (q := (.istore 4, 2, 0, 0, .null)) rfl (fun _ => rfl) (by decide) ?_
      have l0_2 : zld (zs1 lv1 4 (.int 0)) 0 = some (.ref 51) := x_o1 l0_1 rfl rfl
      have l1_2 : zld (zs1 lv1 4 (.int 0)) 1 = some (.ref 11) := x_o1 l1_1 rfl rfl
      have l2_2 : zld (zs1 lv1 4 (.int 0)) 2 = some (.int v2) := x_o1 l2_1 rfl rfl
      have l3_2 : zld (zs1 lv1 4 (.int 0)) 3 = some (.int (v3 &&& (v2 ^^^ (-1)))) := x_o1 l3_1 rfl rfl
      have l4_2 : zld (zs1 lv1 4 (.int 0)) 4 = some (.int 0) := zs1_ld _ _ _
      generalize (zs1 lv1 4 (.int 0)) = lv2 at *
      exact T3_51_11t_52 H he F F l0_2 l1_2 l2_2 l3_2 l4_2 h
    · rw [if_neg (by rw [c]; decide)] at h
      refine q_lr (k := 1) (i := 0) (q := (.aload_n 0, 1, 0, 0, .null)) rfl (fun _ => rfl) l0 ?_
      refine r_gr (c := 54) H (pc := 15) rfl (by decide) (by decide) ?_
      refine q_li (k := 1) (i := 2) (q := (.iload_n 2, 1, 0, 0, .null)) rfl (fun _ => rfl) l2 ?_
      obtain ⟨c3, h⟩ := xif h
      refine q_al (n := 64) (v := (q8.2.1 54 (v2 : Int32).toNatClampNeg)) H (pc := 19) rfl (by decide) c3 rfl ?_
      refine q_li (k := 2) (i := 4) (q := (.iload 4, 2, 0, 0, .null)) rfl (fun _ => rfl) l4 ?_
      refine r_s (fr' := (23, lv, [.int ((q8.2.1 54 (v2 : Int32).toNatClampNeg) >>> (v4 &&& 31))])) (hp' := xW B q8.2) (q := (.ishr, 1, 0, 0, .null)) rfl (fun _ => rfl) (Nat.le_refl _) ?_
      refine r_s (fr' := (24, lv, [.int 1, .int ((q8.2.1 54 (v2 : Int32).toNatClampNeg) >>> (v4 &&& 31))])) (hp' := xW B q8.2) (q := (.iconst 1, 1, 0, 0, .null)) rfl (fun _ => rfl) (Nat.le_refl _) ?_
      refine r_s (fr' := (25, lv, [.int (((q8.2.1 54 (v2 : Int32).toNatClampNeg) >>> (v4 &&& 31)) &&& 1)])) (hp' := xW B q8.2) (q := (.iand, 1, 0, 0, .null)) rfl (fun _ => rfl) (Nat.le_refl _) ?_
      refine r_if (len := 3) (a := 37) (b := 0) (v0 := .null) (cn := .eq) (off := 12) rfl (fun c => ?_) (fun c => ?_)
      · rw [if_pos c] at h
        exact T3_51_11t_37 H he F _ ih l0 l1 l2 l3 l4 h
      · rw [if_neg (by rw [c]; decide)] at h
        refine q_li (k := 1) (i := 3) (q := (.iload_n 3, 1, 0, 0, .null)) rfl (fun _ => rfl) l3 ?_
        refine q_lr (k := 1) (i := 1) (q := (.aload_n 1, 1, 0, 0, .null)) rfl (fun _ => rfl) l1 ?_
        refine q_li (k := 2) (i := 4) (q := (.iload 4, 2, 0, 0, .null)) rfl (fun _ => rfl) l4 ?_
        obtain ⟨q32, h32, h⟩ := xbind h
        refine r_call (ix := 11) (as := [.int v4]) (rest := [.int v3]) (rv := some (.int q32.1)) (hp' := xW B q32.2) (pc := 32) rfl xr91 rfl rfl rfl (xkd H (by decide)) (Nat.le_of_ble_eq_true rfl) (Z91_11t H h32 (by omega)) (Nat.le_refl _) ?_
        refine r_s (fr' := (36, lv, [.int (v3 ||| q32.1)])) (hp' := xW B q32.2) (q := (.ior, 1, 0, 0, .null)) rfl (fun _ => rfl) (Nat.le_refl _) ?_
        refine q_si (k := 1) (i := 3) (q := (.istore_n 3, 1, 0, 0, .null)) rfl (fun _ => rfl) (by decide) ?_
        have l0_4 : zld (zs1 lv 3 (.int (v3 ||| q32.1))) 0 = some (.ref 51) := x_o1 l0 rfl rfl
        have l1_4 : zld (zs1 lv 3 (.int (v3 ||| q32.1))) 1 = some (.ref 11) := x_o1 l1 rfl rfl
        have l2_4 : zld (zs1 lv 3 (.int (v3 ||| q32.1))) 2 = some (.int v2) := x_o1 l2 rfl rfl
        have l3_4 : zld (zs1 lv 3 (.int (v3 ||| q32.1))) 3 = some (.int (v3 ||| q32.1)) := zs1_ld _ _ _
        have l4_4 : zld (zs1 lv 3 (.int (v3 ||| q32.1))) 4 = some (.int v4) := x_o1 l4 rfl rfl
        generalize (zs1 lv 3 (.int (v3 ||| q32.1))) = lv4 at *
        exact T3_51_11t_37 H he F _ ih l0_4 l1_4 l2_4 l3_4 l4_4 h
def D3_51_11t (F : Nat) (v2 : Int32) (m : xS) : Option (Unit × xS) :=
  D3_51_11t_5 F F v2 0 0 m
set_option maxRecDepth 20000 in
theorem T3_51_11t {B : zHp} (H : yH0 B) {e : Nat} (he : 2 ≤ e + 1) (F : Nat) {v2 : Int32} {lv : List (Nat × Value)} {m : xS} {x : Unit × xS} (l0 : zld lv 0 = some (.ref 51)) (l1 : zld lv 1 = some (.ref 11)) (l2 : zld lv 2 = some (.int v2)) (h : D3_51_11t F v2 m = some x) : zR none e 5 none zc3 (0, lv, []) (xW B m) (none, xW B x.2) := by
  unfold D3_51_11t at h
  refine r_s (fr' := (1, lv, [.int 0])) (hp' := xW B m) (q := (.iconst 0, 1, 0, 0, .null)) rfl (fun _ => rfl) (Nat.le_refl _) ?_
  refine q_si (k := 1) (i := 3) (q := (.istore_n 3, 1, 0, 0, .null)) rfl (fun _ => rfl) (by decide) ?_
  have l0_1 : zld (zs1 lv 3 (.int 0)) 0 = some (.ref 51) := x_o1 l0 rfl rfl
  have l1_1 : zld (zs1 lv 3 (.int 0)) 1 = some (.ref 11) := x_o1 l1 rfl rfl
  have l2_1 : zld (zs1 lv 3 (.int 0)) 2 = some (.int v2) := x_o1 l2 rfl rfl
  have l3_1 : zld (zs1 lv 3 (.int 0)) 3 = some (.int 0) := zs1_ld _ _ _
  generalize (zs1 lv 3 (.int 0)) = lv1 at *
  refine r_s (fr' := (3, lv1, [.int 0])) (hp' := xW B m) (q := (.iconst 0, 1, 0, 0, .null)) rfl (fun _ => rfl) (Nat.le_refl _) ?_
  refine q_si (k := 2) (i := 4) (q := (.istore 4, 2, 0, 0, .null)) rfl (fun _ => rfl) (by decide) ?_
  have l0_2 : zld (zs1 lv1 4 (.int 0)) 0 = some (.ref 51) := x_o1 l0_1 rfl rfl
  have l1_2 : zld (zs1 lv1 4 (.int 0)) 1 = some (.ref 11) := x_o1 l1_1 rfl rfl
  have l2_2 : zld (zs1 lv1 4 (.int 0)) 2 = some (.int v2) := x_o1 l2_1 rfl rfl
  have l3_2 : zld (zs1 lv1 4 (.int 0)) 3 = some (.int 0) := x_o1 l3_1 rfl rfl
  have l4_2 : zld (zs1 lv1 4 (.int 0)) 4 = some (.int 0) := zs1_ld _ _ _
  generalize (zs1 lv1 4 (.int 0)) = lv2 at *
  exact T3_51_11t_5 H he F F l0_2 l1_2 l2_2 l3_2 l4_2 h
set_option maxRecDepth 20000 in
theorem Z3_51_11t {B : zHp} (H : yH0 B) {F : Nat} {a2 : Int32} {m : xS} {x : Unit × xS} (h : D3_51_11t F a2 m = some x) {d : Nat} (hd : 2 ≤ d) : zCan d 3 [.ref 51, .ref 11, .int a2] (xW B m) (none, xW B x.2) := by
  obtain ⟨e, rfl⟩ : ∃ e, d = e + 1 := ⟨d - 1, by omega⟩
  refine zCan_body (nL := 5) (rt := none) (cd := zc3) (xg3) ⟨Nat.le_of_ble_eq_true rfl, by decide⟩ (Nat.le_refl _) ?_
  exact T3_51_11t H hd F rfl rfl rfl h
/-- LentTools$Chains.measure -/
def D1_51_11t_124 (F : Nat) (g67 : Int32 → Int32 → Int32 → Int32 → Int32 → xS → Option (Unit × xS)) (v2 : Int32) (v3 : Int32) (v4 : Int32) (v5 : Int32) (v6 : Int32) (m : xS) : Option (Unit × xS) :=
  g67 v2 v3 v4 v5 (v6 + Int32.ofInt 1) m
set_option maxRecDepth 20000 in
theorem T1_51_11t_124 {B : zHp} (H : yH0 B) {e : Nat} (he : 3 ≤ e + 1) (F : Nat) (g67 : Int32 → Int32 → Int32 → Int32 → Int32 → xS → Option (Unit × xS)) (k67 : ∀ {v2 : Int32} {v3 : Int32} {v4 : Int32} {v5 : Int32} {v6 : Int32} {lv : List (Nat × Value)} {m : xS} {x : Unit × xS}, zld lv 0 = some (.ref 51) → zld lv 1 = some (.ref 11) → zld lv 2 = some (.int v2) → zld lv 3 = some (.int v3) → zld lv 4 = some (.int v4) → zld lv 5 = some (.int v5) → zld lv 6 = some (.int v6) → g67 v2 v3 v4 v5 v6 m = some x → zR none e 7 none zc1 (67, lv, []) (xW B m) (none, xW B x.2)) {v2 : Int32} {v3 : Int32} {v4 : Int32} {v5 : Int32} {v6 : Int32} {lv : List (Nat × Value)} {m : xS} {x : Unit × xS} (l0 : zld lv 0 = some (.ref 51)) (l1 : zld lv 1 = some (.ref 11)) (l2 : zld lv 2 = some (.int v2)) (l3 : zld lv 3 = some (.int v3)) (l4 : zld lv 4 = some (.int v4)) (l5 : zld lv 5 = some (.int v5)) (l6 : zld lv 6 = some (.int v6)) (h : D1_51_11t_124 F g67 v2 v3 v4 v5 v6 m = some x) : zR none e 7 none zc1 (124, lv, []) (xW B m) (none, xW B x.2) := by
  unfold D1_51_11t_124 at h
  refine q_inc (i := 6) (n := 1) (q := (.iinc 6 1, 3, 0, 0, .null)) rfl (fun _ => rfl) l6 (by decide) ?_
  have l0_1 : zld (zs1 lv 6 (.int (v6 + Int32.ofInt 1))) 0 = some (.ref 51) := x_o1 l0 rfl rfl
  have l1_1 : zld (zs1 lv 6 (.int (v6 + Int32.ofInt 1))) 1 = some (.ref 11) := x_o1 l1 rfl rfl
  have l2_1 : zld (zs1 lv 6 (.int (v6 + Int32.ofInt 1))) 2 = some (.int v2) := x_o1 l2 rfl rfl
  have l3_1 : zld (zs1 lv 6 (.int (v6 + Int32.ofInt 1))) 3 = some (.int v3) := x_o1 l3 rfl rfl
  have l4_1 : zld (zs1 lv 6 (.int (v6 + Int32.ofInt 1))) 4 = some (.int v4) := x_o1 l4 rfl rfl
  have l5_1 : zld (zs1 lv 6 (.int (v6 + Int32.ofInt 1))) 5 = some (.int v5) := x_o1 l5 rfl rfl
  have l6_1 : zld (zs1 lv 6 (.int (v6 + Int32.ofInt 1))) 6 = some (.int (v6 + Int32.ofInt 1)) := zs1_ld _ _ _
  generalize (zs1 lv 6 (.int (v6 + Int32.ofInt 1))) = lv1 at *
  refine r_s (fr' := (67, lv1, [])) (hp' := xW B m) (q := (.goto (-60), 3, 67, 0, .null)) rfl (fun _ => rfl) (Nat.le_refl _) ?_
  exact k67 l0_1 l1_1 l2_1 l3_1 l4_1 l5_1 l6_1 h
def D1_51_11t_67 (F : Nat) : Nat → Int32 → Int32 → Int32 → Int32 → Int32 → xS → Option (Unit × xS)
  | 0, _, _, _, _, _, _ => none
  | f + 1, v2, v3, v4, v5, v6, m =>
    if zcmp .ge v6 v5 = true then
      some ((), m)
    else
      if zcmp .ge v6 (Int32.ofNat 64) = true then
        some ((), m)
      else
        if xib v6 64 = true then
          if zcmp .eq (m.1 54 (v6 : Int32).toNatClampNeg) 0 = true then
            D1_51_11t_124 F (D1_51_11t_67 F f) v2 v3 v4 v5 v6 m
          else
            (D77_11t F m).bind fun q96 =>
              if xib v6 64 = true then
                (D280 F (v6 ^^^ v4) q96.2).bind fun q111 =>
                  (D2_51 F q96.1 (q96.2.1 54 (v6 : Int32).toNatClampNeg) q111.1 q111.2).bind fun q114 =>
                    (D3_51_11t F v6 q114.2).bind fun q121 =>
                      D1_51_11t_124 F (D1_51_11t_67 F f) v2 v3 v4 v5 v6 q121.2
              else none
        else none
set_option maxRecDepth 20000 in
theorem T1_51_11t_67 {B : zHp} (H : yH0 B) {e : Nat} (he : 3 ≤ e + 1) (F : Nat) : ∀ (f : Nat) {v2 : Int32} {v3 : Int32} {v4 : Int32} {v5 : Int32} {v6 : Int32} {lv : List (Nat × Value)} {m : xS} {x : Unit × xS}, zld lv 0 = some (.ref 51) → zld lv 1 = some (.ref 11) → zld lv 2 = some (.int v2) → zld lv 3 = some (.int v3) → zld lv 4 = some (.int v4) → zld lv 5 = some (.int v5) → zld lv 6 = some (.int v6) → D1_51_11t_67 F f v2 v3 v4 v5 v6 m = some x → zR none e 7 none zc1 (67, lv, []) (xW B m) (none, xW B x.2) := by
  intro f
  induction f with
  | zero => intro v2 v3 v4 v5 v6 lv m x l0 l1 l2 l3 l4 l5 l6 h; cases h
  | succ f ih =>
    intro v2 v3 v4 v5 v6 lv m x l0 l1 l2 l3 l4 l5 l6 h
    unfold D1_51_11t_67 at h
    refine q_li (k := 2) (i := 6) (q := (.iload 6, 2, 0, 0, .null)) rfl (fun _ => rfl) l6 ?_
    refine q_li (k := 2) (i := 5) (q := (.iload 5, 2, 0, 0, .null)) rfl (fun _ => rfl) l5 ?_
    refine r_ifc (len := 3) (a := 130) (b := 0) (v0 := .null) (cn := .ge) (off := 59) rfl (fun c => ?_) (fun c => ?_)
    · rw [if_pos c] at h
      obtain rfl := Option.some.inj h
      exact r_ret (q := (.return_, 1, 0, 0, .null)) rfl rfl (fun _ => rfl)
    · rw [if_neg (by rw [c]; decide)] at h
      refine q_li (k := 2) (i := 6) (q := (.iload 6, 2, 0, 0, .null)) rfl (fun _ => rfl) l6 ?_
      refine q_lr (k := 1) (i := 0) (q := (.aload_n 0, 1, 0, 0, .null)) rfl (fun _ => rfl) l0 ?_
      refine r_gr (c := 54) H (pc := 77) rfl (by decide) (by decide) ?_
      refine q_len (n := 64) (k := 0) H (pc := 80) rfl (by decide) ?_
      refine r_ifc (len := 3) (a := 130) (b := 0) (v0 := .null) (cn := .ge) (off := 49) rfl (fun c => ?_) (fun c => ?_)
      · rw [if_pos c] at h
        obtain rfl := Option.some.inj h
        exact r_ret (q := (.return_, 1, 0, 0, .null)) rfl rfl (fun _ => rfl)
      · rw [if_neg (by rw [c]; decide)] at h
        refine q_lr (k := 1) (i := 0) (q := (.aload_n 0, 1, 0, 0, .null)) rfl (fun _ => rfl) l0 ?_
        refine r_gr (c := 54) H (pc := 85) rfl (by decide) (by decide) ?_
        refine q_li (k := 2) (i := 6) (q := (.iload 6, 2, 0, 0, .null)) rfl (fun _ => rfl) l6 ?_
        obtain ⟨c1, h⟩ := xif h
        refine q_al (n := 64) (v := (m.1 54 (v6 : Int32).toNatClampNeg)) H (pc := 90) rfl (by decide) c1 rfl ?_
        refine r_if (len := 3) (a := 124) (b := 0) (v0 := .null) (cn := .eq) (off := 33) rfl (fun c => ?_) (fun c => ?_)
        · rw [if_pos c] at h
          exact T1_51_11t_124 H he F _ ih l0 l1 l2 l3 l4 l5 l6 h
        · rw [if_neg (by rw [c]; decide)] at h
          refine q_lr (k := 1) (i := 0) (q := (.aload_n 0, 1, 0, 0, .null)) rfl (fun _ => rfl) l0 ?_
          refine q_lr (k := 1) (i := 1) (q := (.aload_n 1, 1, 0, 0, .null)) rfl (fun _ => rfl) l1 ?_
          obtain ⟨q96, h96, h⟩ := xbind h
          refine r_call (ix := 11) (as := []) (rest := [.ref 51]) (rv := some (.int q96.1)) (hp' := xW B q96.2) (pc := 96) rfl xr77 rfl rfl rfl (xkd H (by decide)) (Nat.le_of_ble_eq_true rfl) (Z77_11t H h96 (by omega)) (Nat.le_refl _) ?_
          refine q_lr (k := 1) (i := 0) (q := (.aload_n 0, 1, 0, 0, .null)) rfl (fun _ => rfl) l0 ?_
          refine r_gr (c := 54) H (pc := 100) rfl (by decide) (by decide) ?_
          refine q_li (k := 2) (i := 6) (q := (.iload 6, 2, 0, 0, .null)) rfl (fun _ => rfl) l6 ?_
          obtain ⟨c2, h⟩ := xif h
          refine q_al (n := 64) (v := (q96.2.1 54 (v6 : Int32).toNatClampNeg)) H (pc := 105) rfl (by decide) c2 rfl ?_
          refine q_li (k := 2) (i := 6) (q := (.iload 6, 2, 0, 0, .null)) rfl (fun _ => rfl) l6 ?_
          refine q_li (k := 2) (i := 4) (q := (.iload 4, 2, 0, 0, .null)) rfl (fun _ => rfl) l4 ?_
          refine r_s (fr' := (111, lv, [.int (v6 ^^^ v4), .int (q96.2.1 54 (v6 : Int32).toNatClampNeg), .int q96.1, .ref 51])) (hp' := xW B q96.2) (q := (.ixor, 1, 0, 0, .null)) rfl (fun _ => rfl) (Nat.le_refl _) ?_
          obtain ⟨q111, h111, h⟩ := xbind h
          refine r_callS (as := [.int (v6 ^^^ v4)]) (rest := [.int (q96.2.1 54 (v6 : Int32).toNatClampNeg), .int q96.1, .ref 51]) (rv := some (.int q111.1)) (hp' := xW B q111.2) (pc := 111) rfl xr280 rfl rfl rfl (Nat.le_of_ble_eq_true rfl) (Z280 H h111 (by omega)) (Nat.le_refl _) ?_
          obtain ⟨q114, h114, h⟩ := xbind h
          refine r_call (ix := 51) (as := [.int q96.1, .int (q96.2.1 54 (v6 : Int32).toNatClampNeg), .int q111.1]) (rest := []) (rv := none) (hp' := xW B q114.2) (pc := 114) rfl xr2 rfl rfl rfl (xkd H (by decide)) (Nat.le_of_ble_eq_true rfl) (Z2_51 H h114 (by omega)) (Nat.le_refl _) ?_
          refine q_lr (k := 1) (i := 0) (q := (.aload_n 0, 1, 0, 0, .null)) rfl (fun _ => rfl) l0 ?_
          refine q_lr (k := 1) (i := 1) (q := (.aload_n 1, 1, 0, 0, .null)) rfl (fun _ => rfl) l1 ?_
          refine q_li (k := 2) (i := 6) (q := (.iload 6, 2, 0, 0, .null)) rfl (fun _ => rfl) l6 ?_
          obtain ⟨q121, h121, h⟩ := xbind h
          refine r_call (ix := 51) (as := [.ref 11, .int v6]) (rest := []) (rv := none) (hp' := xW B q121.2) (pc := 121) rfl xr3 rfl rfl rfl (xkd H (by decide)) (Nat.le_of_ble_eq_true rfl) (Z3_51_11t H h121 (by omega)) (Nat.le_refl _) ?_
          exact T1_51_11t_124 H he F _ ih l0 l1 l2 l3 l4 l5 l6 h
def D1_51_11t (F : Nat) (v2 : Int32) (m : xS) : Option (Unit × xS) :=
  (D291_52 F (-1) m).bind fun q5 =>
    (D291_53 F (-1) q5.2).bind fun q13 =>
      (D291_54 F 0 q13.2).bind fun q21 =>
        (D87_11t F v2 3 q21.2).bind fun q27 =>
          (D87_11t F v2 0 q27.2).bind fun q38 =>
            if xib ((1 <<< (q27.1 &&& 31)) ||| (1 <<< (q38.1 &&& 31))) 64 = true then
              (D77_11t F (xu q38.2 54 (((1 <<< (q27.1 &&& 31)) ||| (1 <<< (q38.1 &&& 31))) : Int32).toNatClampNeg (1 <<< (q27.1 &&& 31)))).bind fun q57 =>
                D1_51_11t_67 F F v2 q27.1 ((1 <<< (q27.1 &&& 31)) ||| (1 <<< (q38.1 &&& 31))) (1 <<< (q57.1 &&& 31)) ((1 <<< (q27.1 &&& 31)) ||| (1 <<< (q38.1 &&& 31))) q57.2
            else none
set_option maxRecDepth 20000 in
theorem T1_51_11t {B : zHp} (H : yH0 B) {e : Nat} (he : 3 ≤ e + 1) (F : Nat) {v2 : Int32} {lv : List (Nat × Value)} {m : xS} {x : Unit × xS} (l0 : zld lv 0 = some (.ref 51)) (l1 : zld lv 1 = some (.ref 11)) (l2 : zld lv 2 = some (.int v2)) (h : D1_51_11t F v2 m = some x) : zR none e 7 none zc1 (0, lv, []) (xW B m) (none, xW B x.2) := by
  unfold D1_51_11t at h
  refine q_lr (k := 1) (i := 0) (q := (.aload_n 0, 1, 0, 0, .null)) rfl (fun _ => rfl) l0 ?_
  refine r_gr (c := 52) H (pc := 1) rfl (by decide) (by decide) ?_
  refine r_s (fr' := (5, lv, [.int (-1), .ref 52])) (hp' := xW B m) (q := (.iconst (-1), 1, 0, 0, .null)) rfl (fun _ => rfl) (Nat.le_refl _) ?_
  obtain ⟨q5, h5, h⟩ := xbind h
  refine r_callS (as := [.ref 52, .int (-1)]) (rest := []) (rv := none) (hp' := xW B q5.2) (pc := 5) rfl xr291 rfl rfl rfl (Nat.le_of_ble_eq_true rfl) (Z291_52 H h5 (by omega)) (Nat.le_refl _) ?_
  refine q_lr (k := 1) (i := 0) (q := (.aload_n 0, 1, 0, 0, .null)) rfl (fun _ => rfl) l0 ?_
  refine r_gr (c := 53) H (pc := 9) rfl (by decide) (by decide) ?_
  refine r_s (fr' := (13, lv, [.int (-1), .ref 53])) (hp' := xW B q5.2) (q := (.iconst (-1), 1, 0, 0, .null)) rfl (fun _ => rfl) (Nat.le_refl _) ?_
  obtain ⟨q13, h13, h⟩ := xbind h
  refine r_callS (as := [.ref 53, .int (-1)]) (rest := []) (rv := none) (hp' := xW B q13.2) (pc := 13) rfl xr291 rfl rfl rfl (Nat.le_of_ble_eq_true rfl) (Z291_53 H h13 (by omega)) (Nat.le_refl _) ?_
  refine q_lr (k := 1) (i := 0) (q := (.aload_n 0, 1, 0, 0, .null)) rfl (fun _ => rfl) l0 ?_
  refine r_gr (c := 54) H (pc := 17) rfl (by decide) (by decide) ?_
  refine r_s (fr' := (21, lv, [.int 0, .ref 54])) (hp' := xW B q13.2) (q := (.iconst 0, 1, 0, 0, .null)) rfl (fun _ => rfl) (Nat.le_refl _) ?_
  obtain ⟨q21, h21, h⟩ := xbind h
  refine r_callS (as := [.ref 54, .int 0]) (rest := []) (rv := none) (hp' := xW B q21.2) (pc := 21) rfl xr291 rfl rfl rfl (Nat.le_of_ble_eq_true rfl) (Z291_54 H h21 (by omega)) (Nat.le_refl _) ?_
  refine q_lr (k := 1) (i := 1) (q := (.aload_n 1, 1, 0, 0, .null)) rfl (fun _ => rfl) l1 ?_
  refine q_li (k := 1) (i := 2) (q := (.iload_n 2, 1, 0, 0, .null)) rfl (fun _ => rfl) l2 ?_
  refine r_s (fr' := (27, lv, [.int 3, .int v2, .ref 11])) (hp' := xW B q21.2) (q := (.iconst 3, 1, 0, 0, .null)) rfl (fun _ => rfl) (Nat.le_refl _) ?_
  obtain ⟨q27, h27, h⟩ := xbind h
  refine r_call (ix := 11) (as := [.int v2, .int 3]) (rest := []) (rv := some (.int q27.1)) (hp' := xW B q27.2) (pc := 27) rfl xr87 rfl rfl rfl (xkd H (by decide)) (Nat.le_of_ble_eq_true rfl) (Z87_11t H h27 (by omega)) (Nat.le_refl _) ?_
  refine q_si (k := 1) (i := 3) (q := (.istore_n 3, 1, 0, 0, .null)) rfl (fun _ => rfl) (by decide) ?_
  have l0_1 : zld (zs1 lv 3 (.int q27.1)) 0 = some (.ref 51) := x_o1 l0 rfl rfl
  have l1_1 : zld (zs1 lv 3 (.int q27.1)) 1 = some (.ref 11) := x_o1 l1 rfl rfl
  have l2_1 : zld (zs1 lv 3 (.int q27.1)) 2 = some (.int v2) := x_o1 l2 rfl rfl
  have l3_1 : zld (zs1 lv 3 (.int q27.1)) 3 = some (.int q27.1) := zs1_ld _ _ _
  generalize (zs1 lv 3 (.int q27.1)) = lv1 at *
  refine r_s (fr' := (32, lv1, [.int 1])) (hp' := xW B q27.2) (q := (.iconst 1, 1, 0, 0, .null)) rfl (fun _ => rfl) (Nat.le_refl _) ?_
  refine q_li (k := 1) (i := 3) (q := (.iload_n 3, 1, 0, 0, .null)) rfl (fun _ => rfl) l3_1 ?_
  refine r_s (fr' := (34, lv1, [.int (1 <<< (q27.1 &&& 31))])) (hp' := xW B q27.2) (q := (.ishl, 1, 0, 0, .null)) rfl (fun _ => rfl) (Nat.le_refl _) ?_
  refine r_s (fr' := (35, lv1, [.int 1, .int (1 <<< (q27.1 &&& 31))])) (hp' := xW B q27.2) (q := (.iconst 1, 1, 0, 0, .null)) rfl (fun _ => rfl) (Nat.le_refl _) ?_
  refine q_lr (k := 1) (i := 1) (q := (.aload_n 1, 1, 0, 0, .null)) rfl (fun _ => rfl) l1_1 ?_
  refine q_li (k := 1) (i := 2) (q := (.iload_n 2, 1, 0, 0, .null)) rfl (fun _ => rfl) l2_1 ?_
  refine r_s (fr' := (38, lv1, [.int 0, .int v2, .ref 11, .int 1, .int (1 <<< (q27.1 &&& 31))])) (hp' := xW B q27.2) (q := (.iconst 0, 1, 0, 0, .null)) rfl (fun _ => rfl) (Nat.le_refl _) ?_
  obtain ⟨q38, h38, h⟩ := xbind h
  refine r_call (ix := 11) (as := [.int v2, .int 0]) (rest := [.int 1, .int (1 <<< (q27.1 &&& 31))]) (rv := some (.int q38.1)) (hp' := xW B q38.2) (pc := 38) rfl xr87 rfl rfl rfl (xkd H (by decide)) (Nat.le_of_ble_eq_true rfl) (Z87_11t H h38 (by omega)) (Nat.le_refl _) ?_
  refine r_s (fr' := (42, lv1, [.int (1 <<< (q38.1 &&& 31)), .int (1 <<< (q27.1 &&& 31))])) (hp' := xW B q38.2) (q := (.ishl, 1, 0, 0, .null)) rfl (fun _ => rfl) (Nat.le_refl _) ?_
  refine r_s (fr' := (43, lv1, [.int ((1 <<< (q27.1 &&& 31)) ||| (1 <<< (q38.1 &&& 31)))])) (hp' := xW B q38.2) (q := (.ior, 1, 0, 0, .null)) rfl (fun _ => rfl) (Nat.le_refl _) ?_
  refine q_si (k := 2) (i := 4) (q := (.istore 4, 2, 0, 0, .null)) rfl (fun _ => rfl) (by decide) ?_
  have l0_2 : zld (zs1 lv1 4 (.int ((1 <<< (q27.1 &&& 31)) ||| (1 <<< (q38.1 &&& 31))))) 0 = some (.ref 51) := x_o1 l0_1 rfl rfl
  have l1_2 : zld (zs1 lv1 4 (.int ((1 <<< (q27.1 &&& 31)) ||| (1 <<< (q38.1 &&& 31))))) 1 = some (.ref 11) := x_o1 l1_1 rfl rfl
  have l2_2 : zld (zs1 lv1 4 (.int ((1 <<< (q27.1 &&& 31)) ||| (1 <<< (q38.1 &&& 31))))) 2 = some (.int v2) := x_o1 l2_1 rfl rfl
  have l3_2 : zld (zs1 lv1 4 (.int ((1 <<< (q27.1 &&& 31)) ||| (1 <<< (q38.1 &&& 31))))) 3 = some (.int q27.1) := x_o1 l3_1 rfl rfl
  have l4_2 : zld (zs1 lv1 4 (.int ((1 <<< (q27.1 &&& 31)) ||| (1 <<< (q38.1 &&& 31))))) 4 = some (.int ((1 <<< (q27.1 &&& 31)) ||| (1 <<< (q38.1 &&& 31)))) := zs1_ld _ _ _
  generalize (zs1 lv1 4 (.int ((1 <<< (q27.1 &&& 31)) ||| (1 <<< (q38.1 &&& 31))))) = lv2 at *
  refine q_lr (k := 1) (i := 0) (q := (.aload_n 0, 1, 0, 0, .null)) rfl (fun _ => rfl) l0_2 ?_
  refine r_gr (c := 54) H (pc := 46) rfl (by decide) (by decide) ?_
  refine q_li (k := 2) (i := 4) (q := (.iload 4, 2, 0, 0, .null)) rfl (fun _ => rfl) l4_2 ?_
  refine r_s (fr' := (52, lv2, [.int 1, .int ((1 <<< (q27.1 &&& 31)) ||| (1 <<< (q38.1 &&& 31))), .ref 54])) (hp' := xW B q38.2) (q := (.iconst 1, 1, 0, 0, .null)) rfl (fun _ => rfl) (Nat.le_refl _) ?_
  refine q_li (k := 1) (i := 3) (q := (.iload_n 3, 1, 0, 0, .null)) rfl (fun _ => rfl) l3_2 ?_
  refine r_s (fr' := (54, lv2, [.int (1 <<< (q27.1 &&& 31)), .int ((1 <<< (q27.1 &&& 31)) ||| (1 <<< (q38.1 &&& 31))), .ref 54])) (hp' := xW B q38.2) (q := (.ishl, 1, 0, 0, .null)) rfl (fun _ => rfl) (Nat.le_refl _) ?_
  obtain ⟨c3, h⟩ := xif h
  refine q_as (n := 64) (s2 := (xu q38.2 54 (((1 <<< (q27.1 &&& 31)) ||| (1 <<< (q38.1 &&& 31))) : Int32).toNatClampNeg (1 <<< (q27.1 &&& 31)))) H (pc := 54) rfl (by decide) c3 rfl ?_
  refine r_s (fr' := (56, lv2, [.int 1])) (hp' := xW B (xu q38.2 54 (((1 <<< (q27.1 &&& 31)) ||| (1 <<< (q38.1 &&& 31))) : Int32).toNatClampNeg (1 <<< (q27.1 &&& 31)))) (q := (.iconst 1, 1, 0, 0, .null)) rfl (fun _ => rfl) (Nat.le_refl _) ?_
  refine q_lr (k := 1) (i := 1) (q := (.aload_n 1, 1, 0, 0, .null)) rfl (fun _ => rfl) l1_2 ?_
  obtain ⟨q57, h57, h⟩ := xbind h
  refine r_call (ix := 11) (as := []) (rest := [.int 1]) (rv := some (.int q57.1)) (hp' := xW B q57.2) (pc := 57) rfl xr77 rfl rfl rfl (xkd H (by decide)) (Nat.le_of_ble_eq_true rfl) (Z77_11t H h57 (by omega)) (Nat.le_refl _) ?_
  refine r_s (fr' := (61, lv2, [.int (1 <<< (q57.1 &&& 31))])) (hp' := xW B q57.2) (q := (.ishl, 1, 0, 0, .null)) rfl (fun _ => rfl) (Nat.le_refl _) ?_
  refine q_si (k := 2) (i := 5) (q := (.istore 5, 2, 0, 0, .null)) rfl (fun _ => rfl) (by decide) ?_
  have l0_4 : zld (zs1 lv2 5 (.int (1 <<< (q57.1 &&& 31)))) 0 = some (.ref 51) := x_o1 l0_2 rfl rfl
  have l1_4 : zld (zs1 lv2 5 (.int (1 <<< (q57.1 &&& 31)))) 1 = some (.ref 11) := x_o1 l1_2 rfl rfl
  have l2_4 : zld (zs1 lv2 5 (.int (1 <<< (q57.1 &&& 31)))) 2 = some (.int v2) := x_o1 l2_2 rfl rfl
  have l3_4 : zld (zs1 lv2 5 (.int (1 <<< (q57.1 &&& 31)))) 3 = some (.int q27.1) := x_o1 l3_2 rfl rfl
  have l4_4 : zld (zs1 lv2 5 (.int (1 <<< (q57.1 &&& 31)))) 4 = some (.int ((1 <<< (q27.1 &&& 31)) ||| (1 <<< (q38.1 &&& 31)))) := x_o1 l4_2 rfl rfl
  have l5_4 : zld (zs1 lv2 5 (.int (1 <<< (q57.1 &&& 31)))) 5 = some (.int (1 <<< (q57.1 &&& 31))) := zs1_ld _ _ _
  generalize (zs1 lv2 5 (.int (1 <<< (q57.1 &&& 31)))) = lv4 at *
  refine q_li (k := 2) (i := 4) (q := (.iload 4, 2, 0, 0, .null)) rfl (fun _ => rfl) l4_4 ?_
  refine q_si (k := 2) (i := 6) (q := (.istore 6, 2, 0, 0, .null)) rfl (fun _ => rfl) (by decide) ?_
  have l0_5 : zld (zs1 lv4 6 (.int ((1 <<< (q27.1 &&& 31)) ||| (1 <<< (q38.1 &&& 31))))) 0 = some (.ref 51) := x_o1 l0_4 rfl rfl
  have l1_5 : zld (zs1 lv4 6 (.int ((1 <<< (q27.1 &&& 31)) ||| (1 <<< (q38.1 &&& 31))))) 1 = some (.ref 11) := x_o1 l1_4 rfl rfl
  have l2_5 : zld (zs1 lv4 6 (.int ((1 <<< (q27.1 &&& 31)) ||| (1 <<< (q38.1 &&& 31))))) 2 = some (.int v2) := x_o1 l2_4 rfl rfl
  have l3_5 : zld (zs1 lv4 6 (.int ((1 <<< (q27.1 &&& 31)) ||| (1 <<< (q38.1 &&& 31))))) 3 = some (.int q27.1) := x_o1 l3_4 rfl rfl
  have l4_5 : zld (zs1 lv4 6 (.int ((1 <<< (q27.1 &&& 31)) ||| (1 <<< (q38.1 &&& 31))))) 4 = some (.int ((1 <<< (q27.1 &&& 31)) ||| (1 <<< (q38.1 &&& 31)))) := x_o1 l4_4 rfl rfl
  have l5_5 : zld (zs1 lv4 6 (.int ((1 <<< (q27.1 &&& 31)) ||| (1 <<< (q38.1 &&& 31))))) 5 = some (.int (1 <<< (q57.1 &&& 31))) := x_o1 l5_4 rfl rfl
  have l6_5 : zld (zs1 lv4 6 (.int ((1 <<< (q27.1 &&& 31)) ||| (1 <<< (q38.1 &&& 31))))) 6 = some (.int ((1 <<< (q27.1 &&& 31)) ||| (1 <<< (q38.1 &&& 31)))) := zs1_ld _ _ _
  generalize (zs1 lv4 6 (.int ((1 <<< (q27.1 &&& 31)) ||| (1 <<< (q38.1 &&& 31))))) = lv5 at *
  exact T1_51_11t_67 H he F F l0_5 l1_5 l2_5 l3_5 l4_5 l5_5 l6_5 h
set_option maxRecDepth 20000 in
theorem Z1_51_11t {B : zHp} (H : yH0 B) {F : Nat} {a2 : Int32} {m : xS} {x : Unit × xS} (h : D1_51_11t F a2 m = some x) {d : Nat} (hd : 3 ≤ d) : zCan d 1 [.ref 51, .ref 11, .int a2] (xW B m) (none, xW B x.2) := by
  obtain ⟨e, rfl⟩ : ∃ e, d = e + 1 := ⟨d - 1, by omega⟩
  refine zCan_body (nL := 7) (rt := none) (cd := zc1) (xg1) ⟨Nat.le_of_ble_eq_true rfl, by decide⟩ (Nat.le_refl _) ?_
  exact T1_51_11t H hd F rfl rfl rfl h
/-- LentTools$Matching.findWorksOf -/
def D22_50_11t_92 (F : Nat) (g11 : Int32 → Int32 → xS → Option (Unit × xS)) (v2 : Int32) (v3 : Int32) (v4 : Int32) (m : xS) : Option (Unit × xS) :=
  g11 v2 (v3 + Int32.ofInt 1) m
set_option maxRecDepth 20000 in
theorem T22_50_11t_92 {B : zHp} (H : yH0 B) {e : Nat} (he : 4 ≤ e + 1) (F : Nat) (g11 : Int32 → Int32 → xS → Option (Unit × xS)) (k11 : ∀ {v2 : Int32} {v3 : Int32} {lv : List (Nat × Value)} {m : xS} {x : Unit × xS}, zld lv 0 = some (.ref 50) → zld lv 1 = some (.ref 11) → zld lv 2 = some (.int v2) → zld lv 3 = some (.int v3) → g11 v2 v3 m = some x → zR none e 5 none zc22 (11, lv, []) (xW B m) (none, xW B x.2)) {v2 : Int32} {v3 : Int32} {v4 : Int32} {lv : List (Nat × Value)} {m : xS} {x : Unit × xS} (l0 : zld lv 0 = some (.ref 50)) (l1 : zld lv 1 = some (.ref 11)) (l2 : zld lv 2 = some (.int v2)) (l3 : zld lv 3 = some (.int v3)) (l4 : zld lv 4 = some (.int v4)) (h : D22_50_11t_92 F g11 v2 v3 v4 m = some x) : zR none e 5 none zc22 (92, lv, []) (xW B m) (none, xW B x.2) := by
  unfold D22_50_11t_92 at h
  refine q_inc (i := 3) (n := 1) (q := (.iinc 3 1, 3, 0, 0, .null)) rfl (fun _ => rfl) l3 (by decide) ?_
  have l0_1 : zld (zs1 lv 3 (.int (v3 + Int32.ofInt 1))) 0 = some (.ref 50) := x_o1 l0 rfl rfl
  have l1_1 : zld (zs1 lv 3 (.int (v3 + Int32.ofInt 1))) 1 = some (.ref 11) := x_o1 l1 rfl rfl
  have l2_1 : zld (zs1 lv 3 (.int (v3 + Int32.ofInt 1))) 2 = some (.int v2) := x_o1 l2 rfl rfl
  have l3_1 : zld (zs1 lv 3 (.int (v3 + Int32.ofInt 1))) 3 = some (.int (v3 + Int32.ofInt 1)) := zs1_ld _ _ _
  have l4_1 : zld (zs1 lv 3 (.int (v3 + Int32.ofInt 1))) 4 = some (.int v4) := x_o1 l4 rfl rfl
  generalize (zs1 lv 3 (.int (v3 + Int32.ofInt 1))) = lv1 at *
  refine r_s (fr' := (11, lv1, [])) (hp' := xW B m) (q := (.goto (-84), 3, 11, 0, .null)) rfl (fun _ => rfl) (Nat.le_refl _) ?_
  exact k11 l0_1 l1_1 l2_1 l3_1 h
def D22_50_11t_11 (F : Nat) : Nat → Int32 → Int32 → xS → Option (Unit × xS)
  | 0, _, _, _ => none
  | f + 1, v2, v3, m =>
    if zcmp .ge v3 (m.1 50 1) = true then
      some ((), m)
    else
      (D89_11t F v3 0 m).bind fun q29 =>
        if xib q29.1 6 = true then
          if zcmp .eq (q29.2.1 52 (q29.1 : Int32).toNatClampNeg) (-1) = true then
            D22_50_11t_92 F (D22_50_11t_11 F f) v2 v3 (q29.2.1 52 (q29.1 : Int32).toNatClampNeg) q29.2
          else
            (D106_11t F v3 q29.2).bind fun q43 =>
              if zcmp .ne q43.1 0 = true then
                D22_50_11t_92 F (D22_50_11t_11 F f) v2 v3 (q29.2.1 52 (q29.1 : Int32).toNatClampNeg) q43.2
              else
                (D89_11t F v3 1 q43.2).bind fun q52 =>
                  (D87_11t F v2 1 q52.2).bind fun q58 =>
                    if zcmp .ne q52.1 q58.1 = true then
                      D22_50_11t_92 F (D22_50_11t_11 F f) v2 v3 (q29.2.1 52 (q29.1 : Int32).toNatClampNeg) q58.2
                    else
                      (D100_11t F v2 (q29.2.1 52 (q29.1 : Int32).toNatClampNeg) q58.2).bind fun q68 =>
                        (D89_11t F v3 2 q68.2).bind fun q74 =>
                          if zcmp .lt q68.1 q74.1 = true then
                            D22_50_11t_92 F (D22_50_11t_11 F f) v2 v3 (q29.2.1 52 (q29.1 : Int32).toNatClampNeg) q74.2
                          else
                            if xib v3 6 = true then
                              if xib v3 6 = true then
                                D22_50_11t_92 F (D22_50_11t_11 F f) v2 v3 (q29.2.1 52 (q29.1 : Int32).toNatClampNeg) (xu q74.2 57 (v3 : Int32).toNatClampNeg ((q74.2.1 57 (v3 : Int32).toNatClampNeg) ||| (1 <<< (v2 &&& 31))))
                              else none
                            else none
        else none
set_option maxRecDepth 20000 in
theorem T22_50_11t_11 {B : zHp} (H : yH0 B) {e : Nat} (he : 4 ≤ e + 1) (F : Nat) : ∀ (f : Nat) {v2 : Int32} {v3 : Int32} {lv : List (Nat × Value)} {m : xS} {x : Unit × xS}, zld lv 0 = some (.ref 50) → zld lv 1 = some (.ref 11) → zld lv 2 = some (.int v2) → zld lv 3 = some (.int v3) → D22_50_11t_11 F f v2 v3 m = some x → zR none e 5 none zc22 (11, lv, []) (xW B m) (none, xW B x.2) := by
  intro f
  induction f with
  | zero => intro v2 v3 lv m x l0 l1 l2 l3 h; cases h
  | succ f ih =>
    intro v2 v3 lv m x l0 l1 l2 l3 h
    unfold D22_50_11t_11 at h
    refine q_li (k := 1) (i := 3) (q := (.iload_n 3, 1, 0, 0, .null)) rfl (fun _ => rfl) l3 ?_
    refine q_lr (k := 1) (i := 0) (q := (.aload_n 0, 1, 0, 0, .null)) rfl (fun _ => rfl) l0 ?_
    refine r_gi (v := (m.1 50 1)) H (pc := 13) (i := _) rfl (by decide) (by decide) rfl ?_
    refine r_ifc (len := 3) (a := 98) (b := 0) (v0 := .null) (cn := .ge) (off := 82) rfl (fun c => ?_) (fun c => ?_)
    · rw [if_pos c] at h
      obtain rfl := Option.some.inj h
      exact r_ret (q := (.return_, 1, 0, 0, .null)) rfl rfl (fun _ => rfl)
    · rw [if_neg (by rw [c]; decide)] at h
      refine q_lr (k := 1) (i := 0) (q := (.aload_n 0, 1, 0, 0, .null)) rfl (fun _ => rfl) l0 ?_
      refine r_gr (c := 51) H (pc := 20) rfl (by decide) (by decide) ?_
      refine r_gr (c := 52) H (pc := 23) rfl (by decide) (by decide) ?_
      refine q_lr (k := 1) (i := 1) (q := (.aload_n 1, 1, 0, 0, .null)) rfl (fun _ => rfl) l1 ?_
      refine q_li (k := 1) (i := 3) (q := (.iload_n 3, 1, 0, 0, .null)) rfl (fun _ => rfl) l3 ?_
      refine r_s (fr' := (29, lv, [.int 0, .int v3, .ref 11, .ref 52])) (hp' := xW B m) (q := (.iconst 0, 1, 0, 0, .null)) rfl (fun _ => rfl) (Nat.le_refl _) ?_
      obtain ⟨q29, h29, h⟩ := xbind h
      refine r_call (ix := 11) (as := [.int v3, .int 0]) (rest := [.ref 52]) (rv := some (.int q29.1)) (hp' := xW B q29.2) (pc := 29) rfl xr89 rfl rfl rfl (xkd H (by decide)) (Nat.le_of_ble_eq_true rfl) (Z89_11t H h29 (by omega)) (Nat.le_refl _) ?_
      obtain ⟨c1, h⟩ := xif h
      refine q_al (n := 6) (v := (q29.2.1 52 (q29.1 : Int32).toNatClampNeg)) H (pc := 32) rfl (by decide) c1 rfl ?_
      refine q_si (k := 2) (i := 4) (q := (.istore 4, 2, 0, 0, .null)) rfl (fun _ => rfl) (by decide) ?_
      have l0_2 : zld (zs1 lv 4 (.int (q29.2.1 52 (q29.1 : Int32).toNatClampNeg))) 0 = some (.ref 50) := x_o1 l0 rfl rfl
      have l1_2 : zld (zs1 lv 4 (.int (q29.2.1 52 (q29.1 : Int32).toNatClampNeg))) 1 = some (.ref 11) := x_o1 l1 rfl rfl
      have l2_2 : zld (zs1 lv 4 (.int (q29.2.1 52 (q29.1 : Int32).toNatClampNeg))) 2 = some (.int v2) := x_o1 l2 rfl rfl
      have l3_2 : zld (zs1 lv 4 (.int (q29.2.1 52 (q29.1 : Int32).toNatClampNeg))) 3 = some (.int v3) := x_o1 l3 rfl rfl
      have l4_2 : zld (zs1 lv 4 (.int (q29.2.1 52 (q29.1 : Int32).toNatClampNeg))) 4 = some (.int (q29.2.1 52 (q29.1 : Int32).toNatClampNeg)) := zs1_ld _ _ _
      generalize (zs1 lv 4 (.int (q29.2.1 52 (q29.1 : Int32).toNatClampNeg))) = lv2 at *
      refine q_li (k := 2) (i := 4) (q := (.iload 4, 2, 0, 0, .null)) rfl (fun _ => rfl) l4_2 ?_
      refine r_s (fr' := (38, lv2, [.int (-1), .int (q29.2.1 52 (q29.1 : Int32).toNatClampNeg)])) (hp' := xW B q29.2) (q := (.iconst (-1), 1, 0, 0, .null)) rfl (fun _ => rfl) (Nat.le_refl _) ?_
      refine r_ifc (len := 3) (a := 92) (b := 0) (v0 := .null) (cn := .eq) (off := 54) rfl (fun c => ?_) (fun c => ?_)
      · rw [if_pos c] at h
        exact T22_50_11t_92 H he F _ ih l0_2 l1_2 l2_2 l3_2 l4_2 h
      · rw [if_neg (by rw [c]; decide)] at h
        refine q_lr (k := 1) (i := 1) (q := (.aload_n 1, 1, 0, 0, .null)) rfl (fun _ => rfl) l1_2 ?_
        refine q_li (k := 1) (i := 3) (q := (.iload_n 3, 1, 0, 0, .null)) rfl (fun _ => rfl) l3_2 ?_
        obtain ⟨q43, h43, h⟩ := xbind h
        refine r_call (ix := 11) (as := [.int v3]) (rest := []) (rv := some (.int q43.1)) (hp' := xW B q43.2) (pc := 43) rfl xr106 rfl rfl rfl (xkd H (by decide)) (Nat.le_of_ble_eq_true rfl) (Z106_11t H h43 (by omega)) (Nat.le_refl _) ?_
        refine r_if (len := 3) (a := 92) (b := 0) (v0 := .null) (cn := .ne) (off := 46) rfl (fun c => ?_) (fun c => ?_)
        · rw [if_pos c] at h
          exact T22_50_11t_92 H he F _ ih l0_2 l1_2 l2_2 l3_2 l4_2 h
        · rw [if_neg (by rw [c]; decide)] at h
          refine q_lr (k := 1) (i := 1) (q := (.aload_n 1, 1, 0, 0, .null)) rfl (fun _ => rfl) l1_2 ?_
          refine q_li (k := 1) (i := 3) (q := (.iload_n 3, 1, 0, 0, .null)) rfl (fun _ => rfl) l3_2 ?_
          refine r_s (fr' := (52, lv2, [.int 1, .int v3, .ref 11])) (hp' := xW B q43.2) (q := (.iconst 1, 1, 0, 0, .null)) rfl (fun _ => rfl) (Nat.le_refl _) ?_
          obtain ⟨q52, h52, h⟩ := xbind h
          refine r_call (ix := 11) (as := [.int v3, .int 1]) (rest := []) (rv := some (.int q52.1)) (hp' := xW B q52.2) (pc := 52) rfl xr89 rfl rfl rfl (xkd H (by decide)) (Nat.le_of_ble_eq_true rfl) (Z89_11t H h52 (by omega)) (Nat.le_refl _) ?_
          refine q_lr (k := 1) (i := 1) (q := (.aload_n 1, 1, 0, 0, .null)) rfl (fun _ => rfl) l1_2 ?_
          refine q_li (k := 1) (i := 2) (q := (.iload_n 2, 1, 0, 0, .null)) rfl (fun _ => rfl) l2_2 ?_
          refine r_s (fr' := (58, lv2, [.int 1, .int v2, .ref 11, .int q52.1])) (hp' := xW B q52.2) (q := (.iconst 1, 1, 0, 0, .null)) rfl (fun _ => rfl) (Nat.le_refl _) ?_
          obtain ⟨q58, h58, h⟩ := xbind h
          refine r_call (ix := 11) (as := [.int v2, .int 1]) (rest := [.int q52.1]) (rv := some (.int q58.1)) (hp' := xW B q58.2) (pc := 58) rfl xr87 rfl rfl rfl (xkd H (by decide)) (Nat.le_of_ble_eq_true rfl) (Z87_11t H h58 (by omega)) (Nat.le_refl _) ?_
          refine r_ifc (len := 3) (a := 92) (b := 0) (v0 := .null) (cn := .ne) (off := 31) rfl (fun c => ?_) (fun c => ?_)
          · rw [if_pos c] at h
            exact T22_50_11t_92 H he F _ ih l0_2 l1_2 l2_2 l3_2 l4_2 h
          · rw [if_neg (by rw [c]; decide)] at h
            refine q_lr (k := 1) (i := 1) (q := (.aload_n 1, 1, 0, 0, .null)) rfl (fun _ => rfl) l1_2 ?_
            refine q_li (k := 1) (i := 2) (q := (.iload_n 2, 1, 0, 0, .null)) rfl (fun _ => rfl) l2_2 ?_
            refine q_li (k := 2) (i := 4) (q := (.iload 4, 2, 0, 0, .null)) rfl (fun _ => rfl) l4_2 ?_
            obtain ⟨q68, h68, h⟩ := xbind h
            refine r_call (ix := 11) (as := [.int v2, .int (q29.2.1 52 (q29.1 : Int32).toNatClampNeg)]) (rest := []) (rv := some (.int q68.1)) (hp' := xW B q68.2) (pc := 68) rfl xr100 rfl rfl rfl (xkd H (by decide)) (Nat.le_of_ble_eq_true rfl) (Z100_11t H h68 (by omega)) (Nat.le_refl _) ?_
            refine q_lr (k := 1) (i := 1) (q := (.aload_n 1, 1, 0, 0, .null)) rfl (fun _ => rfl) l1_2 ?_
            refine q_li (k := 1) (i := 3) (q := (.iload_n 3, 1, 0, 0, .null)) rfl (fun _ => rfl) l3_2 ?_
            refine r_s (fr' := (74, lv2, [.int 2, .int v3, .ref 11, .int q68.1])) (hp' := xW B q68.2) (q := (.iconst 2, 1, 0, 0, .null)) rfl (fun _ => rfl) (Nat.le_refl _) ?_
            obtain ⟨q74, h74, h⟩ := xbind h
            refine r_call (ix := 11) (as := [.int v3, .int 2]) (rest := [.int q68.1]) (rv := some (.int q74.1)) (hp' := xW B q74.2) (pc := 74) rfl xr89 rfl rfl rfl (xkd H (by decide)) (Nat.le_of_ble_eq_true rfl) (Z89_11t H h74 (by omega)) (Nat.le_refl _) ?_
            refine r_ifc (len := 3) (a := 92) (b := 0) (v0 := .null) (cn := .lt) (off := 15) rfl (fun c => ?_) (fun c => ?_)
            · rw [if_pos c] at h
              exact T22_50_11t_92 H he F _ ih l0_2 l1_2 l2_2 l3_2 l4_2 h
            · rw [if_neg (by rw [c]; decide)] at h
              refine q_lr (k := 1) (i := 0) (q := (.aload_n 0, 1, 0, 0, .null)) rfl (fun _ => rfl) l0_2 ?_
              refine r_gr (c := 57) H (pc := 81) rfl (by decide) (by decide) ?_
              refine q_li (k := 1) (i := 3) (q := (.iload_n 3, 1, 0, 0, .null)) rfl (fun _ => rfl) l3_2 ?_
              refine r_s (fr' := (86, lv2, [.int v3, .ref 57, .int v3, .ref 57])) (hp' := xW B q74.2) (q := (.dup2, 1, 0, 0, .null)) rfl (fun _ => rfl) (Nat.le_refl _) ?_
              obtain ⟨c3, h⟩ := xif h
              refine q_al (n := 6) (v := (q74.2.1 57 (v3 : Int32).toNatClampNeg)) H (pc := 86) rfl (by decide) c3 rfl ?_
              refine r_s (fr' := (88, lv2, [.int 1, .int (q74.2.1 57 (v3 : Int32).toNatClampNeg), .int v3, .ref 57])) (hp' := xW B q74.2) (q := (.iconst 1, 1, 0, 0, .null)) rfl (fun _ => rfl) (Nat.le_refl _) ?_
              refine q_li (k := 1) (i := 2) (q := (.iload_n 2, 1, 0, 0, .null)) rfl (fun _ => rfl) l2_2 ?_
              refine r_s (fr' := (90, lv2, [.int (1 <<< (v2 &&& 31)), .int (q74.2.1 57 (v3 : Int32).toNatClampNeg), .int v3, .ref 57])) (hp' := xW B q74.2) (q := (.ishl, 1, 0, 0, .null)) rfl (fun _ => rfl) (Nat.le_refl _) ?_
              refine r_s (fr' := (91, lv2, [.int ((q74.2.1 57 (v3 : Int32).toNatClampNeg) ||| (1 <<< (v2 &&& 31))), .int v3, .ref 57])) (hp' := xW B q74.2) (q := (.ior, 1, 0, 0, .null)) rfl (fun _ => rfl) (Nat.le_refl _) ?_
              obtain ⟨c4, h⟩ := xif h
              refine q_as (n := 6) (s2 := (xu q74.2 57 (v3 : Int32).toNatClampNeg ((q74.2.1 57 (v3 : Int32).toNatClampNeg) ||| (1 <<< (v2 &&& 31))))) H (pc := 91) rfl (by decide) c4 rfl ?_
              exact T22_50_11t_92 H he F _ ih l0_2 l1_2 l2_2 l3_2 l4_2 h
def D22_50_11t (F : Nat) (v2 : Int32) (m : xS) : Option (Unit × xS) :=
  (D1_51_11t F v2 m).bind fun q6 =>
    D22_50_11t_11 F F v2 0 q6.2
set_option maxRecDepth 20000 in
theorem T22_50_11t {B : zHp} (H : yH0 B) {e : Nat} (he : 4 ≤ e + 1) (F : Nat) {v2 : Int32} {lv : List (Nat × Value)} {m : xS} {x : Unit × xS} (l0 : zld lv 0 = some (.ref 50)) (l1 : zld lv 1 = some (.ref 11)) (l2 : zld lv 2 = some (.int v2)) (h : D22_50_11t F v2 m = some x) : zR none e 5 none zc22 (0, lv, []) (xW B m) (none, xW B x.2) := by
  unfold D22_50_11t at h
  refine q_lr (k := 1) (i := 0) (q := (.aload_n 0, 1, 0, 0, .null)) rfl (fun _ => rfl) l0 ?_
  refine r_gr (c := 51) H (pc := 1) rfl (by decide) (by decide) ?_
  refine q_lr (k := 1) (i := 1) (q := (.aload_n 1, 1, 0, 0, .null)) rfl (fun _ => rfl) l1 ?_
  refine q_li (k := 1) (i := 2) (q := (.iload_n 2, 1, 0, 0, .null)) rfl (fun _ => rfl) l2 ?_
  obtain ⟨q6, h6, h⟩ := xbind h
  refine r_call (ix := 51) (as := [.ref 11, .int v2]) (rest := []) (rv := none) (hp' := xW B q6.2) (pc := 6) rfl xr1 rfl rfl rfl (xkd H (by decide)) (Nat.le_of_ble_eq_true rfl) (Z1_51_11t H h6 (by omega)) (Nat.le_refl _) ?_
  refine r_s (fr' := (10, lv, [.int 0])) (hp' := xW B q6.2) (q := (.iconst 0, 1, 0, 0, .null)) rfl (fun _ => rfl) (Nat.le_refl _) ?_
  refine q_si (k := 1) (i := 3) (q := (.istore_n 3, 1, 0, 0, .null)) rfl (fun _ => rfl) (by decide) ?_
  have l0_1 : zld (zs1 lv 3 (.int 0)) 0 = some (.ref 50) := x_o1 l0 rfl rfl
  have l1_1 : zld (zs1 lv 3 (.int 0)) 1 = some (.ref 11) := x_o1 l1 rfl rfl
  have l2_1 : zld (zs1 lv 3 (.int 0)) 2 = some (.int v2) := x_o1 l2 rfl rfl
  have l3_1 : zld (zs1 lv 3 (.int 0)) 3 = some (.int 0) := zs1_ld _ _ _
  generalize (zs1 lv 3 (.int 0)) = lv1 at *
  exact T22_50_11t_11 H he F F l0_1 l1_1 l2_1 l3_1 h
set_option maxRecDepth 20000 in
theorem Z22_50_11t {B : zHp} (H : yH0 B) {F : Nat} {a2 : Int32} {m : xS} {x : Unit × xS} (h : D22_50_11t F a2 m = some x) {d : Nat} (hd : 4 ≤ d) : zCan d 22 [.ref 50, .ref 11, .int a2] (xW B m) (none, xW B x.2) := by
  obtain ⟨e, rfl⟩ : ∃ e, d = e + 1 := ⟨d - 1, by omega⟩
  refine zCan_body (nL := 5) (rt := none) (cd := zc22) (xg22) ⟨Nat.le_of_ble_eq_true rfl, by decide⟩ (Nat.le_refl _) ?_
  exact T22_50_11t H hd F rfl rfl rfl h
/-- LentTools$Matching.findAble -/
def D21_50_11t_56 (F : Nat) (g37 : Int32 → Int32 → xS → Option (Unit × xS)) (v2 : Int32) (v3 : Int32) (m : xS) : Option (Unit × xS) :=
  g37 v2 (v3 + Int32.ofInt 1) m
set_option maxRecDepth 20000 in
theorem T21_50_11t_56 {B : zHp} (H : yH0 B) {e : Nat} (he : 5 ≤ e + 1) (F : Nat) (g37 : Int32 → Int32 → xS → Option (Unit × xS)) (k37 : ∀ {v2 : Int32} {v3 : Int32} {lv : List (Nat × Value)} {m : xS} {x : Unit × xS}, zld lv 0 = some (.ref 50) → zld lv 1 = some (.ref 11) → zld lv 2 = some (.int v2) → zld lv 3 = some (.int v3) → g37 v2 v3 m = some x → zR none e 4 none zc21 (37, lv, []) (xW B m) (none, xW B x.2)) {v2 : Int32} {v3 : Int32} {lv : List (Nat × Value)} {m : xS} {x : Unit × xS} (l0 : zld lv 0 = some (.ref 50)) (l1 : zld lv 1 = some (.ref 11)) (l2 : zld lv 2 = some (.int v2)) (l3 : zld lv 3 = some (.int v3)) (h : D21_50_11t_56 F g37 v2 v3 m = some x) : zR none e 4 none zc21 (56, lv, []) (xW B m) (none, xW B x.2) := by
  unfold D21_50_11t_56 at h
  refine q_inc (i := 3) (n := 1) (q := (.iinc 3 1, 3, 0, 0, .null)) rfl (fun _ => rfl) l3 (by decide) ?_
  have l0_1 : zld (zs1 lv 3 (.int (v3 + Int32.ofInt 1))) 0 = some (.ref 50) := x_o1 l0 rfl rfl
  have l1_1 : zld (zs1 lv 3 (.int (v3 + Int32.ofInt 1))) 1 = some (.ref 11) := x_o1 l1 rfl rfl
  have l2_1 : zld (zs1 lv 3 (.int (v3 + Int32.ofInt 1))) 2 = some (.int v2) := x_o1 l2 rfl rfl
  have l3_1 : zld (zs1 lv 3 (.int (v3 + Int32.ofInt 1))) 3 = some (.int (v3 + Int32.ofInt 1)) := zs1_ld _ _ _
  generalize (zs1 lv 3 (.int (v3 + Int32.ofInt 1))) = lv1 at *
  refine r_s (fr' := (37, lv1, [])) (hp' := xW B m) (q := (.goto (-22), 3, 37, 0, .null)) rfl (fun _ => rfl) (Nat.le_refl _) ?_
  exact k37 l0_1 l1_1 l2_1 l3_1 h
def D21_50_11t_37 (F : Nat) : Nat → Int32 → Int32 → xS → Option (Unit × xS)
  | 0, _, _, _ => none
  | f + 1, v2, v3, m =>
    (D79_11t F m).bind fun q39 =>
      if zcmp .ge v3 q39.1 = true then
        some ((), q39.2)
      else
        if zcmp .eq v3 v2 = true then
          D21_50_11t_56 F (D21_50_11t_37 F f) v2 v3 q39.2
        else
          (D22_50_11t F v3 q39.2).bind fun q53 =>
            D21_50_11t_56 F (D21_50_11t_37 F f) v2 v3 q53.2
set_option maxRecDepth 20000 in
theorem T21_50_11t_37 {B : zHp} (H : yH0 B) {e : Nat} (he : 5 ≤ e + 1) (F : Nat) : ∀ (f : Nat) {v2 : Int32} {v3 : Int32} {lv : List (Nat × Value)} {m : xS} {x : Unit × xS}, zld lv 0 = some (.ref 50) → zld lv 1 = some (.ref 11) → zld lv 2 = some (.int v2) → zld lv 3 = some (.int v3) → D21_50_11t_37 F f v2 v3 m = some x → zR none e 4 none zc21 (37, lv, []) (xW B m) (none, xW B x.2) := by
  intro f
  induction f with
  | zero => intro v2 v3 lv m x l0 l1 l2 l3 h; cases h
  | succ f ih =>
    intro v2 v3 lv m x l0 l1 l2 l3 h
    unfold D21_50_11t_37 at h
    refine q_li (k := 1) (i := 3) (q := (.iload_n 3, 1, 0, 0, .null)) rfl (fun _ => rfl) l3 ?_
    refine q_lr (k := 1) (i := 1) (q := (.aload_n 1, 1, 0, 0, .null)) rfl (fun _ => rfl) l1 ?_
    obtain ⟨q39, h39, h⟩ := xbind h
    refine r_call (ix := 11) (as := []) (rest := [.int v3]) (rv := some (.int q39.1)) (hp' := xW B q39.2) (pc := 39) rfl xr79 rfl rfl rfl (xkd H (by decide)) (Nat.le_of_ble_eq_true rfl) (Z79_11t H h39 (by omega)) (Nat.le_refl _) ?_
    refine r_ifc (len := 3) (a := 62) (b := 0) (v0 := .null) (cn := .ge) (off := 20) rfl (fun c => ?_) (fun c => ?_)
    · rw [if_pos c] at h
      obtain rfl := Option.some.inj h
      exact r_ret (q := (.return_, 1, 0, 0, .null)) rfl rfl (fun _ => rfl)
    · rw [if_neg (by rw [c]; decide)] at h
      refine q_li (k := 1) (i := 3) (q := (.iload_n 3, 1, 0, 0, .null)) rfl (fun _ => rfl) l3 ?_
      refine q_li (k := 1) (i := 2) (q := (.iload_n 2, 1, 0, 0, .null)) rfl (fun _ => rfl) l2 ?_
      refine r_ifc (len := 3) (a := 56) (b := 0) (v0 := .null) (cn := .eq) (off := 9) rfl (fun c => ?_) (fun c => ?_)
      · rw [if_pos c] at h
        exact T21_50_11t_56 H he F _ ih l0 l1 l2 l3 h
      · rw [if_neg (by rw [c]; decide)] at h
        refine q_lr (k := 1) (i := 0) (q := (.aload_n 0, 1, 0, 0, .null)) rfl (fun _ => rfl) l0 ?_
        refine q_lr (k := 1) (i := 1) (q := (.aload_n 1, 1, 0, 0, .null)) rfl (fun _ => rfl) l1 ?_
        refine q_li (k := 1) (i := 3) (q := (.iload_n 3, 1, 0, 0, .null)) rfl (fun _ => rfl) l3 ?_
        obtain ⟨q53, h53, h⟩ := xbind h
        refine r_call (ix := 50) (as := [.ref 11, .int v3]) (rest := []) (rv := none) (hp' := xW B q53.2) (pc := 53) rfl xr22 rfl rfl rfl (xkd H (by decide)) (Nat.le_of_ble_eq_true rfl) (Z22_50_11t H h53 (by omega)) (Nat.le_refl _) ?_
        exact T21_50_11t_56 H he F _ ih l0 l1 l2 l3 h
def D21_50_11t_2 (F : Nat) : Nat → Int32 → Int32 → xS → Option (Unit × xS)
  | 0, _, _, _ => none
  | f + 1, v2, v3, m =>
    if zcmp .ge v3 (m.1 50 1) = true then
      D21_50_11t_37 F F v2 0 m
    else
      if xib v3 6 = true then
        (D89_11t F v3 3 (xu m 57 (v3 : Int32).toNatClampNeg 0)).bind fun q25 =>
          if xib v3 6 = true then
            D21_50_11t_2 F f v2 (v3 + Int32.ofInt 1) (xu q25.2 58 (v3 : Int32).toNatClampNeg q25.1)
          else none
      else none
set_option maxRecDepth 20000 in
theorem T21_50_11t_2 {B : zHp} (H : yH0 B) {e : Nat} (he : 5 ≤ e + 1) (F : Nat) : ∀ (f : Nat) {v2 : Int32} {v3 : Int32} {lv : List (Nat × Value)} {m : xS} {x : Unit × xS}, zld lv 0 = some (.ref 50) → zld lv 1 = some (.ref 11) → zld lv 2 = some (.int v2) → zld lv 3 = some (.int v3) → D21_50_11t_2 F f v2 v3 m = some x → zR none e 4 none zc21 (2, lv, []) (xW B m) (none, xW B x.2) := by
  intro f
  induction f with
  | zero => intro v2 v3 lv m x l0 l1 l2 l3 h; cases h
  | succ f ih =>
    intro v2 v3 lv m x l0 l1 l2 l3 h
    unfold D21_50_11t_2 at h
    refine q_li (k := 1) (i := 3) (q := (.iload_n 3, 1, 0, 0, .null)) rfl (fun _ => rfl) l3 ?_
    refine q_lr (k := 1) (i := 0) (q := (.aload_n 0, 1, 0, 0, .null)) rfl (fun _ => rfl) l0 ?_
    refine r_gi (v := (m.1 50 1)) H (pc := 4) (i := _) rfl (by decide) (by decide) rfl ?_
    refine r_ifc (len := 3) (a := 35) (b := 0) (v0 := .null) (cn := .ge) (off := 28) rfl (fun c => ?_) (fun c => ?_)
    · rw [if_pos c] at h
      refine r_s (fr' := (36, lv, [.int 0])) (hp' := xW B m) (q := (.iconst 0, 1, 0, 0, .null)) rfl (fun _ => rfl) (Nat.le_refl _) ?_
      refine q_si (k := 1) (i := 3) (q := (.istore_n 3, 1, 0, 0, .null)) rfl (fun _ => rfl) (by decide) ?_
      have l0_1 : zld (zs1 lv 3 (.int 0)) 0 = some (.ref 50) := x_o1 l0 rfl rfl
      have l1_1 : zld (zs1 lv 3 (.int 0)) 1 = some (.ref 11) := x_o1 l1 rfl rfl
      have l2_1 : zld (zs1 lv 3 (.int 0)) 2 = some (.int v2) := x_o1 l2 rfl rfl
      have l3_1 : zld (zs1 lv 3 (.int 0)) 3 = some (.int 0) := zs1_ld _ _ _
      generalize (zs1 lv 3 (.int 0)) = lv1 at *
      exact T21_50_11t_37 H he F F l0_1 l1_1 l2_1 l3_1 h
    · rw [if_neg (by rw [c]; decide)] at h
      refine q_lr (k := 1) (i := 0) (q := (.aload_n 0, 1, 0, 0, .null)) rfl (fun _ => rfl) l0 ?_
      refine r_gr (c := 57) H (pc := 11) rfl (by decide) (by decide) ?_
      refine q_li (k := 1) (i := 3) (q := (.iload_n 3, 1, 0, 0, .null)) rfl (fun _ => rfl) l3 ?_
      refine r_s (fr' := (16, lv, [.int 0, .int v3, .ref 57])) (hp' := xW B m) (q := (.iconst 0, 1, 0, 0, .null)) rfl (fun _ => rfl) (Nat.le_refl _) ?_
      obtain ⟨c2, h⟩ := xif h
      refine q_as (n := 6) (s2 := (xu m 57 (v3 : Int32).toNatClampNeg 0)) H (pc := 16) rfl (by decide) c2 rfl ?_
      refine q_lr (k := 1) (i := 0) (q := (.aload_n 0, 1, 0, 0, .null)) rfl (fun _ => rfl) l0 ?_
      refine r_gr (c := 58) H (pc := 18) rfl (by decide) (by decide) ?_
      refine q_li (k := 1) (i := 3) (q := (.iload_n 3, 1, 0, 0, .null)) rfl (fun _ => rfl) l3 ?_
      refine q_lr (k := 1) (i := 1) (q := (.aload_n 1, 1, 0, 0, .null)) rfl (fun _ => rfl) l1 ?_
      refine q_li (k := 1) (i := 3) (q := (.iload_n 3, 1, 0, 0, .null)) rfl (fun _ => rfl) l3 ?_
      refine r_s (fr' := (25, lv, [.int 3, .int v3, .ref 11, .int v3, .ref 58])) (hp' := xW B (xu m 57 (v3 : Int32).toNatClampNeg 0)) (q := (.iconst 3, 1, 0, 0, .null)) rfl (fun _ => rfl) (Nat.le_refl _) ?_
      obtain ⟨q25, h25, h⟩ := xbind h
      refine r_call (ix := 11) (as := [.int v3, .int 3]) (rest := [.int v3, .ref 58]) (rv := some (.int q25.1)) (hp' := xW B q25.2) (pc := 25) rfl xr89 rfl rfl rfl (xkd H (by decide)) (Nat.le_of_ble_eq_true rfl) (Z89_11t H h25 (by omega)) (Nat.le_refl _) ?_
      obtain ⟨c3, h⟩ := xif h
      refine q_as (n := 6) (s2 := (xu q25.2 58 (v3 : Int32).toNatClampNeg q25.1)) H (pc := 28) rfl (by decide) c3 rfl ?_
      refine q_inc (i := 3) (n := 1) (q := (.iinc 3 1, 3, 0, 0, .null)) rfl (fun _ => rfl) l3 (by decide) ?_
      have l0_4 : zld (zs1 lv 3 (.int (v3 + Int32.ofInt 1))) 0 = some (.ref 50) := x_o1 l0 rfl rfl
      have l1_4 : zld (zs1 lv 3 (.int (v3 + Int32.ofInt 1))) 1 = some (.ref 11) := x_o1 l1 rfl rfl
      have l2_4 : zld (zs1 lv 3 (.int (v3 + Int32.ofInt 1))) 2 = some (.int v2) := x_o1 l2 rfl rfl
      have l3_4 : zld (zs1 lv 3 (.int (v3 + Int32.ofInt 1))) 3 = some (.int (v3 + Int32.ofInt 1)) := zs1_ld _ _ _
      generalize (zs1 lv 3 (.int (v3 + Int32.ofInt 1))) = lv4 at *
      refine r_s (fr' := (2, lv4, [])) (hp' := xW B (xu q25.2 58 (v3 : Int32).toNatClampNeg q25.1)) (q := (.goto (-30), 3, 2, 0, .null)) rfl (fun _ => rfl) (Nat.le_refl _) ?_
      exact ih l0_4 l1_4 l2_4 l3_4 h
def D21_50_11t (F : Nat) (v2 : Int32) (m : xS) : Option (Unit × xS) :=
  D21_50_11t_2 F F v2 0 m
set_option maxRecDepth 20000 in
theorem T21_50_11t {B : zHp} (H : yH0 B) {e : Nat} (he : 5 ≤ e + 1) (F : Nat) {v2 : Int32} {lv : List (Nat × Value)} {m : xS} {x : Unit × xS} (l0 : zld lv 0 = some (.ref 50)) (l1 : zld lv 1 = some (.ref 11)) (l2 : zld lv 2 = some (.int v2)) (h : D21_50_11t F v2 m = some x) : zR none e 4 none zc21 (0, lv, []) (xW B m) (none, xW B x.2) := by
  unfold D21_50_11t at h
  refine r_s (fr' := (1, lv, [.int 0])) (hp' := xW B m) (q := (.iconst 0, 1, 0, 0, .null)) rfl (fun _ => rfl) (Nat.le_refl _) ?_
  refine q_si (k := 1) (i := 3) (q := (.istore_n 3, 1, 0, 0, .null)) rfl (fun _ => rfl) (by decide) ?_
  have l0_1 : zld (zs1 lv 3 (.int 0)) 0 = some (.ref 50) := x_o1 l0 rfl rfl
  have l1_1 : zld (zs1 lv 3 (.int 0)) 1 = some (.ref 11) := x_o1 l1 rfl rfl
  have l2_1 : zld (zs1 lv 3 (.int 0)) 2 = some (.int v2) := x_o1 l2 rfl rfl
  have l3_1 : zld (zs1 lv 3 (.int 0)) 3 = some (.int 0) := zs1_ld _ _ _
  generalize (zs1 lv 3 (.int 0)) = lv1 at *
  exact T21_50_11t_2 H he F F l0_1 l1_1 l2_1 l3_1 h
set_option maxRecDepth 20000 in
theorem Z21_50_11t {B : zHp} (H : yH0 B) {F : Nat} {a2 : Int32} {m : xS} {x : Unit × xS} (h : D21_50_11t F a2 m = some x) {d : Nat} (hd : 5 ≤ d) : zCan d 21 [.ref 50, .ref 11, .int a2] (xW B m) (none, xW B x.2) := by
  obtain ⟨e, rfl⟩ : ∃ e, d = e + 1 := ⟨d - 1, by omega⟩
  refine zCan_body (nL := 4) (rt := none) (cd := zc21) (xg21) ⟨Nat.le_of_ble_eq_true rfl, by decide⟩ (Nat.le_refl _) ?_
  exact T21_50_11t H hd F rfl rfl rfl h
/-- LentTools$Matching.earn -/
def D19_50_11t_60 (F : Nat) (g52 : Int32 → Int32 → Int32 → xS → Option (Int32 × xS)) : Nat → Int32 → Int32 → Int32 → Int32 → xS → Option (Int32 × xS)
  | 0, _, _, _, _, _ => none
  | f + 1, v2, v3, v4, v5, m =>
    if zcmp .ge v5 v3 = true then
      g52 v2 v3 (v4 + Int32.ofInt (-1)) m
    else
      if xib v4 7 = true then
        (D20_50 F v4 v5 m).bind fun q80 =>
          if xib v5 64 = true then
            D19_50_11t_60 F g52 f v2 v3 v4 (v5 + Int32.ofInt 1) (xu q80.2 (60 + (v4 : Int32).toNatClampNeg) (v5 : Int32).toNatClampNeg q80.1)
          else none
      else none
set_option maxRecDepth 20000 in
theorem T19_50_11t_60 {B : zHp} (H : yH0 B) {e : Nat} (he : 6 ≤ e + 1) (F : Nat) (g52 : Int32 → Int32 → Int32 → xS → Option (Int32 × xS)) (k52 : ∀ {v2 : Int32} {v3 : Int32} {v4 : Int32} {lv : List (Nat × Value)} {m : xS} {x : Int32 × xS}, zld lv 0 = some (.ref 50) → zld lv 1 = some (.ref 11) → zld lv 2 = some (.int v2) → zld lv 3 = some (.int v3) → zld lv 4 = some (.int v4) → g52 v2 v3 v4 m = some x → zR none e 6 (some .int) zc19 (52, lv, []) (xW B m) (some (.int x.1), xW B x.2)) : ∀ (f : Nat) {v2 : Int32} {v3 : Int32} {v4 : Int32} {v5 : Int32} {lv : List (Nat × Value)} {m : xS} {x : Int32 × xS}, zld lv 0 = some (.ref 50) → zld lv 1 = some (.ref 11) → zld lv 2 = some (.int v2) → zld lv 3 = some (.int v3) → zld lv 4 = some (.int v4) → zld lv 5 = some (.int v5) → D19_50_11t_60 F g52 f v2 v3 v4 v5 m = some x → zR none e 6 (some .int) zc19 (60, lv, []) (xW B m) (some (.int x.1), xW B x.2) := by
  intro f
  induction f with
  | zero => intro v2 v3 v4 v5 lv m x l0 l1 l2 l3 l4 l5 h; cases h
  | succ f ih =>
    intro v2 v3 v4 v5 lv m x l0 l1 l2 l3 l4 l5 h
    unfold D19_50_11t_60 at h
    refine q_li (k := 2) (i := 5) (q := (.iload 5, 2, 0, 0, .null)) rfl (fun _ => rfl) l5 ?_
    refine q_li (k := 1) (i := 3) (q := (.iload_n 3, 1, 0, 0, .null)) rfl (fun _ => rfl) l3 ?_
    refine r_ifc (len := 3) (a := 90) (b := 0) (v0 := .null) (cn := .ge) (off := 27) rfl (fun c => ?_) (fun c => ?_)
    · rw [if_pos c] at h
      refine q_inc (i := 4) (n := (-1)) (q := (.iinc 4 (-1), 3, 0, 0, .null)) rfl (fun _ => rfl) l4 (by decide) ?_
      have l0_1 : zld (zs1 lv 4 (.int (v4 + Int32.ofInt (-1)))) 0 = some (.ref 50) := x_o1 l0 rfl rfl
      have l1_1 : zld (zs1 lv 4 (.int (v4 + Int32.ofInt (-1)))) 1 = some (.ref 11) := x_o1 l1 rfl rfl
      have l2_1 : zld (zs1 lv 4 (.int (v4 + Int32.ofInt (-1)))) 2 = some (.int v2) := x_o1 l2 rfl rfl
      have l3_1 : zld (zs1 lv 4 (.int (v4 + Int32.ofInt (-1)))) 3 = some (.int v3) := x_o1 l3 rfl rfl
      have l4_1 : zld (zs1 lv 4 (.int (v4 + Int32.ofInt (-1)))) 4 = some (.int (v4 + Int32.ofInt (-1))) := zs1_ld _ _ _
      have l5_1 : zld (zs1 lv 4 (.int (v4 + Int32.ofInt (-1)))) 5 = some (.int v5) := x_o1 l5 rfl rfl
      generalize (zs1 lv 4 (.int (v4 + Int32.ofInt (-1)))) = lv1 at *
      refine r_s (fr' := (52, lv1, [])) (hp' := xW B m) (q := (.goto (-41), 3, 52, 0, .null)) rfl (fun _ => rfl) (Nat.le_refl _) ?_
      exact k52 l0_1 l1_1 l2_1 l3_1 l4_1 h
    · rw [if_neg (by rw [c]; decide)] at h
      refine q_lr (k := 1) (i := 0) (q := (.aload_n 0, 1, 0, 0, .null)) rfl (fun _ => rfl) l0 ?_
      refine r_gr (c := 59) H (pc := 67) rfl (by decide) (by decide) ?_
      refine q_li (k := 2) (i := 4) (q := (.iload 4, 2, 0, 0, .null)) rfl (fun _ => rfl) l4 ?_
      obtain ⟨c2, h⟩ := xif h
      refine q_aal (n := 7) (b := 60) H (pc := 72) rfl ⟨rfl, by decide⟩ c2 ?_
      refine q_li (k := 2) (i := 5) (q := (.iload 5, 2, 0, 0, .null)) rfl (fun _ => rfl) l5 ?_
      refine q_lr (k := 1) (i := 0) (q := (.aload_n 0, 1, 0, 0, .null)) rfl (fun _ => rfl) l0 ?_
      refine q_li (k := 2) (i := 4) (q := (.iload 4, 2, 0, 0, .null)) rfl (fun _ => rfl) l4 ?_
      refine q_li (k := 2) (i := 5) (q := (.iload 5, 2, 0, 0, .null)) rfl (fun _ => rfl) l5 ?_
      obtain ⟨q80, h80, h⟩ := xbind h
      refine r_call (ix := 50) (as := [.int v4, .int v5]) (rest := [.int v5, .ref (60 + (v4 : Int32).toNatClampNeg)]) (rv := some (.int q80.1)) (hp' := xW B q80.2) (pc := 80) rfl xr20 rfl rfl rfl (xkd H (by decide)) (Nat.le_of_ble_eq_true rfl) (Z20_50 H h80 (by omega)) (Nat.le_refl _) ?_
      obtain ⟨c3, h⟩ := xif h
      refine q_as (n := 64) (s2 := (xu q80.2 (60 + (v4 : Int32).toNatClampNeg) (v5 : Int32).toNatClampNeg q80.1)) H (pc := 83) rfl (xtS60_7 (xibS c2)) c3 rfl ?_
      refine q_inc (i := 5) (n := 1) (q := (.iinc 5 1, 3, 0, 0, .null)) rfl (fun _ => rfl) l5 (by decide) ?_
      have l0_4 : zld (zs1 lv 5 (.int (v5 + Int32.ofInt 1))) 0 = some (.ref 50) := x_o1 l0 rfl rfl
      have l1_4 : zld (zs1 lv 5 (.int (v5 + Int32.ofInt 1))) 1 = some (.ref 11) := x_o1 l1 rfl rfl
      have l2_4 : zld (zs1 lv 5 (.int (v5 + Int32.ofInt 1))) 2 = some (.int v2) := x_o1 l2 rfl rfl
      have l3_4 : zld (zs1 lv 5 (.int (v5 + Int32.ofInt 1))) 3 = some (.int v3) := x_o1 l3 rfl rfl
      have l4_4 : zld (zs1 lv 5 (.int (v5 + Int32.ofInt 1))) 4 = some (.int v4) := x_o1 l4 rfl rfl
      have l5_4 : zld (zs1 lv 5 (.int (v5 + Int32.ofInt 1))) 5 = some (.int (v5 + Int32.ofInt 1)) := zs1_ld _ _ _
      generalize (zs1 lv 5 (.int (v5 + Int32.ofInt 1))) = lv4 at *
      refine r_s (fr' := (60, lv4, [])) (hp' := xW B (xu q80.2 (60 + (v4 : Int32).toNatClampNeg) (v5 : Int32).toNatClampNeg q80.1)) (q := (.goto (-27), 3, 60, 0, .null)) rfl (fun _ => rfl) (Nat.le_refl _) ?_
      exact ih l0_4 l1_4 l2_4 l3_4 l4_4 l5_4 h
def D19_50_11t_52 (F : Nat) : Nat → Int32 → Int32 → Int32 → xS → Option (Int32 × xS)
  | 0, _, _, _, _ => none
  | f + 1, v2, v3, v4, m =>
    if zcmp .lt v4 0 = true then
      if xib 0 7 = true then
        some ((m.1 (60 + (0 : Int32).toNatClampNeg) 0), m)
      else none
    else
      D19_50_11t_60 F (D19_50_11t_52 F f) F v2 v3 v4 0 m
set_option maxRecDepth 20000 in
theorem T19_50_11t_52 {B : zHp} (H : yH0 B) {e : Nat} (he : 6 ≤ e + 1) (F : Nat) : ∀ (f : Nat) {v2 : Int32} {v3 : Int32} {v4 : Int32} {lv : List (Nat × Value)} {m : xS} {x : Int32 × xS}, zld lv 0 = some (.ref 50) → zld lv 1 = some (.ref 11) → zld lv 2 = some (.int v2) → zld lv 3 = some (.int v3) → zld lv 4 = some (.int v4) → D19_50_11t_52 F f v2 v3 v4 m = some x → zR none e 6 (some .int) zc19 (52, lv, []) (xW B m) (some (.int x.1), xW B x.2) := by
  intro f
  induction f with
  | zero => intro v2 v3 v4 lv m x l0 l1 l2 l3 l4 h; cases h
  | succ f ih =>
    intro v2 v3 v4 lv m x l0 l1 l2 l3 l4 h
    unfold D19_50_11t_52 at h
    refine q_li (k := 2) (i := 4) (q := (.iload 4, 2, 0, 0, .null)) rfl (fun _ => rfl) l4 ?_
    refine r_if (len := 3) (a := 96) (b := 0) (v0 := .null) (cn := .lt) (off := 42) rfl (fun c => ?_) (fun c => ?_)
    · rw [if_pos c] at h
      refine q_lr (k := 1) (i := 0) (q := (.aload_n 0, 1, 0, 0, .null)) rfl (fun _ => rfl) l0 ?_
      refine r_gr (c := 59) H (pc := 97) rfl (by decide) (by decide) ?_
      refine r_s (fr' := (101, lv, [.int 0, .ref 59])) (hp' := xW B m) (q := (.iconst 0, 1, 0, 0, .null)) rfl (fun _ => rfl) (Nat.le_refl _) ?_
      obtain ⟨c1, h⟩ := xif h
      refine q_aal (n := 7) (b := 60) H (pc := 101) rfl ⟨rfl, by decide⟩ c1 ?_
      refine r_s (fr' := (103, lv, [.int 0, .ref (60 + (0 : Int32).toNatClampNeg)])) (hp' := xW B m) (q := (.iconst 0, 1, 0, 0, .null)) rfl (fun _ => rfl) (Nat.le_refl _) ?_
      refine q_al (n := 64) (v := (m.1 (60 + (0 : Int32).toNatClampNeg) 0)) H (pc := 103) rfl (xtS60_7 (xibS c1)) (by decide) rfl ?_
      obtain rfl := Option.some.inj h
      exact q_ri (q := (.ireturn, 1, 0, 0, .null)) rfl (fun _ => rfl) rfl rfl
    · rw [if_neg (by rw [c]; decide)] at h
      refine r_s (fr' := (58, lv, [.int 0])) (hp' := xW B m) (q := (.iconst 0, 1, 0, 0, .null)) rfl (fun _ => rfl) (Nat.le_refl _) ?_
      refine q_si (k := 2) (i := 5) (q := (.istore 5, 2, 0, 0, .null)) rfl (fun _ => rfl) (by decide) ?_
      have l0_2 : zld (zs1 lv 5 (.int 0)) 0 = some (.ref 50) := x_o1 l0 rfl rfl
      have l1_2 : zld (zs1 lv 5 (.int 0)) 1 = some (.ref 11) := x_o1 l1 rfl rfl
      have l2_2 : zld (zs1 lv 5 (.int 0)) 2 = some (.int v2) := x_o1 l2 rfl rfl
      have l3_2 : zld (zs1 lv 5 (.int 0)) 3 = some (.int v3) := x_o1 l3 rfl rfl
      have l4_2 : zld (zs1 lv 5 (.int 0)) 4 = some (.int v4) := x_o1 l4 rfl rfl
      have l5_2 : zld (zs1 lv 5 (.int 0)) 5 = some (.int 0) := zs1_ld _ _ _
      generalize (zs1 lv 5 (.int 0)) = lv2 at *
      exact T19_50_11t_60 H he F _ ih F l0_2 l1_2 l2_2 l3_2 l4_2 l5_2 h
def D19_50_11t (F : Nat) (v2 : Int32) (m : xS) : Option (Int32 × xS) :=
  (D80_11t F m).bind fun q2 =>
    (D21_50_11t F v2 (xu q2.2 50 1 (if 6 < q2.1 then 6 else q2.1))).bind fun q16 =>
      (D79_11t F q16.2).bind fun q21 =>
        if xib (q21.2.1 50 1) 7 = true then
          (D291_S60_7 F (60 + ((q21.2.1 50 1) : Int32).toNatClampNeg) 0 q21.2).bind fun q41 =>
            D19_50_11t_52 F F v2 (if (64 : Int32) < (1 <<< (q21.1 &&& 31)) then 64 else (1 <<< (q21.1 &&& 31))) ((q41.2.1 50 1) - 1) q41.2
        else none
set_option maxRecDepth 20000 in
theorem T19_50_11t {B : zHp} (H : yH0 B) {e : Nat} (he : 6 ≤ e + 1) (F : Nat) {v2 : Int32} {lv : List (Nat × Value)} {m : xS} {x : Int32 × xS} (l0 : zld lv 0 = some (.ref 50)) (l1 : zld lv 1 = some (.ref 11)) (l2 : zld lv 2 = some (.int v2)) (h : D19_50_11t F v2 m = some x) : zR none e 6 (some .int) zc19 (0, lv, []) (xW B m) (some (.int x.1), xW B x.2) := by
  unfold D19_50_11t at h
  refine q_lr (k := 1) (i := 0) (q := (.aload_n 0, 1, 0, 0, .null)) rfl (fun _ => rfl) l0 ?_
  refine q_lr (k := 1) (i := 1) (q := (.aload_n 1, 1, 0, 0, .null)) rfl (fun _ => rfl) l1 ?_
  obtain ⟨q2, h2, h⟩ := xbind h
  refine r_call (ix := 11) (as := []) (rest := [.ref 50]) (rv := some (.int q2.1)) (hp' := xW B q2.2) (pc := 2) rfl xr80 rfl rfl rfl (xkd H (by decide)) (Nat.le_of_ble_eq_true rfl) (Z80_11t H h2 (by omega)) (Nat.le_refl _) ?_
  refine r_s (fr' := (7, lv, [.int 6, .int q2.1, .ref 50])) (hp' := xW B q2.2) (q := (.bipush 6, 2, 0, 0, .null)) rfl (fun _ => rfl) (Nat.le_refl _) ?_
  refine r_s (fr' := (10, lv, [.int (if 6 < q2.1 then 6 else q2.1), .ref 50])) (hp' := xW B q2.2) (q := (.invokestatic 36, 3, 0, 3, .null)) rfl (fun _ => rfl) (Nat.le_refl _) ?_
  refine r_pi (s2 := (xu q2.2 50 1 (if 6 < q2.1 then 6 else q2.1))) H (pc := 10) rfl (by decide) rfl rfl ?_
  refine q_lr (k := 1) (i := 0) (q := (.aload_n 0, 1, 0, 0, .null)) rfl (fun _ => rfl) l0 ?_
  refine q_lr (k := 1) (i := 1) (q := (.aload_n 1, 1, 0, 0, .null)) rfl (fun _ => rfl) l1 ?_
  refine q_li (k := 1) (i := 2) (q := (.iload_n 2, 1, 0, 0, .null)) rfl (fun _ => rfl) l2 ?_
  obtain ⟨q16, h16, h⟩ := xbind h
  refine r_call (ix := 50) (as := [.ref 11, .int v2]) (rest := []) (rv := none) (hp' := xW B q16.2) (pc := 16) rfl xr21 rfl rfl rfl (xkd H (by decide)) (Nat.le_of_ble_eq_true rfl) (Z21_50_11t H h16 (by omega)) (Nat.le_refl _) ?_
  refine r_s (fr' := (20, lv, [.int 1])) (hp' := xW B q16.2) (q := (.iconst 1, 1, 0, 0, .null)) rfl (fun _ => rfl) (Nat.le_refl _) ?_
  refine q_lr (k := 1) (i := 1) (q := (.aload_n 1, 1, 0, 0, .null)) rfl (fun _ => rfl) l1 ?_
  obtain ⟨q21, h21, h⟩ := xbind h
  refine r_call (ix := 11) (as := []) (rest := [.int 1]) (rv := some (.int q21.1)) (hp' := xW B q21.2) (pc := 21) rfl xr79 rfl rfl rfl (xkd H (by decide)) (Nat.le_of_ble_eq_true rfl) (Z79_11t H h21 (by omega)) (Nat.le_refl _) ?_
  refine r_s (fr' := (25, lv, [.int (1 <<< (q21.1 &&& 31))])) (hp' := xW B q21.2) (q := (.ishl, 1, 0, 0, .null)) rfl (fun _ => rfl) (Nat.le_refl _) ?_
  refine r_s (fr' := (27, lv, [.int 64, .int (1 <<< (q21.1 &&& 31))])) (hp' := xW B q21.2) (q := (.bipush 64, 2, 0, 0, .null)) rfl (fun _ => rfl) (Nat.le_refl _) ?_
  refine r_s (fr' := (30, lv, [.int (if (64 : Int32) < (1 <<< (q21.1 &&& 31)) then 64 else (1 <<< (q21.1 &&& 31)))])) (hp' := xW B q21.2) (q := (.invokestatic 36, 3, 0, 3, .null)) rfl (fun _ => rfl) (Nat.le_refl _) ?_
  refine q_si (k := 1) (i := 3) (q := (.istore_n 3, 1, 0, 0, .null)) rfl (fun _ => rfl) (by decide) ?_
  have l0_1 : zld (zs1 lv 3 (.int (if (64 : Int32) < (1 <<< (q21.1 &&& 31)) then 64 else (1 <<< (q21.1 &&& 31))))) 0 = some (.ref 50) := x_o1 l0 rfl rfl
  have l1_1 : zld (zs1 lv 3 (.int (if (64 : Int32) < (1 <<< (q21.1 &&& 31)) then 64 else (1 <<< (q21.1 &&& 31))))) 1 = some (.ref 11) := x_o1 l1 rfl rfl
  have l2_1 : zld (zs1 lv 3 (.int (if (64 : Int32) < (1 <<< (q21.1 &&& 31)) then 64 else (1 <<< (q21.1 &&& 31))))) 2 = some (.int v2) := x_o1 l2 rfl rfl
  have l3_1 : zld (zs1 lv 3 (.int (if (64 : Int32) < (1 <<< (q21.1 &&& 31)) then 64 else (1 <<< (q21.1 &&& 31))))) 3 = some (.int (if (64 : Int32) < (1 <<< (q21.1 &&& 31)) then 64 else (1 <<< (q21.1 &&& 31)))) := zs1_ld _ _ _
  generalize (zs1 lv 3 (.int (if (64 : Int32) < (1 <<< (q21.1 &&& 31)) then 64 else (1 <<< (q21.1 &&& 31))))) = lv1 at *
  refine q_lr (k := 1) (i := 0) (q := (.aload_n 0, 1, 0, 0, .null)) rfl (fun _ => rfl) l0_1 ?_
  refine r_gr (c := 59) H (pc := 32) rfl (by decide) (by decide) ?_
  refine q_lr (k := 1) (i := 0) (q := (.aload_n 0, 1, 0, 0, .null)) rfl (fun _ => rfl) l0_1 ?_
  refine r_gi (v := (q21.2.1 50 1)) H (pc := 36) (i := _) rfl (by decide) (by decide) rfl ?_
  obtain ⟨c2, h⟩ := xif h
  refine q_aal (n := 7) (b := 60) H (pc := 39) rfl ⟨rfl, by decide⟩ c2 ?_
  refine r_s (fr' := (41, lv1, [.int 0, .ref (60 + ((q21.2.1 50 1) : Int32).toNatClampNeg)])) (hp' := xW B q21.2) (q := (.iconst 0, 1, 0, 0, .null)) rfl (fun _ => rfl) (Nat.le_refl _) ?_
  obtain ⟨q41, h41, h⟩ := xbind h
  refine r_callS (as := [.ref (60 + ((q21.2.1 50 1) : Int32).toNatClampNeg), .int 0]) (rest := []) (rv := none) (hp' := xW B q41.2) (pc := 41) rfl xr291 rfl rfl rfl (Nat.le_of_ble_eq_true rfl) (Z291_S60_7 H ((xibS c2)) h41 (by omega)) (Nat.le_refl _) ?_
  refine q_lr (k := 1) (i := 0) (q := (.aload_n 0, 1, 0, 0, .null)) rfl (fun _ => rfl) l0_1 ?_
  refine r_gi (v := (q41.2.1 50 1)) H (pc := 45) (i := _) rfl (by decide) (by decide) rfl ?_
  refine r_s (fr' := (49, lv1, [.int 1, .int (q41.2.1 50 1)])) (hp' := xW B q41.2) (q := (.iconst 1, 1, 0, 0, .null)) rfl (fun _ => rfl) (Nat.le_refl _) ?_
  refine r_s (fr' := (50, lv1, [.int ((q41.2.1 50 1) - 1)])) (hp' := xW B q41.2) (q := (.isub, 1, 0, 0, .null)) rfl (fun _ => rfl) (Nat.le_refl _) ?_
  refine q_si (k := 2) (i := 4) (q := (.istore 4, 2, 0, 0, .null)) rfl (fun _ => rfl) (by decide) ?_
  have l0_3 : zld (zs1 lv1 4 (.int ((q41.2.1 50 1) - 1))) 0 = some (.ref 50) := x_o1 l0_1 rfl rfl
  have l1_3 : zld (zs1 lv1 4 (.int ((q41.2.1 50 1) - 1))) 1 = some (.ref 11) := x_o1 l1_1 rfl rfl
  have l2_3 : zld (zs1 lv1 4 (.int ((q41.2.1 50 1) - 1))) 2 = some (.int v2) := x_o1 l2_1 rfl rfl
  have l3_3 : zld (zs1 lv1 4 (.int ((q41.2.1 50 1) - 1))) 3 = some (.int (if (64 : Int32) < (1 <<< (q21.1 &&& 31)) then 64 else (1 <<< (q21.1 &&& 31)))) := x_o1 l3_1 rfl rfl
  have l4_3 : zld (zs1 lv1 4 (.int ((q41.2.1 50 1) - 1))) 4 = some (.int ((q41.2.1 50 1) - 1)) := zs1_ld _ _ _
  generalize (zs1 lv1 4 (.int ((q41.2.1 50 1) - 1))) = lv3 at *
  exact T19_50_11t_52 H he F F l0_3 l1_3 l2_3 l3_3 l4_3 h
set_option maxRecDepth 20000 in
theorem Z19_50_11t {B : zHp} (H : yH0 B) {F : Nat} {a2 : Int32} {m : xS} {x : Int32 × xS} (h : D19_50_11t F a2 m = some x) {d : Nat} (hd : 6 ≤ d) : zCan d 19 [.ref 50, .ref 11, .int a2] (xW B m) (some (.int x.1), xW B x.2) := by
  obtain ⟨e, rfl⟩ : ∃ e, d = e + 1 := ⟨d - 1, by omega⟩
  refine zCan_body (nL := 6) (rt := (some .int)) (cd := zc19) (xg19) ⟨Nat.le_of_ble_eq_true rfl, by decide⟩ (Nat.le_refl _) ?_
  exact T19_50_11t H hd F rfl rfl rfl h
/-- LentTools.owner -/
def D144_0_20 (F : Nat) (v1 : Int32) (v2 : Int32) (m : xS) : Option (Int32 × xS) :=
  some ((-1), m)
set_option maxRecDepth 20000 in
theorem T144_0_20 {B : zHp} (H : yH0 B) {e : Nat} (he : 7 ≤ e + 1) (F : Nat) {v1 : Int32} {v2 : Int32} {lv : List (Nat × Value)} {m : xS} {x : Int32 × xS} (l0 : zld lv 0 = some (.ref 0)) (l1 : zld lv 1 = some (.int v1)) (l2 : zld lv 2 = some (.int v2)) (h : D144_0_20 F v1 v2 m = some x) : zR none e 7 (some .int) zc144 (20, lv, []) (xW B m) (some (.int x.1), xW B x.2) := by
  unfold D144_0_20 at h
  refine r_s (fr' := (21, lv, [.int (-1)])) (hp' := xW B m) (q := (.iconst (-1), 1, 0, 0, .null)) rfl (fun _ => rfl) (Nat.le_refl _) ?_
  obtain rfl := Option.some.inj h
  exact q_ri (q := (.ireturn, 1, 0, 0, .null)) rfl (fun _ => rfl) rfl rfl
def D144_0_124 (F : Nat) (g49 : Int32 → Int32 → Int32 → Int32 → Int32 → xS → Option (Int32 × xS)) (v1 : Int32) (v2 : Int32) (v3 : Int32) (v4 : Int32) (v5 : Int32) (m : xS) : Option (Int32 × xS) :=
  g49 v1 v2 v3 v4 (v5 + Int32.ofInt 1) m
set_option maxRecDepth 20000 in
theorem T144_0_124 {B : zHp} (H : yH0 B) {e : Nat} (he : 7 ≤ e + 1) (F : Nat) (g49 : Int32 → Int32 → Int32 → Int32 → Int32 → xS → Option (Int32 × xS)) (k49 : ∀ {v1 : Int32} {v2 : Int32} {v3 : Int32} {v4 : Int32} {v5 : Int32} {lv : List (Nat × Value)} {m : xS} {x : Int32 × xS}, zld lv 0 = some (.ref 0) → zld lv 1 = some (.int v1) → zld lv 2 = some (.int v2) → zld lv 3 = some (.int v3) → zld lv 4 = some (.int v4) → zld lv 5 = some (.int v5) → g49 v1 v2 v3 v4 v5 m = some x → zR none e 7 (some .int) zc144 (49, lv, []) (xW B m) (some (.int x.1), xW B x.2)) {v1 : Int32} {v2 : Int32} {v3 : Int32} {v4 : Int32} {v5 : Int32} {lv : List (Nat × Value)} {m : xS} {x : Int32 × xS} (l0 : zld lv 0 = some (.ref 0)) (l1 : zld lv 1 = some (.int v1)) (l2 : zld lv 2 = some (.int v2)) (l3 : zld lv 3 = some (.int v3)) (l4 : zld lv 4 = some (.int v4)) (l5 : zld lv 5 = some (.int v5)) (h : D144_0_124 F g49 v1 v2 v3 v4 v5 m = some x) : zR none e 7 (some .int) zc144 (124, lv, []) (xW B m) (some (.int x.1), xW B x.2) := by
  unfold D144_0_124 at h
  refine q_inc (i := 5) (n := 1) (q := (.iinc 5 1, 3, 0, 0, .null)) rfl (fun _ => rfl) l5 (by decide) ?_
  have l0_1 : zld (zs1 lv 5 (.int (v5 + Int32.ofInt 1))) 0 = some (.ref 0) := x_o1 l0 rfl rfl
  have l1_1 : zld (zs1 lv 5 (.int (v5 + Int32.ofInt 1))) 1 = some (.int v1) := x_o1 l1 rfl rfl
  have l2_1 : zld (zs1 lv 5 (.int (v5 + Int32.ofInt 1))) 2 = some (.int v2) := x_o1 l2 rfl rfl
  have l3_1 : zld (zs1 lv 5 (.int (v5 + Int32.ofInt 1))) 3 = some (.int v3) := x_o1 l3 rfl rfl
  have l4_1 : zld (zs1 lv 5 (.int (v5 + Int32.ofInt 1))) 4 = some (.int v4) := x_o1 l4 rfl rfl
  have l5_1 : zld (zs1 lv 5 (.int (v5 + Int32.ofInt 1))) 5 = some (.int (v5 + Int32.ofInt 1)) := zs1_ld _ _ _
  generalize (zs1 lv 5 (.int (v5 + Int32.ofInt 1))) = lv1 at *
  refine r_s (fr' := (49, lv1, [])) (hp' := xW B m) (q := (.goto (-78), 3, 49, 0, .null)) rfl (fun _ => rfl) (Nat.le_refl _) ?_
  exact k49 l0_1 l1_1 l2_1 l3_1 l4_1 l5_1 h
def D144_0_49 (F : Nat) : Nat → Int32 → Int32 → Int32 → Int32 → Int32 → xS → Option (Int32 × xS)
  | 0, _, _, _, _, _, _ => none
  | f + 1, v1, v2, v3, v4, v5, m =>
    (D77_9 F m).bind fun q55 =>
      if zcmp .ge v5 q55.1 = true then
        if zcmp .ne v2 0 = true then
          some (v4, q55.2)
        else
          some (v3, q55.2)
      else
        (D87_9 F v1 0 q55.2).bind fun q69 =>
          if zcmp .eq v5 q69.1 = true then
            D144_0_124 F (D144_0_49 F f) v1 v2 v3 v4 v5 q69.2
          else
            (D70_11t_9 F q69.2).bind fun q83 =>
              (D104_11t F v1 v5 q83.2).bind fun q93 =>
                (D19_50_11t F (-1) q93.2).bind fun q105 =>
                  if zcmp .le q105.1 v4 = true then
                    D144_0_124 F (D144_0_49 F f) v1 v2 v3 v4 v5 q105.2
                  else
                    D144_0_124 F (D144_0_49 F f) v1 v2 v5 q105.1 v5 q105.2
set_option maxRecDepth 20000 in
theorem T144_0_49 {B : zHp} (H : yH0 B) {e : Nat} (he : 7 ≤ e + 1) (F : Nat) : ∀ (f : Nat) {v1 : Int32} {v2 : Int32} {v3 : Int32} {v4 : Int32} {v5 : Int32} {lv : List (Nat × Value)} {m : xS} {x : Int32 × xS}, zld lv 0 = some (.ref 0) → zld lv 1 = some (.int v1) → zld lv 2 = some (.int v2) → zld lv 3 = some (.int v3) → zld lv 4 = some (.int v4) → zld lv 5 = some (.int v5) → D144_0_49 F f v1 v2 v3 v4 v5 m = some x → zR none e 7 (some .int) zc144 (49, lv, []) (xW B m) (some (.int x.1), xW B x.2) := by
  intro f
  induction f with
  | zero => intro v1 v2 v3 v4 v5 lv m x l0 l1 l2 l3 l4 l5 h; cases h
  | succ f ih =>
    intro v1 v2 v3 v4 v5 lv m x l0 l1 l2 l3 l4 l5 h
    unfold D144_0_49 at h
    refine q_li (k := 2) (i := 5) (q := (.iload 5, 2, 0, 0, .null)) rfl (fun _ => rfl) l5 ?_
    refine q_lr (k := 1) (i := 0) (q := (.aload_n 0, 1, 0, 0, .null)) rfl (fun _ => rfl) l0 ?_
    refine r_gr (c := 9) H (pc := 52) rfl (by decide) (by decide) ?_
    obtain ⟨q55, h55, h⟩ := xbind h
    refine r_call (ix := 9) (as := []) (rest := [.int v5]) (rv := some (.int q55.1)) (hp' := xW B q55.2) (pc := 55) rfl xr77 rfl rfl rfl (xkd H (by decide)) (Nat.le_of_ble_eq_true rfl) (Z77_9 H h55 (by omega)) (Nat.le_refl _) ?_
    refine r_ifc (len := 3) (a := 130) (b := 0) (v0 := .null) (cn := .ge) (off := 72) rfl (fun c => ?_) (fun c => ?_)
    · rw [if_pos c] at h
      refine q_li (k := 1) (i := 2) (q := (.iload_n 2, 1, 0, 0, .null)) rfl (fun _ => rfl) l2 ?_
      refine r_if (len := 3) (a := 138) (b := 0) (v0 := .null) (cn := .ne) (off := 7) rfl (fun c => ?_) (fun c => ?_)
      · rw [if_pos c] at h
        refine q_li (k := 2) (i := 4) (q := (.iload 4, 2, 0, 0, .null)) rfl (fun _ => rfl) l4 ?_
        obtain rfl := Option.some.inj h
        exact q_ri (q := (.ireturn, 1, 0, 0, .null)) rfl (fun _ => rfl) rfl rfl
      · rw [if_neg (by rw [c]; decide)] at h
        refine q_li (k := 1) (i := 3) (q := (.iload_n 3, 1, 0, 0, .null)) rfl (fun _ => rfl) l3 ?_
        refine r_s (fr' := (140, lv, [.int v3])) (hp' := xW B q55.2) (q := (.goto 5, 3, 140, 0, .null)) rfl (fun _ => rfl) (Nat.le_refl _) ?_
        obtain rfl := Option.some.inj h
        exact q_ri (q := (.ireturn, 1, 0, 0, .null)) rfl (fun _ => rfl) rfl rfl
    · rw [if_neg (by rw [c]; decide)] at h
      refine q_li (k := 2) (i := 5) (q := (.iload 5, 2, 0, 0, .null)) rfl (fun _ => rfl) l5 ?_
      refine q_lr (k := 1) (i := 0) (q := (.aload_n 0, 1, 0, 0, .null)) rfl (fun _ => rfl) l0 ?_
      refine r_gr (c := 9) H (pc := 64) rfl (by decide) (by decide) ?_
      refine q_li (k := 1) (i := 1) (q := (.iload_n 1, 1, 0, 0, .null)) rfl (fun _ => rfl) l1 ?_
      refine r_s (fr' := (69, lv, [.int 0, .int v1, .ref 9, .int v5])) (hp' := xW B q55.2) (q := (.iconst 0, 1, 0, 0, .null)) rfl (fun _ => rfl) (Nat.le_refl _) ?_
      obtain ⟨q69, h69, h⟩ := xbind h
      refine r_call (ix := 9) (as := [.int v1, .int 0]) (rest := [.int v5]) (rv := some (.int q69.1)) (hp' := xW B q69.2) (pc := 69) rfl xr87 rfl rfl rfl (xkd H (by decide)) (Nat.le_of_ble_eq_true rfl) (Z87_9 H h69 (by omega)) (Nat.le_refl _) ?_
      refine r_ifc (len := 3) (a := 124) (b := 0) (v0 := .null) (cn := .eq) (off := 52) rfl (fun c => ?_) (fun c => ?_)
      · rw [if_pos c] at h
        exact T144_0_124 H he F _ ih l0 l1 l2 l3 l4 l5 h
      · rw [if_neg (by rw [c]; decide)] at h
        refine q_lr (k := 1) (i := 0) (q := (.aload_n 0, 1, 0, 0, .null)) rfl (fun _ => rfl) l0 ?_
        refine r_gr (c := 11) H (pc := 76) rfl (by decide) (by decide) ?_
        refine q_lr (k := 1) (i := 0) (q := (.aload_n 0, 1, 0, 0, .null)) rfl (fun _ => rfl) l0 ?_
        refine r_gr (c := 9) H (pc := 80) rfl (by decide) (by decide) ?_
        obtain ⟨q83, h83, h⟩ := xbind h
        refine r_call (ix := 11) (as := [.ref 9]) (rest := []) (rv := none) (hp' := xW B q83.2) (pc := 83) rfl xr70 rfl rfl rfl (xkd H (by decide)) (Nat.le_of_ble_eq_true rfl) (Z70_11t_9 H h83 (by omega)) (Nat.le_refl _) ?_
        refine q_lr (k := 1) (i := 0) (q := (.aload_n 0, 1, 0, 0, .null)) rfl (fun _ => rfl) l0 ?_
        refine r_gr (c := 11) H (pc := 87) rfl (by decide) (by decide) ?_
        refine q_li (k := 1) (i := 1) (q := (.iload_n 1, 1, 0, 0, .null)) rfl (fun _ => rfl) l1 ?_
        refine q_li (k := 2) (i := 5) (q := (.iload 5, 2, 0, 0, .null)) rfl (fun _ => rfl) l5 ?_
        obtain ⟨q93, h93, h⟩ := xbind h
        refine r_call (ix := 11) (as := [.int v1, .int v5]) (rest := []) (rv := none) (hp' := xW B q93.2) (pc := 93) rfl xr104 rfl rfl rfl (xkd H (by decide)) (Nat.le_of_ble_eq_true rfl) (Z104_11t H h93 (by omega)) (Nat.le_refl _) ?_
        refine q_lr (k := 1) (i := 0) (q := (.aload_n 0, 1, 0, 0, .null)) rfl (fun _ => rfl) l0 ?_
        refine r_gr (c := 50) H (pc := 97) rfl (by decide) (by decide) ?_
        refine q_lr (k := 1) (i := 0) (q := (.aload_n 0, 1, 0, 0, .null)) rfl (fun _ => rfl) l0 ?_
        refine r_gr (c := 11) H (pc := 101) rfl (by decide) (by decide) ?_
        refine r_s (fr' := (105, lv, [.int (-1), .ref 11, .ref 50])) (hp' := xW B q93.2) (q := (.iconst (-1), 1, 0, 0, .null)) rfl (fun _ => rfl) (Nat.le_refl _) ?_
        obtain ⟨q105, h105, h⟩ := xbind h
        refine r_call (ix := 50) (as := [.ref 11, .int (-1)]) (rest := []) (rv := some (.int q105.1)) (hp' := xW B q105.2) (pc := 105) rfl xr19 rfl rfl rfl (xkd H (by decide)) (Nat.le_of_ble_eq_true rfl) (Z19_50_11t H h105 (by omega)) (Nat.le_refl _) ?_
        refine q_si (k := 2) (i := 6) (q := (.istore 6, 2, 0, 0, .null)) rfl (fun _ => rfl) (by decide) ?_
        have l0_1 : zld (zs1 lv 6 (.int q105.1)) 0 = some (.ref 0) := x_o1 l0 rfl rfl
        have l1_1 : zld (zs1 lv 6 (.int q105.1)) 1 = some (.int v1) := x_o1 l1 rfl rfl
        have l2_1 : zld (zs1 lv 6 (.int q105.1)) 2 = some (.int v2) := x_o1 l2 rfl rfl
        have l3_1 : zld (zs1 lv 6 (.int q105.1)) 3 = some (.int v3) := x_o1 l3 rfl rfl
        have l4_1 : zld (zs1 lv 6 (.int q105.1)) 4 = some (.int v4) := x_o1 l4 rfl rfl
        have l5_1 : zld (zs1 lv 6 (.int q105.1)) 5 = some (.int v5) := x_o1 l5 rfl rfl
        have l6_1 : zld (zs1 lv 6 (.int q105.1)) 6 = some (.int q105.1) := zs1_ld _ _ _
        generalize (zs1 lv 6 (.int q105.1)) = lv1 at *
        refine q_li (k := 2) (i := 6) (q := (.iload 6, 2, 0, 0, .null)) rfl (fun _ => rfl) l6_1 ?_
        refine q_li (k := 2) (i := 4) (q := (.iload 4, 2, 0, 0, .null)) rfl (fun _ => rfl) l4_1 ?_
        refine r_ifc (len := 3) (a := 124) (b := 0) (v0 := .null) (cn := .le) (off := 10) rfl (fun c => ?_) (fun c => ?_)
        · rw [if_pos c] at h
          exact T144_0_124 H he F _ ih l0_1 l1_1 l2_1 l3_1 l4_1 l5_1 h
        · rw [if_neg (by rw [c]; decide)] at h
          refine q_li (k := 2) (i := 6) (q := (.iload 6, 2, 0, 0, .null)) rfl (fun _ => rfl) l6_1 ?_
          refine q_si (k := 2) (i := 4) (q := (.istore 4, 2, 0, 0, .null)) rfl (fun _ => rfl) (by decide) ?_
          have l0_2 : zld (zs1 lv1 4 (.int q105.1)) 0 = some (.ref 0) := x_o1 l0_1 rfl rfl
          have l1_2 : zld (zs1 lv1 4 (.int q105.1)) 1 = some (.int v1) := x_o1 l1_1 rfl rfl
          have l2_2 : zld (zs1 lv1 4 (.int q105.1)) 2 = some (.int v2) := x_o1 l2_1 rfl rfl
          have l3_2 : zld (zs1 lv1 4 (.int q105.1)) 3 = some (.int v3) := x_o1 l3_1 rfl rfl
          have l4_2 : zld (zs1 lv1 4 (.int q105.1)) 4 = some (.int q105.1) := zs1_ld _ _ _
          have l5_2 : zld (zs1 lv1 4 (.int q105.1)) 5 = some (.int v5) := x_o1 l5_1 rfl rfl
          have l6_2 : zld (zs1 lv1 4 (.int q105.1)) 6 = some (.int q105.1) := x_o1 l6_1 rfl rfl
          generalize (zs1 lv1 4 (.int q105.1)) = lv2 at *
          refine q_li (k := 2) (i := 5) (q := (.iload 5, 2, 0, 0, .null)) rfl (fun _ => rfl) l5_2 ?_
          refine q_si (k := 1) (i := 3) (q := (.istore_n 3, 1, 0, 0, .null)) rfl (fun _ => rfl) (by decide) ?_
          have l0_3 : zld (zs1 lv2 3 (.int v5)) 0 = some (.ref 0) := x_o1 l0_2 rfl rfl
          have l1_3 : zld (zs1 lv2 3 (.int v5)) 1 = some (.int v1) := x_o1 l1_2 rfl rfl
          have l2_3 : zld (zs1 lv2 3 (.int v5)) 2 = some (.int v2) := x_o1 l2_2 rfl rfl
          have l3_3 : zld (zs1 lv2 3 (.int v5)) 3 = some (.int v5) := zs1_ld _ _ _
          have l4_3 : zld (zs1 lv2 3 (.int v5)) 4 = some (.int q105.1) := x_o1 l4_2 rfl rfl
          have l5_3 : zld (zs1 lv2 3 (.int v5)) 5 = some (.int v5) := x_o1 l5_2 rfl rfl
          have l6_3 : zld (zs1 lv2 3 (.int v5)) 6 = some (.int q105.1) := x_o1 l6_2 rfl rfl
          generalize (zs1 lv2 3 (.int v5)) = lv3 at *
          exact T144_0_124 H he F _ ih l0_3 l1_3 l2_3 l3_3 l4_3 l5_3 h
def D144_0 (F : Nat) (v1 : Int32) (v2 : Int32) (m : xS) : Option (Int32 × xS) :=
  (D83_9 F v1 m).bind fun q5 =>
    if zcmp .eq q5.1 0 = true then
      D144_0_20 F v1 v2 q5.2
    else
      if zcmp .lt v2 0 = true then
        D144_0_20 F v1 v2 q5.2
      else
        if zcmp .le v2 1 = true then
          (D87_9 F v1 0 q5.2).bind fun q28 =>
            (D19_50_9 F (-1) q28.2).bind fun q41 =>
              D144_0_49 F F v1 v2 q28.1 q41.1 0 q41.2
        else
          D144_0_20 F v1 v2 q5.2
set_option maxRecDepth 20000 in
theorem T144_0 {B : zHp} (H : yH0 B) {e : Nat} (he : 7 ≤ e + 1) (F : Nat) {v1 : Int32} {v2 : Int32} {lv : List (Nat × Value)} {m : xS} {x : Int32 × xS} (l0 : zld lv 0 = some (.ref 0)) (l1 : zld lv 1 = some (.int v1)) (l2 : zld lv 2 = some (.int v2)) (h : D144_0 F v1 v2 m = some x) : zR none e 7 (some .int) zc144 (0, lv, []) (xW B m) (some (.int x.1), xW B x.2) := by
  unfold D144_0 at h
  refine q_lr (k := 1) (i := 0) (q := (.aload_n 0, 1, 0, 0, .null)) rfl (fun _ => rfl) l0 ?_
  refine r_gr (c := 9) H (pc := 1) rfl (by decide) (by decide) ?_
  refine q_li (k := 1) (i := 1) (q := (.iload_n 1, 1, 0, 0, .null)) rfl (fun _ => rfl) l1 ?_
  obtain ⟨q5, h5, h⟩ := xbind h
  refine r_call (ix := 9) (as := [.int v1]) (rest := []) (rv := some (.int q5.1)) (hp' := xW B q5.2) (pc := 5) rfl xr83 rfl rfl rfl (xkd H (by decide)) (Nat.le_of_ble_eq_true rfl) (Z83_9 H h5 (by omega)) (Nat.le_refl _) ?_
  refine r_if (len := 3) (a := 20) (b := 0) (v0 := .null) (cn := .eq) (off := 12) rfl (fun c => ?_) (fun c => ?_)
  · rw [if_pos c] at h
    exact T144_0_20 H he F l0 l1 l2 h
  · rw [if_neg (by rw [c]; decide)] at h
    refine q_li (k := 1) (i := 2) (q := (.iload_n 2, 1, 0, 0, .null)) rfl (fun _ => rfl) l2 ?_
    refine r_if (len := 3) (a := 20) (b := 0) (v0 := .null) (cn := .lt) (off := 8) rfl (fun c => ?_) (fun c => ?_)
    · rw [if_pos c] at h
      exact T144_0_20 H he F l0 l1 l2 h
    · rw [if_neg (by rw [c]; decide)] at h
      refine q_li (k := 1) (i := 2) (q := (.iload_n 2, 1, 0, 0, .null)) rfl (fun _ => rfl) l2 ?_
      refine r_s (fr' := (17, lv, [.int 1, .int v2])) (hp' := xW B q5.2) (q := (.iconst 1, 1, 0, 0, .null)) rfl (fun _ => rfl) (Nat.le_refl _) ?_
      refine r_ifc (len := 3) (a := 22) (b := 0) (v0 := .null) (cn := .le) (off := 5) rfl (fun c => ?_) (fun c => ?_)
      · rw [if_pos c] at h
        refine q_lr (k := 1) (i := 0) (q := (.aload_n 0, 1, 0, 0, .null)) rfl (fun _ => rfl) l0 ?_
        refine r_gr (c := 9) H (pc := 23) rfl (by decide) (by decide) ?_
        refine q_li (k := 1) (i := 1) (q := (.iload_n 1, 1, 0, 0, .null)) rfl (fun _ => rfl) l1 ?_
        refine r_s (fr' := (28, lv, [.int 0, .int v1, .ref 9])) (hp' := xW B q5.2) (q := (.iconst 0, 1, 0, 0, .null)) rfl (fun _ => rfl) (Nat.le_refl _) ?_
        obtain ⟨q28, h28, h⟩ := xbind h
        refine r_call (ix := 9) (as := [.int v1, .int 0]) (rest := []) (rv := some (.int q28.1)) (hp' := xW B q28.2) (pc := 28) rfl xr87 rfl rfl rfl (xkd H (by decide)) (Nat.le_of_ble_eq_true rfl) (Z87_9 H h28 (by omega)) (Nat.le_refl _) ?_
        refine q_si (k := 1) (i := 3) (q := (.istore_n 3, 1, 0, 0, .null)) rfl (fun _ => rfl) (by decide) ?_
        have l0_1 : zld (zs1 lv 3 (.int q28.1)) 0 = some (.ref 0) := x_o1 l0 rfl rfl
        have l1_1 : zld (zs1 lv 3 (.int q28.1)) 1 = some (.int v1) := x_o1 l1 rfl rfl
        have l2_1 : zld (zs1 lv 3 (.int q28.1)) 2 = some (.int v2) := x_o1 l2 rfl rfl
        have l3_1 : zld (zs1 lv 3 (.int q28.1)) 3 = some (.int q28.1) := zs1_ld _ _ _
        generalize (zs1 lv 3 (.int q28.1)) = lv1 at *
        refine q_lr (k := 1) (i := 0) (q := (.aload_n 0, 1, 0, 0, .null)) rfl (fun _ => rfl) l0_1 ?_
        refine r_gr (c := 50) H (pc := 33) rfl (by decide) (by decide) ?_
        refine q_lr (k := 1) (i := 0) (q := (.aload_n 0, 1, 0, 0, .null)) rfl (fun _ => rfl) l0_1 ?_
        refine r_gr (c := 9) H (pc := 37) rfl (by decide) (by decide) ?_
        refine r_s (fr' := (41, lv1, [.int (-1), .ref 9, .ref 50])) (hp' := xW B q28.2) (q := (.iconst (-1), 1, 0, 0, .null)) rfl (fun _ => rfl) (Nat.le_refl _) ?_
        obtain ⟨q41, h41, h⟩ := xbind h
        refine r_call (ix := 50) (as := [.ref 9, .int (-1)]) (rest := []) (rv := some (.int q41.1)) (hp' := xW B q41.2) (pc := 41) rfl xr19 rfl rfl rfl (xkd H (by decide)) (Nat.le_of_ble_eq_true rfl) (Z19_50_9 H h41 (by omega)) (Nat.le_refl _) ?_
        refine q_si (k := 2) (i := 4) (q := (.istore 4, 2, 0, 0, .null)) rfl (fun _ => rfl) (by decide) ?_
        have l0_2 : zld (zs1 lv1 4 (.int q41.1)) 0 = some (.ref 0) := x_o1 l0_1 rfl rfl
        have l1_2 : zld (zs1 lv1 4 (.int q41.1)) 1 = some (.int v1) := x_o1 l1_1 rfl rfl
        have l2_2 : zld (zs1 lv1 4 (.int q41.1)) 2 = some (.int v2) := x_o1 l2_1 rfl rfl
        have l3_2 : zld (zs1 lv1 4 (.int q41.1)) 3 = some (.int q28.1) := x_o1 l3_1 rfl rfl
        have l4_2 : zld (zs1 lv1 4 (.int q41.1)) 4 = some (.int q41.1) := zs1_ld _ _ _
        generalize (zs1 lv1 4 (.int q41.1)) = lv2 at *
        refine r_s (fr' := (47, lv2, [.int 0])) (hp' := xW B q41.2) (q := (.iconst 0, 1, 0, 0, .null)) rfl (fun _ => rfl) (Nat.le_refl _) ?_
        refine q_si (k := 2) (i := 5) (q := (.istore 5, 2, 0, 0, .null)) rfl (fun _ => rfl) (by decide) ?_
        have l0_3 : zld (zs1 lv2 5 (.int 0)) 0 = some (.ref 0) := x_o1 l0_2 rfl rfl
        have l1_3 : zld (zs1 lv2 5 (.int 0)) 1 = some (.int v1) := x_o1 l1_2 rfl rfl
        have l2_3 : zld (zs1 lv2 5 (.int 0)) 2 = some (.int v2) := x_o1 l2_2 rfl rfl
        have l3_3 : zld (zs1 lv2 5 (.int 0)) 3 = some (.int q28.1) := x_o1 l3_2 rfl rfl
        have l4_3 : zld (zs1 lv2 5 (.int 0)) 4 = some (.int q41.1) := x_o1 l4_2 rfl rfl
        have l5_3 : zld (zs1 lv2 5 (.int 0)) 5 = some (.int 0) := zs1_ld _ _ _
        generalize (zs1 lv2 5 (.int 0)) = lv3 at *
        exact T144_0_49 H he F F l0_3 l1_3 l2_3 l3_3 l4_3 l5_3 h
      · rw [if_neg (by rw [c]; decide)] at h
        exact T144_0_20 H he F l0 l1 l2 h
set_option maxRecDepth 20000 in
theorem Z144_0 {B : zHp} (H : yH0 B) {F : Nat} {a1 : Int32} {a2 : Int32} {m : xS} {x : Int32 × xS} (h : D144_0 F a1 a2 m = some x) {d : Nat} (hd : 7 ≤ d) : zCan d 144 [.ref 0, .int a1, .int a2] (xW B m) (some (.int x.1), xW B x.2) := by
  obtain ⟨e, rfl⟩ : ∃ e, d = e + 1 := ⟨d - 1, by omega⟩
  refine zCan_body (nL := 7) (rt := (some .int)) (cd := zc144) (xg144) ⟨Nat.le_of_ble_eq_true rfl, by decide⟩ (Nat.le_refl _) ?_
  exact T144_0 H hd F rfl rfl rfl h
/-- LentTools$Village.fallOut -/
def D105_11t (F : Nat) (v1 : Int32) (v2 : Int32) (m : xS) : Option (Unit × xS) :=
  if xib (72 + v1) 114 = true then
    if xib (72 + v1) 114 = true then
      if xib (72 + v2) 114 = true then
        if xib (72 + v2) 114 = true then
          some ((), (xu (xu m 12 ((72 + v1) : Int32).toNatClampNeg ((m.1 12 ((72 + v1) : Int32).toNatClampNeg) &&& ((1 <<< (v2 &&& 31)) ^^^ (-1)))) 12 ((72 + v2) : Int32).toNatClampNeg (((xu m 12 ((72 + v1) : Int32).toNatClampNeg ((m.1 12 ((72 + v1) : Int32).toNatClampNeg) &&& ((1 <<< (v2 &&& 31)) ^^^ (-1)))).1 12 ((72 + v2) : Int32).toNatClampNeg) &&& ((1 <<< (v1 &&& 31)) ^^^ (-1)))))
        else none
      else none
    else none
  else none
set_option maxRecDepth 20000 in
theorem T105_11t {B : zHp} (H : yH0 B) {e : Nat} (he : 1 ≤ e + 1) (F : Nat) {v1 : Int32} {v2 : Int32} {lv : List (Nat × Value)} {m : xS} {x : Unit × xS} (l0 : zld lv 0 = some (.ref 11)) (l1 : zld lv 1 = some (.int v1)) (l2 : zld lv 2 = some (.int v2)) (h : D105_11t F v1 v2 m = some x) : zR none e 3 none zc105 (0, lv, []) (xW B m) (none, xW B x.2) := by
  unfold D105_11t at h
  refine q_lr (k := 1) (i := 0) (q := (.aload_n 0, 1, 0, 0, .null)) rfl (fun _ => rfl) l0 ?_
  refine r_gr (c := 12) H (pc := 1) rfl (by decide) (by decide) ?_
  refine r_s (fr' := (6, lv, [.int 72, .ref 12])) (hp' := xW B m) (q := (.bipush 72, 2, 0, 0, .null)) rfl (fun _ => rfl) (Nat.le_refl _) ?_
  refine q_li (k := 1) (i := 1) (q := (.iload_n 1, 1, 0, 0, .null)) rfl (fun _ => rfl) l1 ?_
  refine r_s (fr' := (8, lv, [.int (72 + v1), .ref 12])) (hp' := xW B m) (q := (.iadd, 1, 0, 0, .null)) rfl (fun _ => rfl) (Nat.le_refl _) ?_
  refine r_s (fr' := (9, lv, [.int (72 + v1), .ref 12, .int (72 + v1), .ref 12])) (hp' := xW B m) (q := (.dup2, 1, 0, 0, .null)) rfl (fun _ => rfl) (Nat.le_refl _) ?_
  obtain ⟨c1, h⟩ := xif h
  refine q_al (n := 114) (v := (m.1 12 ((72 + v1) : Int32).toNatClampNeg)) H (pc := 9) rfl (by decide) c1 rfl ?_
  refine r_s (fr' := (11, lv, [.int 1, .int (m.1 12 ((72 + v1) : Int32).toNatClampNeg), .int (72 + v1), .ref 12])) (hp' := xW B m) (q := (.iconst 1, 1, 0, 0, .null)) rfl (fun _ => rfl) (Nat.le_refl _) ?_
  refine q_li (k := 1) (i := 2) (q := (.iload_n 2, 1, 0, 0, .null)) rfl (fun _ => rfl) l2 ?_
  refine r_s (fr' := (13, lv, [.int (1 <<< (v2 &&& 31)), .int (m.1 12 ((72 + v1) : Int32).toNatClampNeg), .int (72 + v1), .ref 12])) (hp' := xW B m) (q := (.ishl, 1, 0, 0, .null)) rfl (fun _ => rfl) (Nat.le_refl _) ?_
  refine r_s (fr' := (14, lv, [.int (-1), .int (1 <<< (v2 &&& 31)), .int (m.1 12 ((72 + v1) : Int32).toNatClampNeg), .int (72 + v1), .ref 12])) (hp' := xW B m) (q := (.iconst (-1), 1, 0, 0, .null)) rfl (fun _ => rfl) (Nat.le_refl _) ?_
  refine r_s (fr' := (15, lv, [.int ((1 <<< (v2 &&& 31)) ^^^ (-1)), .int (m.1 12 ((72 + v1) : Int32).toNatClampNeg), .int (72 + v1), .ref 12])) (hp' := xW B m) (q := (.ixor, 1, 0, 0, .null)) rfl (fun _ => rfl) (Nat.le_refl _) ?_
  refine r_s (fr' := (16, lv, [.int ((m.1 12 ((72 + v1) : Int32).toNatClampNeg) &&& ((1 <<< (v2 &&& 31)) ^^^ (-1))), .int (72 + v1), .ref 12])) (hp' := xW B m) (q := (.iand, 1, 0, 0, .null)) rfl (fun _ => rfl) (Nat.le_refl _) ?_
  obtain ⟨c2, h⟩ := xif h
  refine q_as (n := 114) (s2 := (xu m 12 ((72 + v1) : Int32).toNatClampNeg ((m.1 12 ((72 + v1) : Int32).toNatClampNeg) &&& ((1 <<< (v2 &&& 31)) ^^^ (-1))))) H (pc := 16) rfl (by decide) c2 rfl ?_
  refine q_lr (k := 1) (i := 0) (q := (.aload_n 0, 1, 0, 0, .null)) rfl (fun _ => rfl) l0 ?_
  refine r_gr (c := 12) H (pc := 18) rfl (by decide) (by decide) ?_
  refine r_s (fr' := (23, lv, [.int 72, .ref 12])) (hp' := xW B (xu m 12 ((72 + v1) : Int32).toNatClampNeg ((m.1 12 ((72 + v1) : Int32).toNatClampNeg) &&& ((1 <<< (v2 &&& 31)) ^^^ (-1))))) (q := (.bipush 72, 2, 0, 0, .null)) rfl (fun _ => rfl) (Nat.le_refl _) ?_
  refine q_li (k := 1) (i := 2) (q := (.iload_n 2, 1, 0, 0, .null)) rfl (fun _ => rfl) l2 ?_
  refine r_s (fr' := (25, lv, [.int (72 + v2), .ref 12])) (hp' := xW B (xu m 12 ((72 + v1) : Int32).toNatClampNeg ((m.1 12 ((72 + v1) : Int32).toNatClampNeg) &&& ((1 <<< (v2 &&& 31)) ^^^ (-1))))) (q := (.iadd, 1, 0, 0, .null)) rfl (fun _ => rfl) (Nat.le_refl _) ?_
  refine r_s (fr' := (26, lv, [.int (72 + v2), .ref 12, .int (72 + v2), .ref 12])) (hp' := xW B (xu m 12 ((72 + v1) : Int32).toNatClampNeg ((m.1 12 ((72 + v1) : Int32).toNatClampNeg) &&& ((1 <<< (v2 &&& 31)) ^^^ (-1))))) (q := (.dup2, 1, 0, 0, .null)) rfl (fun _ => rfl) (Nat.le_refl _) ?_
  obtain ⟨c3, h⟩ := xif h
  refine q_al (n := 114) (v := ((xu m 12 ((72 + v1) : Int32).toNatClampNeg ((m.1 12 ((72 + v1) : Int32).toNatClampNeg) &&& ((1 <<< (v2 &&& 31)) ^^^ (-1)))).1 12 ((72 + v2) : Int32).toNatClampNeg)) H (pc := 26) rfl (by decide) c3 rfl ?_
  refine r_s (fr' := (28, lv, [.int 1, .int ((xu m 12 ((72 + v1) : Int32).toNatClampNeg ((m.1 12 ((72 + v1) : Int32).toNatClampNeg) &&& ((1 <<< (v2 &&& 31)) ^^^ (-1)))).1 12 ((72 + v2) : Int32).toNatClampNeg), .int (72 + v2), .ref 12])) (hp' := xW B (xu m 12 ((72 + v1) : Int32).toNatClampNeg ((m.1 12 ((72 + v1) : Int32).toNatClampNeg) &&& ((1 <<< (v2 &&& 31)) ^^^ (-1))))) (q := (.iconst 1, 1, 0, 0, .null)) rfl (fun _ => rfl) (Nat.le_refl _) ?_
  refine q_li (k := 1) (i := 1) (q := (.iload_n 1, 1, 0, 0, .null)) rfl (fun _ => rfl) l1 ?_
  refine r_s (fr' := (30, lv, [.int (1 <<< (v1 &&& 31)), .int ((xu m 12 ((72 + v1) : Int32).toNatClampNeg ((m.1 12 ((72 + v1) : Int32).toNatClampNeg) &&& ((1 <<< (v2 &&& 31)) ^^^ (-1)))).1 12 ((72 + v2) : Int32).toNatClampNeg), .int (72 + v2), .ref 12])) (hp' := xW B (xu m 12 ((72 + v1) : Int32).toNatClampNeg ((m.1 12 ((72 + v1) : Int32).toNatClampNeg) &&& ((1 <<< (v2 &&& 31)) ^^^ (-1))))) (q := (.ishl, 1, 0, 0, .null)) rfl (fun _ => rfl) (Nat.le_refl _) ?_
  refine r_s (fr' := (31, lv, [.int (-1), .int (1 <<< (v1 &&& 31)), .int ((xu m 12 ((72 + v1) : Int32).toNatClampNeg ((m.1 12 ((72 + v1) : Int32).toNatClampNeg) &&& ((1 <<< (v2 &&& 31)) ^^^ (-1)))).1 12 ((72 + v2) : Int32).toNatClampNeg), .int (72 + v2), .ref 12])) (hp' := xW B (xu m 12 ((72 + v1) : Int32).toNatClampNeg ((m.1 12 ((72 + v1) : Int32).toNatClampNeg) &&& ((1 <<< (v2 &&& 31)) ^^^ (-1))))) (q := (.iconst (-1), 1, 0, 0, .null)) rfl (fun _ => rfl) (Nat.le_refl _) ?_
  refine r_s (fr' := (32, lv, [.int ((1 <<< (v1 &&& 31)) ^^^ (-1)), .int ((xu m 12 ((72 + v1) : Int32).toNatClampNeg ((m.1 12 ((72 + v1) : Int32).toNatClampNeg) &&& ((1 <<< (v2 &&& 31)) ^^^ (-1)))).1 12 ((72 + v2) : Int32).toNatClampNeg), .int (72 + v2), .ref 12])) (hp' := xW B (xu m 12 ((72 + v1) : Int32).toNatClampNeg ((m.1 12 ((72 + v1) : Int32).toNatClampNeg) &&& ((1 <<< (v2 &&& 31)) ^^^ (-1))))) (q := (.ixor, 1, 0, 0, .null)) rfl (fun _ => rfl) (Nat.le_refl _) ?_
  refine r_s (fr' := (33, lv, [.int (((xu m 12 ((72 + v1) : Int32).toNatClampNeg ((m.1 12 ((72 + v1) : Int32).toNatClampNeg) &&& ((1 <<< (v2 &&& 31)) ^^^ (-1)))).1 12 ((72 + v2) : Int32).toNatClampNeg) &&& ((1 <<< (v1 &&& 31)) ^^^ (-1))), .int (72 + v2), .ref 12])) (hp' := xW B (xu m 12 ((72 + v1) : Int32).toNatClampNeg ((m.1 12 ((72 + v1) : Int32).toNatClampNeg) &&& ((1 <<< (v2 &&& 31)) ^^^ (-1))))) (q := (.iand, 1, 0, 0, .null)) rfl (fun _ => rfl) (Nat.le_refl _) ?_
  obtain ⟨c4, h⟩ := xif h
  refine q_as (n := 114) (s2 := (xu (xu m 12 ((72 + v1) : Int32).toNatClampNeg ((m.1 12 ((72 + v1) : Int32).toNatClampNeg) &&& ((1 <<< (v2 &&& 31)) ^^^ (-1)))) 12 ((72 + v2) : Int32).toNatClampNeg (((xu m 12 ((72 + v1) : Int32).toNatClampNeg ((m.1 12 ((72 + v1) : Int32).toNatClampNeg) &&& ((1 <<< (v2 &&& 31)) ^^^ (-1)))).1 12 ((72 + v2) : Int32).toNatClampNeg) &&& ((1 <<< (v1 &&& 31)) ^^^ (-1))))) H (pc := 33) rfl (by decide) c4 rfl ?_
  obtain rfl := Option.some.inj h
  exact r_ret (q := (.return_, 1, 0, 0, .null)) rfl rfl (fun _ => rfl)
set_option maxRecDepth 20000 in
theorem Z105_11t {B : zHp} (H : yH0 B) {F : Nat} {a1 : Int32} {a2 : Int32} {m : xS} {x : Unit × xS} (h : D105_11t F a1 a2 m = some x) {d : Nat} (hd : 1 ≤ d) : zCan d 105 [.ref 11, .int a1, .int a2] (xW B m) (none, xW B x.2) := by
  obtain ⟨e, rfl⟩ : ∃ e, d = e + 1 := ⟨d - 1, by omega⟩
  refine zCan_body (nL := 3) (rt := none) (cd := zc105) (xg105) ⟨Nat.le_of_ble_eq_true rfl, by decide⟩ (Nat.le_refl _) ?_
  exact T105_11t H hd F rfl rfl rfl h
/-- LentTools.breaks -/
def D145_0_19 (F : Nat) (v1 : Int32) (m : xS) : Option (Int32 × xS) :=
  some ((-1), m)
set_option maxRecDepth 20000 in
theorem T145_0_19 {B : zHp} (H : yH0 B) {e : Nat} (he : 7 ≤ e + 1) (F : Nat) {v1 : Int32} {lv : List (Nat × Value)} {m : xS} {x : Int32 × xS} (l0 : zld lv 0 = some (.ref 0)) (l1 : zld lv 1 = some (.int v1)) (h : D145_0_19 F v1 m = some x) : zR none e 8 (some .int) zc145 (19, lv, []) (xW B m) (some (.int x.1), xW B x.2) := by
  unfold D145_0_19 at h
  refine r_s (fr' := (20, lv, [.int (-1)])) (hp' := xW B m) (q := (.iconst (-1), 1, 0, 0, .null)) rfl (fun _ => rfl) (Nat.le_refl _) ?_
  obtain rfl := Option.some.inj h
  exact q_ri (q := (.ireturn, 1, 0, 0, .null)) rfl (fun _ => rfl) rfl rfl
def D145_0_134 (F : Nat) (g33 : Int32 → Int32 → Int32 → Int32 → Int32 → xS → Option (Int32 × xS)) (g51 : Int32 → Int32 → Int32 → Int32 → Int32 → Int32 → xS → Option (Int32 × xS)) (v1 : Int32) (v2 : Int32) (v3 : Int32) (v4 : Int32) (v5 : Int32) (v6 : Int32) (m : xS) : Option (Int32 × xS) :=
  g51 v1 v2 v3 v4 v5 (v6 + Int32.ofInt 1) m
set_option maxRecDepth 20000 in
theorem T145_0_134 {B : zHp} (H : yH0 B) {e : Nat} (he : 7 ≤ e + 1) (F : Nat) (g33 : Int32 → Int32 → Int32 → Int32 → Int32 → xS → Option (Int32 × xS)) (g51 : Int32 → Int32 → Int32 → Int32 → Int32 → Int32 → xS → Option (Int32 × xS)) (k33 : ∀ {v1 : Int32} {v2 : Int32} {v3 : Int32} {v4 : Int32} {v5 : Int32} {lv : List (Nat × Value)} {m : xS} {x : Int32 × xS}, zld lv 0 = some (.ref 0) → zld lv 1 = some (.int v1) → zld lv 2 = some (.int v2) → zld lv 3 = some (.int v3) → zld lv 4 = some (.int v4) → zld lv 5 = some (.int v5) → g33 v1 v2 v3 v4 v5 m = some x → zR none e 8 (some .int) zc145 (33, lv, []) (xW B m) (some (.int x.1), xW B x.2)) (k51 : ∀ {v1 : Int32} {v2 : Int32} {v3 : Int32} {v4 : Int32} {v5 : Int32} {v6 : Int32} {lv : List (Nat × Value)} {m : xS} {x : Int32 × xS}, zld lv 0 = some (.ref 0) → zld lv 1 = some (.int v1) → zld lv 2 = some (.int v2) → zld lv 3 = some (.int v3) → zld lv 4 = some (.int v4) → zld lv 5 = some (.int v5) → zld lv 6 = some (.int v6) → g51 v1 v2 v3 v4 v5 v6 m = some x → zR none e 8 (some .int) zc145 (51, lv, []) (xW B m) (some (.int x.1), xW B x.2)) {v1 : Int32} {v2 : Int32} {v3 : Int32} {v4 : Int32} {v5 : Int32} {v6 : Int32} {lv : List (Nat × Value)} {m : xS} {x : Int32 × xS} (l0 : zld lv 0 = some (.ref 0)) (l1 : zld lv 1 = some (.int v1)) (l2 : zld lv 2 = some (.int v2)) (l3 : zld lv 3 = some (.int v3)) (l4 : zld lv 4 = some (.int v4)) (l5 : zld lv 5 = some (.int v5)) (l6 : zld lv 6 = some (.int v6)) (h : D145_0_134 F g33 g51 v1 v2 v3 v4 v5 v6 m = some x) : zR none e 8 (some .int) zc145 (134, lv, []) (xW B m) (some (.int x.1), xW B x.2) := by
  unfold D145_0_134 at h
  refine q_inc (i := 6) (n := 1) (q := (.iinc 6 1, 3, 0, 0, .null)) rfl (fun _ => rfl) l6 (by decide) ?_
  have l0_1 : zld (zs1 lv 6 (.int (v6 + Int32.ofInt 1))) 0 = some (.ref 0) := x_o1 l0 rfl rfl
  have l1_1 : zld (zs1 lv 6 (.int (v6 + Int32.ofInt 1))) 1 = some (.int v1) := x_o1 l1 rfl rfl
  have l2_1 : zld (zs1 lv 6 (.int (v6 + Int32.ofInt 1))) 2 = some (.int v2) := x_o1 l2 rfl rfl
  have l3_1 : zld (zs1 lv 6 (.int (v6 + Int32.ofInt 1))) 3 = some (.int v3) := x_o1 l3 rfl rfl
  have l4_1 : zld (zs1 lv 6 (.int (v6 + Int32.ofInt 1))) 4 = some (.int v4) := x_o1 l4 rfl rfl
  have l5_1 : zld (zs1 lv 6 (.int (v6 + Int32.ofInt 1))) 5 = some (.int v5) := x_o1 l5 rfl rfl
  have l6_1 : zld (zs1 lv 6 (.int (v6 + Int32.ofInt 1))) 6 = some (.int (v6 + Int32.ofInt 1)) := zs1_ld _ _ _
  generalize (zs1 lv 6 (.int (v6 + Int32.ofInt 1))) = lv1 at *
  refine r_s (fr' := (51, lv1, [])) (hp' := xW B m) (q := (.goto (-86), 3, 51, 0, .null)) rfl (fun _ => rfl) (Nat.le_refl _) ?_
  exact k51 l0_1 l1_1 l2_1 l3_1 l4_1 l5_1 l6_1 h
def D145_0_124 (F : Nat) (g33 : Int32 → Int32 → Int32 → Int32 → Int32 → xS → Option (Int32 × xS)) (g51 : Int32 → Int32 → Int32 → Int32 → Int32 → Int32 → xS → Option (Int32 × xS)) (v1 : Int32) (v2 : Int32) (v3 : Int32) (v4 : Int32) (v5 : Int32) (v6 : Int32) (v7 : Int32) (m : xS) : Option (Int32 × xS) :=
  D145_0_134 F g33 g51 v1 v5 v6 v7 v5 v6 m
set_option maxRecDepth 20000 in
theorem T145_0_124 {B : zHp} (H : yH0 B) {e : Nat} (he : 7 ≤ e + 1) (F : Nat) (g33 : Int32 → Int32 → Int32 → Int32 → Int32 → xS → Option (Int32 × xS)) (g51 : Int32 → Int32 → Int32 → Int32 → Int32 → Int32 → xS → Option (Int32 × xS)) (k33 : ∀ {v1 : Int32} {v2 : Int32} {v3 : Int32} {v4 : Int32} {v5 : Int32} {lv : List (Nat × Value)} {m : xS} {x : Int32 × xS}, zld lv 0 = some (.ref 0) → zld lv 1 = some (.int v1) → zld lv 2 = some (.int v2) → zld lv 3 = some (.int v3) → zld lv 4 = some (.int v4) → zld lv 5 = some (.int v5) → g33 v1 v2 v3 v4 v5 m = some x → zR none e 8 (some .int) zc145 (33, lv, []) (xW B m) (some (.int x.1), xW B x.2)) (k51 : ∀ {v1 : Int32} {v2 : Int32} {v3 : Int32} {v4 : Int32} {v5 : Int32} {v6 : Int32} {lv : List (Nat × Value)} {m : xS} {x : Int32 × xS}, zld lv 0 = some (.ref 0) → zld lv 1 = some (.int v1) → zld lv 2 = some (.int v2) → zld lv 3 = some (.int v3) → zld lv 4 = some (.int v4) → zld lv 5 = some (.int v5) → zld lv 6 = some (.int v6) → g51 v1 v2 v3 v4 v5 v6 m = some x → zR none e 8 (some .int) zc145 (51, lv, []) (xW B m) (some (.int x.1), xW B x.2)) {v1 : Int32} {v2 : Int32} {v3 : Int32} {v4 : Int32} {v5 : Int32} {v6 : Int32} {v7 : Int32} {lv : List (Nat × Value)} {m : xS} {x : Int32 × xS} (l0 : zld lv 0 = some (.ref 0)) (l1 : zld lv 1 = some (.int v1)) (l2 : zld lv 2 = some (.int v2)) (l3 : zld lv 3 = some (.int v3)) (l4 : zld lv 4 = some (.int v4)) (l5 : zld lv 5 = some (.int v5)) (l6 : zld lv 6 = some (.int v6)) (l7 : zld lv 7 = some (.int v7)) (h : D145_0_124 F g33 g51 v1 v2 v3 v4 v5 v6 v7 m = some x) : zR none e 8 (some .int) zc145 (124, lv, []) (xW B m) (some (.int x.1), xW B x.2) := by
  unfold D145_0_124 at h
  refine q_li (k := 2) (i := 5) (q := (.iload 5, 2, 0, 0, .null)) rfl (fun _ => rfl) l5 ?_
  refine q_si (k := 1) (i := 2) (q := (.istore_n 2, 1, 0, 0, .null)) rfl (fun _ => rfl) (by decide) ?_
  have l0_1 : zld (zs1 lv 2 (.int v5)) 0 = some (.ref 0) := x_o1 l0 rfl rfl
  have l1_1 : zld (zs1 lv 2 (.int v5)) 1 = some (.int v1) := x_o1 l1 rfl rfl
  have l2_1 : zld (zs1 lv 2 (.int v5)) 2 = some (.int v5) := zs1_ld _ _ _
  have l3_1 : zld (zs1 lv 2 (.int v5)) 3 = some (.int v3) := x_o1 l3 rfl rfl
  have l4_1 : zld (zs1 lv 2 (.int v5)) 4 = some (.int v4) := x_o1 l4 rfl rfl
  have l5_1 : zld (zs1 lv 2 (.int v5)) 5 = some (.int v5) := x_o1 l5 rfl rfl
  have l6_1 : zld (zs1 lv 2 (.int v5)) 6 = some (.int v6) := x_o1 l6 rfl rfl
  have l7_1 : zld (zs1 lv 2 (.int v5)) 7 = some (.int v7) := x_o1 l7 rfl rfl
  generalize (zs1 lv 2 (.int v5)) = lv1 at *
  refine q_li (k := 2) (i := 6) (q := (.iload 6, 2, 0, 0, .null)) rfl (fun _ => rfl) l6_1 ?_
  refine q_si (k := 1) (i := 3) (q := (.istore_n 3, 1, 0, 0, .null)) rfl (fun _ => rfl) (by decide) ?_
  have l0_2 : zld (zs1 lv1 3 (.int v6)) 0 = some (.ref 0) := x_o1 l0_1 rfl rfl
  have l1_2 : zld (zs1 lv1 3 (.int v6)) 1 = some (.int v1) := x_o1 l1_1 rfl rfl
  have l2_2 : zld (zs1 lv1 3 (.int v6)) 2 = some (.int v5) := x_o1 l2_1 rfl rfl
  have l3_2 : zld (zs1 lv1 3 (.int v6)) 3 = some (.int v6) := zs1_ld _ _ _
  have l4_2 : zld (zs1 lv1 3 (.int v6)) 4 = some (.int v4) := x_o1 l4_1 rfl rfl
  have l5_2 : zld (zs1 lv1 3 (.int v6)) 5 = some (.int v5) := x_o1 l5_1 rfl rfl
  have l6_2 : zld (zs1 lv1 3 (.int v6)) 6 = some (.int v6) := x_o1 l6_1 rfl rfl
  have l7_2 : zld (zs1 lv1 3 (.int v6)) 7 = some (.int v7) := x_o1 l7_1 rfl rfl
  generalize (zs1 lv1 3 (.int v6)) = lv2 at *
  refine q_li (k := 2) (i := 7) (q := (.iload 7, 2, 0, 0, .null)) rfl (fun _ => rfl) l7_2 ?_
  refine q_si (k := 2) (i := 4) (q := (.istore 4, 2, 0, 0, .null)) rfl (fun _ => rfl) (by decide) ?_
  have l0_3 : zld (zs1 lv2 4 (.int v7)) 0 = some (.ref 0) := x_o1 l0_2 rfl rfl
  have l1_3 : zld (zs1 lv2 4 (.int v7)) 1 = some (.int v1) := x_o1 l1_2 rfl rfl
  have l2_3 : zld (zs1 lv2 4 (.int v7)) 2 = some (.int v5) := x_o1 l2_2 rfl rfl
  have l3_3 : zld (zs1 lv2 4 (.int v7)) 3 = some (.int v6) := x_o1 l3_2 rfl rfl
  have l4_3 : zld (zs1 lv2 4 (.int v7)) 4 = some (.int v7) := zs1_ld _ _ _
  have l5_3 : zld (zs1 lv2 4 (.int v7)) 5 = some (.int v5) := x_o1 l5_2 rfl rfl
  have l6_3 : zld (zs1 lv2 4 (.int v7)) 6 = some (.int v6) := x_o1 l6_2 rfl rfl
  have l7_3 : zld (zs1 lv2 4 (.int v7)) 7 = some (.int v7) := x_o1 l7_2 rfl rfl
  generalize (zs1 lv2 4 (.int v7)) = lv3 at *
  exact T145_0_134 H he F _ _ k33 k51 l0_3 l1_3 l2_3 l3_3 l4_3 l5_3 l6_3 h
def D145_0_51 (F : Nat) (g33 : Int32 → Int32 → Int32 → Int32 → Int32 → xS → Option (Int32 × xS)) : Nat → Int32 → Int32 → Int32 → Int32 → Int32 → Int32 → xS → Option (Int32 × xS)
  | 0, _, _, _, _, _, _, _ => none
  | f + 1, v1, v2, v3, v4, v5, v6, m =>
    (D77_9 F m).bind fun q57 =>
      if zcmp .ge v6 q57.1 = true then
        g33 v1 v2 v3 v4 (v5 + Int32.ofInt 1) q57.2
      else
        (D93_9 F v5 v6 q57.2).bind fun q71 =>
          if zcmp .eq q71.1 0 = true then
            D145_0_134 F g33 (D145_0_51 F g33 f) v1 v2 v3 v4 v5 v6 q71.2
          else
            (D70_11t_9 F q71.2).bind fun q85 =>
              (D105_11t F v5 v6 q85.2).bind fun q96 =>
                (D19_50_11t F (-1) q96.2).bind fun q108 =>
                  if zcmp .lt v2 0 = true then
                    D145_0_124 F g33 (D145_0_51 F g33 f) v1 v2 v3 v4 v5 v6 q108.1 q108.2
                  else
                    if zcmp .ge q108.1 v4 = true then
                      D145_0_134 F g33 (D145_0_51 F g33 f) v1 v2 v3 v4 v5 v6 q108.2
                    else
                      D145_0_124 F g33 (D145_0_51 F g33 f) v1 v2 v3 v4 v5 v6 q108.1 q108.2
set_option maxRecDepth 20000 in
theorem T145_0_51 {B : zHp} (H : yH0 B) {e : Nat} (he : 7 ≤ e + 1) (F : Nat) (g33 : Int32 → Int32 → Int32 → Int32 → Int32 → xS → Option (Int32 × xS)) (k33 : ∀ {v1 : Int32} {v2 : Int32} {v3 : Int32} {v4 : Int32} {v5 : Int32} {lv : List (Nat × Value)} {m : xS} {x : Int32 × xS}, zld lv 0 = some (.ref 0) → zld lv 1 = some (.int v1) → zld lv 2 = some (.int v2) → zld lv 3 = some (.int v3) → zld lv 4 = some (.int v4) → zld lv 5 = some (.int v5) → g33 v1 v2 v3 v4 v5 m = some x → zR none e 8 (some .int) zc145 (33, lv, []) (xW B m) (some (.int x.1), xW B x.2)) : ∀ (f : Nat) {v1 : Int32} {v2 : Int32} {v3 : Int32} {v4 : Int32} {v5 : Int32} {v6 : Int32} {lv : List (Nat × Value)} {m : xS} {x : Int32 × xS}, zld lv 0 = some (.ref 0) → zld lv 1 = some (.int v1) → zld lv 2 = some (.int v2) → zld lv 3 = some (.int v3) → zld lv 4 = some (.int v4) → zld lv 5 = some (.int v5) → zld lv 6 = some (.int v6) → D145_0_51 F g33 f v1 v2 v3 v4 v5 v6 m = some x → zR none e 8 (some .int) zc145 (51, lv, []) (xW B m) (some (.int x.1), xW B x.2) := by
  intro f
  induction f with
  | zero => intro v1 v2 v3 v4 v5 v6 lv m x l0 l1 l2 l3 l4 l5 l6 h; cases h
  | succ f ih =>
    intro v1 v2 v3 v4 v5 v6 lv m x l0 l1 l2 l3 l4 l5 l6 h
    unfold D145_0_51 at h
    refine q_li (k := 2) (i := 6) (q := (.iload 6, 2, 0, 0, .null)) rfl (fun _ => rfl) l6 ?_
    refine q_lr (k := 1) (i := 0) (q := (.aload_n 0, 1, 0, 0, .null)) rfl (fun _ => rfl) l0 ?_
    refine r_gr (c := 9) H (pc := 54) rfl (by decide) (by decide) ?_
    obtain ⟨q57, h57, h⟩ := xbind h
    refine r_call (ix := 9) (as := []) (rest := [.int v6]) (rv := some (.int q57.1)) (hp' := xW B q57.2) (pc := 57) rfl xr77 rfl rfl rfl (xkd H (by decide)) (Nat.le_of_ble_eq_true rfl) (Z77_9 H h57 (by omega)) (Nat.le_refl _) ?_
    refine r_ifc (len := 3) (a := 140) (b := 0) (v0 := .null) (cn := .ge) (off := 80) rfl (fun c => ?_) (fun c => ?_)
    · rw [if_pos c] at h
      refine q_inc (i := 5) (n := 1) (q := (.iinc 5 1, 3, 0, 0, .null)) rfl (fun _ => rfl) l5 (by decide) ?_
      have l0_1 : zld (zs1 lv 5 (.int (v5 + Int32.ofInt 1))) 0 = some (.ref 0) := x_o1 l0 rfl rfl
      have l1_1 : zld (zs1 lv 5 (.int (v5 + Int32.ofInt 1))) 1 = some (.int v1) := x_o1 l1 rfl rfl
      have l2_1 : zld (zs1 lv 5 (.int (v5 + Int32.ofInt 1))) 2 = some (.int v2) := x_o1 l2 rfl rfl
      have l3_1 : zld (zs1 lv 5 (.int (v5 + Int32.ofInt 1))) 3 = some (.int v3) := x_o1 l3 rfl rfl
      have l4_1 : zld (zs1 lv 5 (.int (v5 + Int32.ofInt 1))) 4 = some (.int v4) := x_o1 l4 rfl rfl
      have l5_1 : zld (zs1 lv 5 (.int (v5 + Int32.ofInt 1))) 5 = some (.int (v5 + Int32.ofInt 1)) := zs1_ld _ _ _
      have l6_1 : zld (zs1 lv 5 (.int (v5 + Int32.ofInt 1))) 6 = some (.int v6) := x_o1 l6 rfl rfl
      generalize (zs1 lv 5 (.int (v5 + Int32.ofInt 1))) = lv1 at *
      refine r_s (fr' := (33, lv1, [])) (hp' := xW B q57.2) (q := (.goto (-110), 3, 33, 0, .null)) rfl (fun _ => rfl) (Nat.le_refl _) ?_
      exact k33 l0_1 l1_1 l2_1 l3_1 l4_1 l5_1 h
    · rw [if_neg (by rw [c]; decide)] at h
      refine q_lr (k := 1) (i := 0) (q := (.aload_n 0, 1, 0, 0, .null)) rfl (fun _ => rfl) l0 ?_
      refine r_gr (c := 9) H (pc := 64) rfl (by decide) (by decide) ?_
      refine q_li (k := 2) (i := 5) (q := (.iload 5, 2, 0, 0, .null)) rfl (fun _ => rfl) l5 ?_
      refine q_li (k := 2) (i := 6) (q := (.iload 6, 2, 0, 0, .null)) rfl (fun _ => rfl) l6 ?_
      obtain ⟨q71, h71, h⟩ := xbind h
      refine r_call (ix := 9) (as := [.int v5, .int v6]) (rest := []) (rv := some (.int q71.1)) (hp' := xW B q71.2) (pc := 71) rfl xr93 rfl rfl rfl (xkd H (by decide)) (Nat.le_of_ble_eq_true rfl) (Z93_9 H h71 (by omega)) (Nat.le_refl _) ?_
      refine r_if (len := 3) (a := 134) (b := 0) (v0 := .null) (cn := .eq) (off := 60) rfl (fun c => ?_) (fun c => ?_)
      · rw [if_pos c] at h
        exact T145_0_134 H he F _ _ k33 ih l0 l1 l2 l3 l4 l5 l6 h
      · rw [if_neg (by rw [c]; decide)] at h
        refine q_lr (k := 1) (i := 0) (q := (.aload_n 0, 1, 0, 0, .null)) rfl (fun _ => rfl) l0 ?_
        refine r_gr (c := 11) H (pc := 78) rfl (by decide) (by decide) ?_
        refine q_lr (k := 1) (i := 0) (q := (.aload_n 0, 1, 0, 0, .null)) rfl (fun _ => rfl) l0 ?_
        refine r_gr (c := 9) H (pc := 82) rfl (by decide) (by decide) ?_
        obtain ⟨q85, h85, h⟩ := xbind h
        refine r_call (ix := 11) (as := [.ref 9]) (rest := []) (rv := none) (hp' := xW B q85.2) (pc := 85) rfl xr70 rfl rfl rfl (xkd H (by decide)) (Nat.le_of_ble_eq_true rfl) (Z70_11t_9 H h85 (by omega)) (Nat.le_refl _) ?_
        refine q_lr (k := 1) (i := 0) (q := (.aload_n 0, 1, 0, 0, .null)) rfl (fun _ => rfl) l0 ?_
        refine r_gr (c := 11) H (pc := 89) rfl (by decide) (by decide) ?_
        refine q_li (k := 2) (i := 5) (q := (.iload 5, 2, 0, 0, .null)) rfl (fun _ => rfl) l5 ?_
        refine q_li (k := 2) (i := 6) (q := (.iload 6, 2, 0, 0, .null)) rfl (fun _ => rfl) l6 ?_
        obtain ⟨q96, h96, h⟩ := xbind h
        refine r_call (ix := 11) (as := [.int v5, .int v6]) (rest := []) (rv := none) (hp' := xW B q96.2) (pc := 96) rfl xr105 rfl rfl rfl (xkd H (by decide)) (Nat.le_of_ble_eq_true rfl) (Z105_11t H h96 (by omega)) (Nat.le_refl _) ?_
        refine q_lr (k := 1) (i := 0) (q := (.aload_n 0, 1, 0, 0, .null)) rfl (fun _ => rfl) l0 ?_
        refine r_gr (c := 50) H (pc := 100) rfl (by decide) (by decide) ?_
        refine q_lr (k := 1) (i := 0) (q := (.aload_n 0, 1, 0, 0, .null)) rfl (fun _ => rfl) l0 ?_
        refine r_gr (c := 11) H (pc := 104) rfl (by decide) (by decide) ?_
        refine r_s (fr' := (108, lv, [.int (-1), .ref 11, .ref 50])) (hp' := xW B q96.2) (q := (.iconst (-1), 1, 0, 0, .null)) rfl (fun _ => rfl) (Nat.le_refl _) ?_
        obtain ⟨q108, h108, h⟩ := xbind h
        refine r_call (ix := 50) (as := [.ref 11, .int (-1)]) (rest := []) (rv := some (.int q108.1)) (hp' := xW B q108.2) (pc := 108) rfl xr19 rfl rfl rfl (xkd H (by decide)) (Nat.le_of_ble_eq_true rfl) (Z19_50_11t H h108 (by omega)) (Nat.le_refl _) ?_
        refine q_si (k := 2) (i := 7) (q := (.istore 7, 2, 0, 0, .null)) rfl (fun _ => rfl) (by decide) ?_
        have l0_2 : zld (zs1 lv 7 (.int q108.1)) 0 = some (.ref 0) := x_o1 l0 rfl rfl
        have l1_2 : zld (zs1 lv 7 (.int q108.1)) 1 = some (.int v1) := x_o1 l1 rfl rfl
        have l2_2 : zld (zs1 lv 7 (.int q108.1)) 2 = some (.int v2) := x_o1 l2 rfl rfl
        have l3_2 : zld (zs1 lv 7 (.int q108.1)) 3 = some (.int v3) := x_o1 l3 rfl rfl
        have l4_2 : zld (zs1 lv 7 (.int q108.1)) 4 = some (.int v4) := x_o1 l4 rfl rfl
        have l5_2 : zld (zs1 lv 7 (.int q108.1)) 5 = some (.int v5) := x_o1 l5 rfl rfl
        have l6_2 : zld (zs1 lv 7 (.int q108.1)) 6 = some (.int v6) := x_o1 l6 rfl rfl
        have l7_2 : zld (zs1 lv 7 (.int q108.1)) 7 = some (.int q108.1) := zs1_ld _ _ _
        generalize (zs1 lv 7 (.int q108.1)) = lv2 at *
        refine q_li (k := 1) (i := 2) (q := (.iload_n 2, 1, 0, 0, .null)) rfl (fun _ => rfl) l2_2 ?_
        refine r_if (len := 3) (a := 124) (b := 0) (v0 := .null) (cn := .lt) (off := 10) rfl (fun c => ?_) (fun c => ?_)
        · rw [if_pos c] at h
          exact T145_0_124 H he F _ _ k33 ih l0_2 l1_2 l2_2 l3_2 l4_2 l5_2 l6_2 l7_2 h
        · rw [if_neg (by rw [c]; decide)] at h
          refine q_li (k := 2) (i := 7) (q := (.iload 7, 2, 0, 0, .null)) rfl (fun _ => rfl) l7_2 ?_
          refine q_li (k := 2) (i := 4) (q := (.iload 4, 2, 0, 0, .null)) rfl (fun _ => rfl) l4_2 ?_
          refine r_ifc (len := 3) (a := 134) (b := 0) (v0 := .null) (cn := .ge) (off := 13) rfl (fun c => ?_) (fun c => ?_)
          · rw [if_pos c] at h
            exact T145_0_134 H he F _ _ k33 ih l0_2 l1_2 l2_2 l3_2 l4_2 l5_2 l6_2 h
          · rw [if_neg (by rw [c]; decide)] at h
            exact T145_0_124 H he F _ _ k33 ih l0_2 l1_2 l2_2 l3_2 l4_2 l5_2 l6_2 l7_2 h
def D145_0_155 (F : Nat) (v1 : Int32) (v2 : Int32) (v3 : Int32) (v4 : Int32) (v5 : Int32) (m : xS) : Option (Int32 × xS) :=
  if zcmp .ne v1 0 = true then
    some (v3, m)
  else
    some (v2, m)
set_option maxRecDepth 20000 in
theorem T145_0_155 {B : zHp} (H : yH0 B) {e : Nat} (he : 7 ≤ e + 1) (F : Nat) {v1 : Int32} {v2 : Int32} {v3 : Int32} {v4 : Int32} {v5 : Int32} {lv : List (Nat × Value)} {m : xS} {x : Int32 × xS} (l0 : zld lv 0 = some (.ref 0)) (l1 : zld lv 1 = some (.int v1)) (l2 : zld lv 2 = some (.int v2)) (l3 : zld lv 3 = some (.int v3)) (l4 : zld lv 4 = some (.int v4)) (l5 : zld lv 5 = some (.int v5)) (h : D145_0_155 F v1 v2 v3 v4 v5 m = some x) : zR none e 8 (some .int) zc145 (155, lv, []) (xW B m) (some (.int x.1), xW B x.2) := by
  unfold D145_0_155 at h
  refine q_li (k := 1) (i := 1) (q := (.iload_n 1, 1, 0, 0, .null)) rfl (fun _ => rfl) l1 ?_
  refine r_if (len := 3) (a := 163) (b := 0) (v0 := .null) (cn := .ne) (off := 7) rfl (fun c => ?_) (fun c => ?_)
  · rw [if_pos c] at h
    refine q_li (k := 1) (i := 3) (q := (.iload_n 3, 1, 0, 0, .null)) rfl (fun _ => rfl) l3 ?_
    obtain rfl := Option.some.inj h
    exact q_ri (q := (.ireturn, 1, 0, 0, .null)) rfl (fun _ => rfl) rfl rfl
  · rw [if_neg (by rw [c]; decide)] at h
    refine q_li (k := 1) (i := 2) (q := (.iload_n 2, 1, 0, 0, .null)) rfl (fun _ => rfl) l2 ?_
    refine r_s (fr' := (164, lv, [.int v2])) (hp' := xW B m) (q := (.goto 4, 3, 164, 0, .null)) rfl (fun _ => rfl) (Nat.le_refl _) ?_
    obtain rfl := Option.some.inj h
    exact q_ri (q := (.ireturn, 1, 0, 0, .null)) rfl (fun _ => rfl) rfl rfl
def D145_0_33 (F : Nat) : Nat → Int32 → Int32 → Int32 → Int32 → Int32 → xS → Option (Int32 × xS)
  | 0, _, _, _, _, _, _ => none
  | f + 1, v1, v2, v3, v4, v5, m =>
    (D77_9 F m).bind fun q39 =>
      if zcmp .ge v5 q39.1 = true then
        if zcmp .lt v1 2 = true then
          D145_0_155 F v1 v2 v3 v4 v5 q39.2
        else
          if zcmp .ge v2 0 = true then
            (D19_50_9 F (-1) q39.2).bind fun q174 =>
              some ((q174.1 - v4), q174.2)
          else
            D145_0_155 F v1 v2 v3 v4 v5 q39.2
      else
        D145_0_51 F (D145_0_33 F f) F v1 v2 v3 v4 v5 (v5 + 1) q39.2
set_option maxRecDepth 20000 in
theorem T145_0_33 {B : zHp} (H : yH0 B) {e : Nat} (he : 7 ≤ e + 1) (F : Nat) : ∀ (f : Nat) {v1 : Int32} {v2 : Int32} {v3 : Int32} {v4 : Int32} {v5 : Int32} {lv : List (Nat × Value)} {m : xS} {x : Int32 × xS}, zld lv 0 = some (.ref 0) → zld lv 1 = some (.int v1) → zld lv 2 = some (.int v2) → zld lv 3 = some (.int v3) → zld lv 4 = some (.int v4) → zld lv 5 = some (.int v5) → D145_0_33 F f v1 v2 v3 v4 v5 m = some x → zR none e 8 (some .int) zc145 (33, lv, []) (xW B m) (some (.int x.1), xW B x.2) := by
  intro f
  induction f with
  | zero => intro v1 v2 v3 v4 v5 lv m x l0 l1 l2 l3 l4 l5 h; cases h
  | succ f ih =>
    intro v1 v2 v3 v4 v5 lv m x l0 l1 l2 l3 l4 l5 h
    unfold D145_0_33 at h
    refine q_li (k := 2) (i := 5) (q := (.iload 5, 2, 0, 0, .null)) rfl (fun _ => rfl) l5 ?_
    refine q_lr (k := 1) (i := 0) (q := (.aload_n 0, 1, 0, 0, .null)) rfl (fun _ => rfl) l0 ?_
    refine r_gr (c := 9) H (pc := 36) rfl (by decide) (by decide) ?_
    obtain ⟨q39, h39, h⟩ := xbind h
    refine r_call (ix := 9) (as := []) (rest := [.int v5]) (rv := some (.int q39.1)) (hp' := xW B q39.2) (pc := 39) rfl xr77 rfl rfl rfl (xkd H (by decide)) (Nat.le_of_ble_eq_true rfl) (Z77_9 H h39 (by omega)) (Nat.le_refl _) ?_
    refine r_ifc (len := 3) (a := 146) (b := 0) (v0 := .null) (cn := .ge) (off := 104) rfl (fun c => ?_) (fun c => ?_)
    · rw [if_pos c] at h
      refine q_li (k := 1) (i := 1) (q := (.iload_n 1, 1, 0, 0, .null)) rfl (fun _ => rfl) l1 ?_
      refine r_s (fr' := (148, lv, [.int 2, .int v1])) (hp' := xW B q39.2) (q := (.iconst 2, 1, 0, 0, .null)) rfl (fun _ => rfl) (Nat.le_refl _) ?_
      refine r_ifc (len := 3) (a := 155) (b := 0) (v0 := .null) (cn := .lt) (off := 7) rfl (fun c => ?_) (fun c => ?_)
      · rw [if_pos c] at h
        exact T145_0_155 H he F l0 l1 l2 l3 l4 l5 h
      · rw [if_neg (by rw [c]; decide)] at h
        refine q_li (k := 1) (i := 2) (q := (.iload_n 2, 1, 0, 0, .null)) rfl (fun _ => rfl) l2 ?_
        refine r_if (len := 3) (a := 165) (b := 0) (v0 := .null) (cn := .ge) (off := 13) rfl (fun c => ?_) (fun c => ?_)
        · rw [if_pos c] at h
          refine q_lr (k := 1) (i := 0) (q := (.aload_n 0, 1, 0, 0, .null)) rfl (fun _ => rfl) l0 ?_
          refine r_gr (c := 50) H (pc := 166) rfl (by decide) (by decide) ?_
          refine q_lr (k := 1) (i := 0) (q := (.aload_n 0, 1, 0, 0, .null)) rfl (fun _ => rfl) l0 ?_
          refine r_gr (c := 9) H (pc := 170) rfl (by decide) (by decide) ?_
          refine r_s (fr' := (174, lv, [.int (-1), .ref 9, .ref 50])) (hp' := xW B q39.2) (q := (.iconst (-1), 1, 0, 0, .null)) rfl (fun _ => rfl) (Nat.le_refl _) ?_
          obtain ⟨q174, h174, h⟩ := xbind h
          refine r_call (ix := 50) (as := [.ref 9, .int (-1)]) (rest := []) (rv := some (.int q174.1)) (hp' := xW B q174.2) (pc := 174) rfl xr19 rfl rfl rfl (xkd H (by decide)) (Nat.le_of_ble_eq_true rfl) (Z19_50_9 H h174 (by omega)) (Nat.le_refl _) ?_
          refine q_li (k := 2) (i := 4) (q := (.iload 4, 2, 0, 0, .null)) rfl (fun _ => rfl) l4 ?_
          refine r_s (fr' := (180, lv, [.int (q174.1 - v4)])) (hp' := xW B q174.2) (q := (.isub, 1, 0, 0, .null)) rfl (fun _ => rfl) (Nat.le_refl _) ?_
          obtain rfl := Option.some.inj h
          exact q_ri (q := (.ireturn, 1, 0, 0, .null)) rfl (fun _ => rfl) rfl rfl
        · rw [if_neg (by rw [c]; decide)] at h
          exact T145_0_155 H he F l0 l1 l2 l3 l4 l5 h
    · rw [if_neg (by rw [c]; decide)] at h
      refine q_li (k := 2) (i := 5) (q := (.iload 5, 2, 0, 0, .null)) rfl (fun _ => rfl) l5 ?_
      refine r_s (fr' := (48, lv, [.int 1, .int v5])) (hp' := xW B q39.2) (q := (.iconst 1, 1, 0, 0, .null)) rfl (fun _ => rfl) (Nat.le_refl _) ?_
      refine r_s (fr' := (49, lv, [.int (v5 + 1)])) (hp' := xW B q39.2) (q := (.iadd, 1, 0, 0, .null)) rfl (fun _ => rfl) (Nat.le_refl _) ?_
      refine q_si (k := 2) (i := 6) (q := (.istore 6, 2, 0, 0, .null)) rfl (fun _ => rfl) (by decide) ?_
      have l0_1 : zld (zs1 lv 6 (.int (v5 + 1))) 0 = some (.ref 0) := x_o1 l0 rfl rfl
      have l1_1 : zld (zs1 lv 6 (.int (v5 + 1))) 1 = some (.int v1) := x_o1 l1 rfl rfl
      have l2_1 : zld (zs1 lv 6 (.int (v5 + 1))) 2 = some (.int v2) := x_o1 l2 rfl rfl
      have l3_1 : zld (zs1 lv 6 (.int (v5 + 1))) 3 = some (.int v3) := x_o1 l3 rfl rfl
      have l4_1 : zld (zs1 lv 6 (.int (v5 + 1))) 4 = some (.int v4) := x_o1 l4 rfl rfl
      have l5_1 : zld (zs1 lv 6 (.int (v5 + 1))) 5 = some (.int v5) := x_o1 l5 rfl rfl
      have l6_1 : zld (zs1 lv 6 (.int (v5 + 1))) 6 = some (.int (v5 + 1)) := zs1_ld _ _ _
      generalize (zs1 lv 6 (.int (v5 + 1))) = lv1 at *
      exact T145_0_51 H he F _ ih F l0_1 l1_1 l2_1 l3_1 l4_1 l5_1 l6_1 h
def D145_0 (F : Nat) (v1 : Int32) (m : xS) : Option (Int32 × xS) :=
  (D76_9 F m).bind fun q4 =>
    if zcmp .eq q4.1 0 = true then
      D145_0_19 F v1 q4.2
    else
      if zcmp .lt v1 0 = true then
        D145_0_19 F v1 q4.2
      else
        if zcmp .le v1 2 = true then
          D145_0_33 F F v1 (-2) (-2) 0 0 q4.2
        else
          D145_0_19 F v1 q4.2
set_option maxRecDepth 20000 in
theorem T145_0 {B : zHp} (H : yH0 B) {e : Nat} (he : 7 ≤ e + 1) (F : Nat) {v1 : Int32} {lv : List (Nat × Value)} {m : xS} {x : Int32 × xS} (l0 : zld lv 0 = some (.ref 0)) (l1 : zld lv 1 = some (.int v1)) (h : D145_0 F v1 m = some x) : zR none e 8 (some .int) zc145 (0, lv, []) (xW B m) (some (.int x.1), xW B x.2) := by
  unfold D145_0 at h
  refine q_lr (k := 1) (i := 0) (q := (.aload_n 0, 1, 0, 0, .null)) rfl (fun _ => rfl) l0 ?_
  refine r_gr (c := 9) H (pc := 1) rfl (by decide) (by decide) ?_
  obtain ⟨q4, h4, h⟩ := xbind h
  refine r_call (ix := 9) (as := []) (rest := []) (rv := some (.int q4.1)) (hp' := xW B q4.2) (pc := 4) rfl xr76 rfl rfl rfl (xkd H (by decide)) (Nat.le_of_ble_eq_true rfl) (Z76_9 H h4 (by omega)) (Nat.le_refl _) ?_
  refine r_if (len := 3) (a := 19) (b := 0) (v0 := .null) (cn := .eq) (off := 12) rfl (fun c => ?_) (fun c => ?_)
  · rw [if_pos c] at h
    exact T145_0_19 H he F l0 l1 h
  · rw [if_neg (by rw [c]; decide)] at h
    refine q_li (k := 1) (i := 1) (q := (.iload_n 1, 1, 0, 0, .null)) rfl (fun _ => rfl) l1 ?_
    refine r_if (len := 3) (a := 19) (b := 0) (v0 := .null) (cn := .lt) (off := 8) rfl (fun c => ?_) (fun c => ?_)
    · rw [if_pos c] at h
      exact T145_0_19 H he F l0 l1 h
    · rw [if_neg (by rw [c]; decide)] at h
      refine q_li (k := 1) (i := 1) (q := (.iload_n 1, 1, 0, 0, .null)) rfl (fun _ => rfl) l1 ?_
      refine r_s (fr' := (16, lv, [.int 2, .int v1])) (hp' := xW B q4.2) (q := (.iconst 2, 1, 0, 0, .null)) rfl (fun _ => rfl) (Nat.le_refl _) ?_
      refine r_ifc (len := 3) (a := 21) (b := 0) (v0 := .null) (cn := .le) (off := 5) rfl (fun c => ?_) (fun c => ?_)
      · rw [if_pos c] at h
        refine r_s (fr' := (23, lv, [.int (-2)])) (hp' := xW B q4.2) (q := (.bipush (-2), 2, 0, 0, .null)) rfl (fun _ => rfl) (Nat.le_refl _) ?_
        refine q_si (k := 1) (i := 2) (q := (.istore_n 2, 1, 0, 0, .null)) rfl (fun _ => rfl) (by decide) ?_
        have l0_1 : zld (zs1 lv 2 (.int (-2))) 0 = some (.ref 0) := x_o1 l0 rfl rfl
        have l1_1 : zld (zs1 lv 2 (.int (-2))) 1 = some (.int v1) := x_o1 l1 rfl rfl
        have l2_1 : zld (zs1 lv 2 (.int (-2))) 2 = some (.int (-2)) := zs1_ld _ _ _
        generalize (zs1 lv 2 (.int (-2))) = lv1 at *
        refine r_s (fr' := (26, lv1, [.int (-2)])) (hp' := xW B q4.2) (q := (.bipush (-2), 2, 0, 0, .null)) rfl (fun _ => rfl) (Nat.le_refl _) ?_
        refine q_si (k := 1) (i := 3) (q := (.istore_n 3, 1, 0, 0, .null)) rfl (fun _ => rfl) (by decide) ?_
        have l0_2 : zld (zs1 lv1 3 (.int (-2))) 0 = some (.ref 0) := x_o1 l0_1 rfl rfl
        have l1_2 : zld (zs1 lv1 3 (.int (-2))) 1 = some (.int v1) := x_o1 l1_1 rfl rfl
        have l2_2 : zld (zs1 lv1 3 (.int (-2))) 2 = some (.int (-2)) := x_o1 l2_1 rfl rfl
        have l3_2 : zld (zs1 lv1 3 (.int (-2))) 3 = some (.int (-2)) := zs1_ld _ _ _
        generalize (zs1 lv1 3 (.int (-2))) = lv2 at *
        refine r_s (fr' := (28, lv2, [.int 0])) (hp' := xW B q4.2) (q := (.iconst 0, 1, 0, 0, .null)) rfl (fun _ => rfl) (Nat.le_refl _) ?_
        refine q_si (k := 2) (i := 4) (q := (.istore 4, 2, 0, 0, .null)) rfl (fun _ => rfl) (by decide) ?_
        have l0_3 : zld (zs1 lv2 4 (.int 0)) 0 = some (.ref 0) := x_o1 l0_2 rfl rfl
        have l1_3 : zld (zs1 lv2 4 (.int 0)) 1 = some (.int v1) := x_o1 l1_2 rfl rfl
        have l2_3 : zld (zs1 lv2 4 (.int 0)) 2 = some (.int (-2)) := x_o1 l2_2 rfl rfl
        have l3_3 : zld (zs1 lv2 4 (.int 0)) 3 = some (.int (-2)) := x_o1 l3_2 rfl rfl
        have l4_3 : zld (zs1 lv2 4 (.int 0)) 4 = some (.int 0) := zs1_ld _ _ _
        generalize (zs1 lv2 4 (.int 0)) = lv3 at *
        refine r_s (fr' := (31, lv3, [.int 0])) (hp' := xW B q4.2) (q := (.iconst 0, 1, 0, 0, .null)) rfl (fun _ => rfl) (Nat.le_refl _) ?_
        refine q_si (k := 2) (i := 5) (q := (.istore 5, 2, 0, 0, .null)) rfl (fun _ => rfl) (by decide) ?_
        have l0_4 : zld (zs1 lv3 5 (.int 0)) 0 = some (.ref 0) := x_o1 l0_3 rfl rfl
        have l1_4 : zld (zs1 lv3 5 (.int 0)) 1 = some (.int v1) := x_o1 l1_3 rfl rfl
        have l2_4 : zld (zs1 lv3 5 (.int 0)) 2 = some (.int (-2)) := x_o1 l2_3 rfl rfl
        have l3_4 : zld (zs1 lv3 5 (.int 0)) 3 = some (.int (-2)) := x_o1 l3_3 rfl rfl
        have l4_4 : zld (zs1 lv3 5 (.int 0)) 4 = some (.int 0) := x_o1 l4_3 rfl rfl
        have l5_4 : zld (zs1 lv3 5 (.int 0)) 5 = some (.int 0) := zs1_ld _ _ _
        generalize (zs1 lv3 5 (.int 0)) = lv4 at *
        exact T145_0_33 H he F F l0_4 l1_4 l2_4 l3_4 l4_4 l5_4 h
      · rw [if_neg (by rw [c]; decide)] at h
        exact T145_0_19 H he F l0 l1 h
set_option maxRecDepth 20000 in
theorem Z145_0 {B : zHp} (H : yH0 B) {F : Nat} {a1 : Int32} {m : xS} {x : Int32 × xS} (h : D145_0 F a1 m = some x) {d : Nat} (hd : 7 ≤ d) : zCan d 145 [.ref 0, .int a1] (xW B m) (some (.int x.1), xW B x.2) := by
  obtain ⟨e, rfl⟩ : ∃ e, d = e + 1 := ⟨d - 1, by omega⟩
  refine zCan_body (nL := 8) (rt := (some .int)) (cd := zc145) (xg145) ⟨Nat.le_of_ble_eq_true rfl, by decide⟩ (Nat.le_refl _) ?_
  exact T145_0 H hd F rfl rfl h
