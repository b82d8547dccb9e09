/-! Methods as functions over the memory. -/
set_option maxRecDepth 4000 in
theorem xg26 : zg zms 26 = some (zm26.2.2.1, zm26.2.2.2.1, zc26) := rfl
theorem xr26 : zar 26 = (1, 200) := by decide +kernel
set_option maxRecDepth 4000 in
theorem xg34 : zg zms 34 = some (zm34.2.2.1, zm34.2.2.2.1, zc34) := rfl
set_option maxRecDepth 4000 in
theorem xg35 : zg zms 35 = some (zm35.2.2.1, zm35.2.2.2.1, zc35) := rfl
set_option maxRecDepth 4000 in
theorem xg36 : zg zms 36 = some (zm36.2.2.1, zm36.2.2.2.1, zc36) := rfl
set_option maxRecDepth 4000 in
theorem xg37 : zg zms 37 = some (zm37.2.2.1, zm37.2.2.2.1, zc37) := rfl
theorem xr37 : zar 37 = (2, 5) := by decide +kernel
set_option maxRecDepth 4000 in
theorem xg38 : zg zms 38 = some (zm38.2.2.1, zm38.2.2.2.1, zc38) := rfl
set_option maxRecDepth 4000 in
theorem xg39 : zg zms 39 = some (zm39.2.2.1, zm39.2.2.2.1, zc39) := rfl
theorem xr39 : zar 39 = (1, 200) := by decide +kernel
set_option maxRecDepth 4000 in
theorem xg40 : zg zms 40 = some (zm40.2.2.1, zm40.2.2.2.1, zc40) := rfl
theorem xr40 : zar 40 = (1, 5) := by decide +kernel
set_option maxRecDepth 4000 in
theorem xg41 : zg zms 41 = some (zm41.2.2.1, zm41.2.2.2.1, zc41) := rfl
theorem xr41 : zar 41 = (1, 5) := by decide +kernel
set_option maxRecDepth 4000 in
theorem xg42 : zg zms 42 = some (zm42.2.2.1, zm42.2.2.2.1, zc42) := rfl
theorem xr42 : zar 42 = (1, 5) := by decide +kernel
set_option maxRecDepth 4000 in
theorem xg43 : zg zms 43 = some (zm43.2.2.1, zm43.2.2.2.1, zc43) := rfl
theorem xr43 : zar 43 = (0, 5) := by decide +kernel
set_option maxRecDepth 4000 in
theorem xg44 : zg zms 44 = some (zm44.2.2.1, zm44.2.2.2.1, zc44) := rfl
theorem xr44 : zar 44 = (2, 5) := by decide +kernel
set_option maxRecDepth 4000 in
theorem xg45 : zg zms 45 = some (zm45.2.2.1, zm45.2.2.2.1, zc45) := rfl
theorem xr45 : zar 45 = (1, 5) := by decide +kernel
set_option maxRecDepth 4000 in
theorem xg46 : zg zms 46 = some (zm46.2.2.1, zm46.2.2.2.1, zc46) := rfl
theorem xr46 : zar 46 = (1, 5) := by decide +kernel
set_option maxRecDepth 4000 in
theorem xg47 : zg zms 47 = some (zm47.2.2.1, zm47.2.2.2.1, zc47) := rfl
theorem xr47 : zar 47 = (1, 5) := by decide +kernel
set_option maxRecDepth 4000 in
theorem xg48 : zg zms 48 = some (zm48.2.2.1, zm48.2.2.2.1, zc48) := rfl
theorem xr48 : zar 48 = (1, 5) := by decide +kernel
set_option maxRecDepth 4000 in
theorem xg52 : zg zms 52 = some (zm52.2.2.1, zm52.2.2.2.1, zc52) := rfl
theorem xr52 : zar 52 = (2, 6) := by decide +kernel
set_option maxRecDepth 4000 in
theorem xg53 : zg zms 53 = some (zm53.2.2.1, zm53.2.2.2.1, zc53) := rfl
theorem xr53 : zar 53 = (0, 6) := by decide +kernel
set_option maxRecDepth 4000 in
theorem xg54 : zg zms 54 = some (zm54.2.2.1, zm54.2.2.2.1, zc54) := rfl
theorem xr54 : zar 54 = (0, 6) := by decide +kernel
set_option maxRecDepth 4000 in
theorem xg55 : zg zms 55 = some (zm55.2.2.1, zm55.2.2.2.1, zc55) := rfl
theorem xr55 : zar 55 = (1, 6) := by decide +kernel
set_option maxRecDepth 4000 in
theorem xg56 : zg zms 56 = some (zm56.2.2.1, zm56.2.2.2.1, zc56) := rfl
theorem xr56 : zar 56 = (1, 200) := by decide +kernel
set_option maxRecDepth 4000 in
theorem xg57 : zg zms 57 = some (zm57.2.2.1, zm57.2.2.2.1, zc57) := rfl
theorem xr57 : zar 57 = (1, 200) := by decide +kernel
set_option maxRecDepth 4000 in
theorem xg58 : zg zms 58 = some (zm58.2.2.1, zm58.2.2.2.1, zc58) := rfl
theorem xr58 : zar 58 = (2, 6) := by decide +kernel
set_option maxRecDepth 4000 in
theorem xg59 : zg zms 59 = some (zm59.2.2.1, zm59.2.2.2.1, zc59) := rfl
theorem xr59 : zar 59 = (1, 6) := by decide +kernel
set_option maxRecDepth 4000 in
theorem xg60 : zg zms 60 = some (zm60.2.2.1, zm60.2.2.2.1, zc60) := rfl
theorem xr60 : zar 60 = (1, 6) := by decide +kernel
set_option maxRecDepth 4000 in
theorem xg61 : zg zms 61 = some (zm61.2.2.1, zm61.2.2.2.1, zc61) := rfl
theorem xr61 : zar 61 = (0, 6) := by decide +kernel
set_option maxRecDepth 4000 in
theorem xg281 : zg zms 281 = some (zm281.2.2.1, zm281.2.2.2.1, zc281) := rfl
theorem xr281 : zar 281 = (0, 100) := by decide +kernel
set_option maxRecDepth 4000 in
theorem xg282 : zg zms 282 = some (zm282.2.2.1, zm282.2.2.2.1, zc282) := rfl
theorem xr282 : zar 282 = (1, 100) := by decide +kernel
set_option maxRecDepth 4000 in
theorem xg283 : zg zms 283 = some (zm283.2.2.1, zm283.2.2.2.1, zc283) := rfl
theorem xr283 : zar 283 = (0, 100) := by decide +kernel
set_option maxRecDepth 4000 in
theorem xg284 : zg zms 284 = some (zm284.2.2.1, zm284.2.2.2.1, zc284) := rfl
theorem xr284 : zar 284 = (0, 100) := by decide +kernel
set_option maxRecDepth 4000 in
theorem xg285 : zg zms 285 = some (zm285.2.2.1, zm285.2.2.2.1, zc285) := rfl
theorem xr285 : zar 285 = (2, 200) := by decide +kernel
set_option maxRecDepth 4000 in
theorem xg286 : zg zms 286 = some (zm286.2.2.1, zm286.2.2.2.1, zc286) := rfl
theorem xr286 : zar 286 = (2, 200) := by decide +kernel
set_option maxRecDepth 4000 in
theorem xg287 : zg zms 287 = some (zm287.2.2.1, zm287.2.2.2.1, zc287) := rfl
theorem xr287 : zar 287 = (2, 200) := by decide +kernel
set_option maxRecDepth 4000 in
theorem xg288 : zg zms 288 = some (zm288.2.2.1, zm288.2.2.2.1, zc288) := rfl
theorem xr288 : zar 288 = (1, 200) := by decide +kernel
set_option maxRecDepth 4000 in
theorem xg289 : zg zms 289 = some (zm289.2.2.1, zm289.2.2.2.1, zc289) := rfl
theorem xr289 : zar 289 = (2, 200) := by decide +kernel
set_option maxRecDepth 4000 in
theorem xg290 : zg zms 290 = some (zm290.2.2.1, zm290.2.2.2.1, zc290) := rfl
theorem xr290 : zar 290 = (2, 200) := by decide +kernel
set_option maxRecDepth 4000 in
theorem xg293 : zg zms 293 = some (zm293.2.2.1, zm293.2.2.2.1, zc293) := rfl
theorem xr293 : zar 293 = (3, 200) := by decide +kernel
/-- LentTools$Text.sign -/
def D53_2_38 (F : Nat) (m : xS) : Option (Int32 × xS) :=
  if zcmp .ge (m.1 2 2) (m.1 2 1) = true then
    some ((-1), m)
  else
    if xib (m.1 2 2) 400 = true then
      some ((m.1 1 ((m.1 2 2) : Int32).toNatClampNeg), m)
    else none
set_option maxRecDepth 20000 in
theorem T53_2_38 {B : zHp} (H : yH0 B) (X : yTx B) {e : Nat} (he : 1 ≤ e + 1) (F : Nat) {lv : List (Nat × Value)} {m : xS} {x : Int32 × xS} (l0 : zld lv 0 = some (.ref 2)) (h : D53_2_38 F m = some x) : zR none e 1 (some .int) zc53 (38, lv, []) (xW B m) (some (.int x.1), xW B x.2) := by
  unfold D53_2_38 at h
  refine q_lr (k := 1) (i := 0) (q := (.aload_n 0, 1, 0, 0, .null)) rfl (fun _ => rfl) l0 ?_
  refine r_gi (v := (m.1 2 2)) H (pc := 39) (i := _) rfl (by decide) (by decide) rfl ?_
  refine q_lr (k := 1) (i := 0) (q := (.aload_n 0, 1, 0, 0, .null)) rfl (fun _ => rfl) l0 ?_
  refine r_gi (v := (m.1 2 1)) H (pc := 43) (i := _) rfl (by decide) (by decide) rfl ?_
  refine r_ifc (len := 3) (a := 61) (b := 0) (v0 := .null) (cn := .ge) (off := 15) rfl (fun c => ?_) (fun c => ?_)
  · rw [if_pos c] at h
    refine r_s (fr' := (62, lv, [.int (-1)])) (hp' := xW B m) (q := (.iconst (-1), 1, 0, 0, .null)) rfl (fun _ => rfl) (Nat.le_refl _) ?_
    obtain rfl := Option.some.inj h
    exact q_ri (q := (.ireturn, 1, 0, 0, .null)) rfl (fun _ => rfl) rfl rfl
  · rw [if_neg (by rw [c]; decide)] at h
    refine q_lr (k := 1) (i := 0) (q := (.aload_n 0, 1, 0, 0, .null)) rfl (fun _ => rfl) l0 ?_
    refine r_grx H X (pc := 50) rfl ?_
    refine q_lr (k := 1) (i := 0) (q := (.aload_n 0, 1, 0, 0, .null)) rfl (fun _ => rfl) l0 ?_
    refine r_gi (v := (m.1 2 2)) H (pc := 54) (i := _) rfl (by decide) (by decide) rfl ?_
    obtain ⟨c1, h⟩ := xif h
    refine q_al (n := 400) (v := (m.1 1 ((m.1 2 2) : Int32).toNatClampNeg)) H (pc := 57) rfl (by decide) c1 rfl ?_
    refine r_s (fr' := (62, lv, [.int (m.1 1 ((m.1 2 2) : Int32).toNatClampNeg)])) (hp' := xW B m) (q := (.goto 4, 3, 62, 0, .null)) rfl (fun _ => rfl) (Nat.le_refl _) ?_
    obtain rfl := Option.some.inj h
    exact q_ri (q := (.ireturn, 1, 0, 0, .null)) rfl (fun _ => rfl) rfl rfl
def D53_2_0 (F : Nat) : Nat → xS → Option (Int32 × xS)
  | 0, _ => none
  | f + 1, m =>
    if zcmp .ge (m.1 2 2) (m.1 2 1) = true then
      D53_2_38 F m
    else
      if xib (m.1 2 2) 400 = true then
        if zcmp .ne (m.1 1 ((m.1 2 2) : Int32).toNatClampNeg) 32 = true then
          D53_2_38 F m
        else
          D53_2_0 F f (xu m 2 2 ((m.1 2 2) + 1))
      else none
set_option maxRecDepth 20000 in
theorem T53_2_0 {B : zHp} (H : yH0 B) (X : yTx B) {e : Nat} (he : 1 ≤ e + 1) (F : Nat) : ∀ (f : Nat) {lv : List (Nat × Value)} {m : xS} {x : Int32 × xS}, zld lv 0 = some (.ref 2) → D53_2_0 F f m = some x → zR none e 1 (some .int) zc53 (0, lv, []) (xW B m) (some (.int x.1), xW B x.2) := by
  intro f
  induction f with
  | zero => intro lv m x l0 h; cases h
  | succ f ih =>
    intro lv m x l0 h
    unfold D53_2_0 at h
    refine q_lr (k := 1) (i := 0) (q := (.aload_n 0, 1, 0, 0, .null)) rfl (fun _ => rfl) l0 ?_
    refine r_gi (v := (m.1 2 2)) H (pc := 1) (i := _) rfl (by decide) (by decide) rfl ?_
    refine q_lr (k := 1) (i := 0) (q := (.aload_n 0, 1, 0, 0, .null)) rfl (fun _ => rfl) l0 ?_
    refine r_gi (v := (m.1 2 1)) H (pc := 5) (i := _) rfl (by decide) (by decide) rfl ?_
    refine r_ifc (len := 3) (a := 38) (b := 0) (v0 := .null) (cn := .ge) (off := 30) rfl (fun c => ?_) (fun c => ?_)
    · rw [if_pos c] at h
      exact T53_2_38 H X he F l0 h
    · rw [if_neg (by rw [c]; decide)] at h
      refine q_lr (k := 1) (i := 0) (q := (.aload_n 0, 1, 0, 0, .null)) rfl (fun _ => rfl) l0 ?_
      refine r_grx H X (pc := 12) rfl ?_
      refine q_lr (k := 1) (i := 0) (q := (.aload_n 0, 1, 0, 0, .null)) rfl (fun _ => rfl) l0 ?_
      refine r_gi (v := (m.1 2 2)) H (pc := 16) (i := _) rfl (by decide) (by decide) rfl ?_
      obtain ⟨c1, h⟩ := xif h
      refine q_al (n := 400) (v := (m.1 1 ((m.1 2 2) : Int32).toNatClampNeg)) H (pc := 19) rfl (by decide) c1 rfl ?_
      refine r_s (fr' := (22, lv, [.int 32, .int (m.1 1 ((m.1 2 2) : Int32).toNatClampNeg)])) (hp' := xW B m) (q := (.bipush 32, 2, 0, 0, .null)) rfl (fun _ => rfl) (Nat.le_refl _) ?_
      refine r_ifc (len := 3) (a := 38) (b := 0) (v0 := .null) (cn := .ne) (off := 16) rfl (fun c => ?_) (fun c => ?_)
      · rw [if_pos c] at h
        exact T53_2_38 H X he F l0 h
      · rw [if_neg (by rw [c]; decide)] at h
        refine q_lr (k := 1) (i := 0) (q := (.aload_n 0, 1, 0, 0, .null)) rfl (fun _ => rfl) l0 ?_
        refine r_s (fr' := (27, lv, [.ref 2, .ref 2])) (hp' := xW B m) (q := (.dup, 1, 0, 0, .null)) rfl (fun _ => rfl) (Nat.le_refl _) ?_
        refine r_gi (v := (m.1 2 2)) H (pc := 27) (i := _) rfl (by decide) (by decide) rfl ?_
        refine r_s (fr' := (31, lv, [.int 1, .int (m.1 2 2), .ref 2])) (hp' := xW B m) (q := (.iconst 1, 1, 0, 0, .null)) rfl (fun _ => rfl) (Nat.le_refl _) ?_
        refine r_s (fr' := (32, lv, [.int ((m.1 2 2) + 1), .ref 2])) (hp' := xW B m) (q := (.iadd, 1, 0, 0, .null)) rfl (fun _ => rfl) (Nat.le_refl _) ?_
        refine r_pi (s2 := (xu m 2 2 ((m.1 2 2) + 1))) H (pc := 32) rfl (by decide) rfl rfl ?_
        refine r_s (fr' := (0, lv, [])) (hp' := xW B (xu m 2 2 ((m.1 2 2) + 1))) (q := (.goto (-35), 3, 0, 0, .null)) rfl (fun _ => rfl) (Nat.le_refl _) ?_
        exact ih l0 h
def D53_2 (F : Nat) (m : xS) : Option (Int32 × xS) := D53_2_0 F F m
set_option maxRecDepth 20000 in
theorem Z53_2 {B : zHp} (H : yH0 B) (X : yTx B) {F : Nat} {m : xS} {x : Int32 × xS} (h : D53_2 F m = some x) {d : Nat} (hd : 1 ≤ d) : zCan d 53 [.ref 2] (xW B m) (some (.int x.1), xW B x.2) := by
  obtain ⟨e, rfl⟩ : ∃ e, d = e + 1 := ⟨d - 1, by omega⟩
  refine zCan_body (nL := 1) (rt := (some .int)) (cd := zc53) (xg53) ⟨Nat.le_of_ble_eq_true rfl, by decide⟩ (Nat.le_refl _) ?_
  exact T53_2_0 H X hd F F rfl h
/-- LentTools$Text.isLetter -/
def D57_16 (F : Nat) (v0 : Int32) (m : xS) : Option (Int32 × xS) :=
  some (0, m)
set_option maxRecDepth 20000 in
theorem T57_16 {B : zHp} (H : yH0 B) (X : yTx B) {e : Nat} (he : 1 ≤ e + 1) (F : Nat) {v0 : Int32} {lv : List (Nat × Value)} {m : xS} {x : Int32 × xS} (l0 : zld lv 0 = some (.int v0)) (h : D57_16 F v0 m = some x) : zR none e 1 (some .boolean) zc57 (16, lv, []) (xW B m) (some (.int x.1), xW B x.2) := by
  unfold D57_16 at h
  refine r_s (fr' := (17, lv, [.int 0])) (hp' := xW B m) (q := (.iconst 0, 1, 0, 0, .null)) rfl (fun _ => rfl) (Nat.le_refl _) ?_
  obtain rfl := Option.some.inj h
  exact q_ri (q := (.ireturn, 1, 0, 0, .null)) rfl (fun _ => rfl) rfl rfl
def D57 (F : Nat) (v0 : Int32) (m : xS) : Option (Int32 × xS) :=
  if zcmp .lt v0 97 = true then
    D57_16 F v0 m
  else
    if zcmp .gt v0 122 = true then
      D57_16 F v0 m
    else
      some (1, m)
set_option maxRecDepth 20000 in
theorem T57 {B : zHp} (H : yH0 B) (X : yTx B) {e : Nat} (he : 1 ≤ e + 1) (F : Nat) {v0 : Int32} {lv : List (Nat × Value)} {m : xS} {x : Int32 × xS} (l0 : zld lv 0 = some (.int v0)) (h : D57 F v0 m = some x) : zR none e 1 (some .boolean) zc57 (0, lv, []) (xW B m) (some (.int x.1), xW B x.2) := by
  unfold D57 at h
  refine q_li (k := 1) (i := 0) (q := (.iload_n 0, 1, 0, 0, .null)) rfl (fun _ => rfl) l0 ?_
  refine r_s (fr' := (3, lv, [.int 97, .int v0])) (hp' := xW B m) (q := (.bipush 97, 2, 0, 0, .null)) rfl (fun _ => rfl) (Nat.le_refl _) ?_
  refine r_ifc (len := 3) (a := 16) (b := 0) (v0 := .null) (cn := .lt) (off := 13) rfl (fun c => ?_) (fun c => ?_)
  · rw [if_pos c] at h
    exact T57_16 H X he F l0 h
  · rw [if_neg (by rw [c]; decide)] at h
    refine q_li (k := 1) (i := 0) (q := (.iload_n 0, 1, 0, 0, .null)) rfl (fun _ => rfl) l0 ?_
    refine r_s (fr' := (9, lv, [.int 122, .int v0])) (hp' := xW B m) (q := (.bipush 122, 2, 0, 0, .null)) rfl (fun _ => rfl) (Nat.le_refl _) ?_
    refine r_ifc (len := 3) (a := 16) (b := 0) (v0 := .null) (cn := .gt) (off := 7) rfl (fun c => ?_) (fun c => ?_)
    · rw [if_pos c] at h
      exact T57_16 H X he F l0 h
    · rw [if_neg (by rw [c]; decide)] at h
      refine r_s (fr' := (13, lv, [.int 1])) (hp' := xW B m) (q := (.iconst 1, 1, 0, 0, .null)) rfl (fun _ => rfl) (Nat.le_refl _) ?_
      refine r_s (fr' := (17, lv, [.int 1])) (hp' := xW B m) (q := (.goto 4, 3, 17, 0, .null)) rfl (fun _ => rfl) (Nat.le_refl _) ?_
      obtain rfl := Option.some.inj h
      exact q_ri (q := (.ireturn, 1, 0, 0, .null)) rfl (fun _ => rfl) rfl rfl
set_option maxRecDepth 20000 in
theorem Z57 {B : zHp} (H : yH0 B) (X : yTx B) {F : Nat} {a0 : Int32} {m : xS} {x : Int32 × xS} (h : D57 F a0 m = some x) {d : Nat} (hd : 1 ≤ d) : zCan d 57 [.int a0] (xW B m) (some (.int x.1), xW B x.2) := by
  obtain ⟨e, rfl⟩ : ∃ e, d = e + 1 := ⟨d - 1, by omega⟩
  refine zCan_body (nL := 1) (rt := (some .boolean)) (cd := zc57) (xg57) ⟨Nat.le_of_ble_eq_true rfl, by decide⟩ (Nat.le_refl _) ?_
  exact T57 H X hd F rfl h
/-- java/lang/String.coder -/
def D283_1002 (F : Nat) (m : xS) : Option (Int32 × xS) :=
  if zcmp .eq 1 0 = true then
    some (1, m)
  else
    some (0, m)
set_option maxRecDepth 20000 in
theorem T283_1002 {B : zHp} (H : yH0 B) (X : yTx B) {e : Nat} (he : 1 ≤ e + 1) (F : Nat) {lv : List (Nat × Value)} {m : xS} {x : Int32 × xS} (l0 : zld lv 0 = some (.ref 1002)) (h : D283_1002 F m = some x) : zR none e 1 (some .byte) zc283 (0, lv, []) (xW B m) (some (.int x.1), xW B x.2) := by
  unfold D283_1002 at h
  refine r_s (fr' := (3, lv, [.int 1])) (hp' := xW B m) (q := (.getstatic 38, 3, 0, 0, .int 1)) rfl (fun _ => rfl) (Nat.le_refl _) ?_
  refine r_if (len := 3) (a := 13) (b := 0) (v0 := .null) (cn := .eq) (off := 10) rfl (fun c => ?_) (fun c => ?_)
  · rw [if_pos c] at h
    refine r_s (fr' := (14, lv, [.int 1])) (hp' := xW B m) (q := (.iconst 1, 1, 0, 0, .null)) rfl (fun _ => rfl) (Nat.le_refl _) ?_
    obtain rfl := Option.some.inj h
    exact q_ri (q := (.ireturn, 1, 0, 0, .null)) rfl (fun _ => rfl) rfl rfl
  · rw [if_neg (by rw [c]; decide)] at h
    refine q_lr (k := 1) (i := 0) (q := (.aload_n 0, 1, 0, 0, .null)) rfl (fun _ => rfl) l0 ?_
    refine r_s (fr' := (10, lv, [.int 0])) (hp' := xW B m) (q := (.getfield 15, 3, 100, 1, .null)) rfl (fun _ => rfl) (Nat.le_refl _) ?_
    refine r_s (fr' := (14, lv, [.int 0])) (hp' := xW B m) (q := (.goto 4, 3, 14, 0, .null)) rfl (fun _ => rfl) (Nat.le_refl _) ?_
    obtain rfl := Option.some.inj h
    exact q_ri (q := (.ireturn, 1, 0, 0, .null)) rfl (fun _ => rfl) rfl rfl
set_option maxRecDepth 20000 in
theorem Z283_1002 {B : zHp} (H : yH0 B) (X : yTx B) {F : Nat} {m : xS} {x : Int32 × xS} (h : D283_1002 F m = some x) {d : Nat} (hd : 1 ≤ d) : zCan d 283 [.ref 1002] (xW B m) (some (.int x.1), xW B x.2) := by
  obtain ⟨e, rfl⟩ : ∃ e, d = e + 1 := ⟨d - 1, by omega⟩
  refine zCan_body (nL := 1) (rt := (some .byte)) (cd := zc283) (xg283) ⟨Nat.le_of_ble_eq_true rfl, by decide⟩ (Nat.le_refl _) ?_
  exact T283_1002 H X hd F rfl h
/-- java/lang/String.length -/
def D281_1002 (F : Nat) (m : xS) : Option (Int32 × xS) :=
  (D283_1002 F m).bind fun q6 =>
    some (((Int32.ofNat 5) >>> (q6.1 &&& 31)), q6.2)
set_option maxRecDepth 20000 in
theorem T281_1002 {B : zHp} (H : yH0 B) (X : yTx B) {e : Nat} (he : 2 ≤ e + 1) (F : Nat) {lv : List (Nat × Value)} {m : xS} {x : Int32 × xS} (l0 : zld lv 0 = some (.ref 1002)) (h : D281_1002 F m = some x) : zR none e 1 (some .int) zc281 (0, lv, []) (xW B m) (some (.int x.1), xW B x.2) := by
  unfold D281_1002 at h
  refine q_lr (k := 1) (i := 0) (q := (.aload_n 0, 1, 0, 0, .null)) rfl (fun _ => rfl) l0 ?_
  refine r_s (fr' := (4, lv, [.ref 1021])) (hp' := xW B m) (q := (.getfield 9, 3, 100, 0, .null)) rfl (fun _ => rfl) (Nat.le_refl _) ?_
  refine r_s (fr' := (5, lv, [.int (Int32.ofNat 5)])) (hp' := xW B m) (q := (.arraylength, 1, 0, 0, .null)) rfl (fun _ => rfl) (Nat.le_refl _) ?_
  refine q_lr (k := 1) (i := 0) (q := (.aload_n 0, 1, 0, 0, .null)) rfl (fun _ => rfl) l0 ?_
  obtain ⟨q6, h6, h⟩ := xbind h
  refine r_call (ix := 1002) (as := []) (rest := [.int (Int32.ofNat 5)]) (rv := some (.int q6.1)) (hp' := xW B q6.2) (pc := 6) rfl xr283 rfl rfl rfl rfl (Nat.le_of_ble_eq_true rfl) (Z283_1002 H X h6 (by omega)) (Nat.le_refl _) ?_
  refine r_s (fr' := (10, lv, [.int ((Int32.ofNat 5) >>> (q6.1 &&& 31))])) (hp' := xW B q6.2) (q := (.ishr, 1, 0, 0, .null)) rfl (fun _ => rfl) (Nat.le_refl _) ?_
  obtain rfl := Option.some.inj h
  exact q_ri (q := (.ireturn, 1, 0, 0, .null)) rfl (fun _ => rfl) rfl rfl
set_option maxRecDepth 20000 in
theorem Z281_1002 {B : zHp} (H : yH0 B) (X : yTx B) {F : Nat} {m : xS} {x : Int32 × xS} (h : D281_1002 F m = some x) {d : Nat} (hd : 2 ≤ d) : zCan d 281 [.ref 1002] (xW B m) (some (.int x.1), xW B x.2) := by
  obtain ⟨e, rfl⟩ : ∃ e, d = e + 1 := ⟨d - 1, by omega⟩
  refine zCan_body (nL := 1) (rt := (some .int)) (cd := zc281) (xg281) ⟨Nat.le_of_ble_eq_true rfl, by decide⟩ (Nat.le_refl _) ?_
  exact T281_1002 H X hd F rfl h
/-- java/lang/String.isLatin1 -/
def D284_1002_17 (F : Nat) (m : xS) : Option (Int32 × xS) :=
  some (0, m)
set_option maxRecDepth 20000 in
theorem T284_1002_17 {B : zHp} (H : yH0 B) (X : yTx B) {e : Nat} (he : 1 ≤ e + 1) (F : Nat) {lv : List (Nat × Value)} {m : xS} {x : Int32 × xS} (l0 : zld lv 0 = some (.ref 1002)) (h : D284_1002_17 F m = some x) : zR none e 1 (some .boolean) zc284 (17, lv, []) (xW B m) (some (.int x.1), xW B x.2) := by
  unfold D284_1002_17 at h
  refine r_s (fr' := (18, lv, [.int 0])) (hp' := xW B m) (q := (.iconst 0, 1, 0, 0, .null)) rfl (fun _ => rfl) (Nat.le_refl _) ?_
  obtain rfl := Option.some.inj h
  exact q_ri (q := (.ireturn, 1, 0, 0, .null)) rfl (fun _ => rfl) rfl rfl
def D284_1002 (F : Nat) (m : xS) : Option (Int32 × xS) :=
  if zcmp .eq 1 0 = true then
    D284_1002_17 F m
  else
    if zcmp .ne 0 0 = true then
      D284_1002_17 F m
    else
      some (1, m)
set_option maxRecDepth 20000 in
theorem T284_1002 {B : zHp} (H : yH0 B) (X : yTx B) {e : Nat} (he : 1 ≤ e + 1) (F : Nat) {lv : List (Nat × Value)} {m : xS} {x : Int32 × xS} (l0 : zld lv 0 = some (.ref 1002)) (h : D284_1002 F m = some x) : zR none e 1 (some .boolean) zc284 (0, lv, []) (xW B m) (some (.int x.1), xW B x.2) := by
  unfold D284_1002 at h
  refine r_s (fr' := (3, lv, [.int 1])) (hp' := xW B m) (q := (.getstatic 38, 3, 0, 0, .int 1)) rfl (fun _ => rfl) (Nat.le_refl _) ?_
  refine r_if (len := 3) (a := 17) (b := 0) (v0 := .null) (cn := .eq) (off := 14) rfl (fun c => ?_) (fun c => ?_)
  · rw [if_pos c] at h
    exact T284_1002_17 H X he F l0 h
  · rw [if_neg (by rw [c]; decide)] at h
    refine q_lr (k := 1) (i := 0) (q := (.aload_n 0, 1, 0, 0, .null)) rfl (fun _ => rfl) l0 ?_
    refine r_s (fr' := (10, lv, [.int 0])) (hp' := xW B m) (q := (.getfield 15, 3, 100, 1, .null)) rfl (fun _ => rfl) (Nat.le_refl _) ?_
    refine r_if (len := 3) (a := 17) (b := 0) (v0 := .null) (cn := .ne) (off := 7) rfl (fun c => ?_) (fun c => ?_)
    · rw [if_pos c] at h
      exact T284_1002_17 H X he F l0 h
    · rw [if_neg (by rw [c]; decide)] at h
      refine r_s (fr' := (14, lv, [.int 1])) (hp' := xW B m) (q := (.iconst 1, 1, 0, 0, .null)) rfl (fun _ => rfl) (Nat.le_refl _) ?_
      refine r_s (fr' := (18, lv, [.int 1])) (hp' := xW B m) (q := (.goto 4, 3, 18, 0, .null)) rfl (fun _ => rfl) (Nat.le_refl _) ?_
      obtain rfl := Option.some.inj h
      exact q_ri (q := (.ireturn, 1, 0, 0, .null)) rfl (fun _ => rfl) rfl rfl
set_option maxRecDepth 20000 in
theorem Z284_1002 {B : zHp} (H : yH0 B) (X : yTx B) {F : Nat} {m : xS} {x : Int32 × xS} (h : D284_1002 F m = some x) {d : Nat} (hd : 1 ≤ d) : zCan d 284 [.ref 1002] (xW B m) (some (.int x.1), xW B x.2) := by
  obtain ⟨e, rfl⟩ : ∃ e, d = e + 1 := ⟨d - 1, by omega⟩
  refine zCan_body (nL := 1) (rt := (some .boolean)) (cd := zc284) (xg284) ⟨Nat.le_of_ble_eq_true rfl, by decide⟩ (Nat.le_refl _) ?_
  exact T284_1002 H X hd F rfl h
/-- jdk/internal/util/Preconditions.checkIndex -/
def D293_9 (F : Nat) (v0 : Int32) (v1 : Int32) (m : xS) : Option (Int32 × xS) :=
  none
set_option maxRecDepth 20000 in
theorem T293_9 {B : zHp} (H : yH0 B) (X : yTx B) {e : Nat} (he : 1 ≤ e + 1) (F : Nat) {v0 : Int32} {v1 : Int32} {lv : List (Nat × Value)} {m : xS} {x : Int32 × xS} (l0 : zld lv 0 = some (.int v0)) (l1 : zld lv 1 = some (.int v1)) (l2 : zld lv 2 = some (.retAddr 0)) (h : D293_9 F v0 v1 m = some x) : zR none e 3 (some .int) zc293 (9, lv, []) (xW B m) (some (.int x.1), xW B x.2) := by
  unfold D293_9 at h
  cases h
def D293 (F : Nat) (v0 : Int32) (v1 : Int32) (m : xS) : Option (Int32 × xS) :=
  if zcmp .lt v0 0 = true then
    D293_9 F v0 v1 m
  else
    if zcmp .lt v0 v1 = true then
      some (v0, m)
    else
      D293_9 F v0 v1 m
set_option maxRecDepth 20000 in
theorem T293 {B : zHp} (H : yH0 B) (X : yTx B) {e : Nat} (he : 1 ≤ e + 1) (F : Nat) {v0 : Int32} {v1 : Int32} {lv : List (Nat × Value)} {m : xS} {x : Int32 × xS} (l0 : zld lv 0 = some (.int v0)) (l1 : zld lv 1 = some (.int v1)) (l2 : zld lv 2 = some (.retAddr 0)) (h : D293 F v0 v1 m = some x) : zR none e 3 (some .int) zc293 (0, lv, []) (xW B m) (some (.int x.1), xW B x.2) := by
  unfold D293 at h
  refine q_li (k := 1) (i := 0) (q := (.iload_n 0, 1, 0, 0, .null)) rfl (fun _ => rfl) l0 ?_
  refine r_if (len := 3) (a := 9) (b := 0) (v0 := .null) (cn := .lt) (off := 8) rfl (fun c => ?_) (fun c => ?_)
  · rw [if_pos c] at h
    exact T293_9 H X he F l0 l1 l2 h
  · rw [if_neg (by rw [c]; decide)] at h
    refine q_li (k := 1) (i := 0) (q := (.iload_n 0, 1, 0, 0, .null)) rfl (fun _ => rfl) l0 ?_
    refine q_li (k := 1) (i := 1) (q := (.iload_n 1, 1, 0, 0, .null)) rfl (fun _ => rfl) l1 ?_
    refine r_ifc (len := 3) (a := 16) (b := 0) (v0 := .null) (cn := .lt) (off := 10) rfl (fun c => ?_) (fun c => ?_)
    · rw [if_pos c] at h
      refine q_li (k := 1) (i := 0) (q := (.iload_n 0, 1, 0, 0, .null)) rfl (fun _ => rfl) l0 ?_
      obtain rfl := Option.some.inj h
      exact q_ri (q := (.ireturn, 1, 0, 0, .null)) rfl (fun _ => rfl) rfl rfl
    · rw [if_neg (by rw [c]; decide)] at h
      exact T293_9 H X he F l0 l1 l2 h
set_option maxRecDepth 20000 in
theorem Z293 {B : zHp} (H : yH0 B) (X : yTx B) {F : Nat} {a0 : Int32} {a1 : Int32} {m : xS} {x : Int32 × xS} (h : D293 F a0 a1 m = some x) {d : Nat} (hd : 1 ≤ d) : zCan d 293 [.int a0, .int a1, .retAddr 0] (xW B m) (some (.int x.1), xW B x.2) := by
  obtain ⟨e, rfl⟩ : ∃ e, d = e + 1 := ⟨d - 1, by omega⟩
  refine zCan_body (nL := 3) (rt := (some .int)) (cd := zc293) (xg293) ⟨Nat.le_of_ble_eq_true rfl, by decide⟩ (Nat.le_refl _) ?_
  exact T293 H X hd F rfl rfl rfl h
/-- java/lang/String.checkIndex -/
def D285 (F : Nat) (v0 : Int32) (v1 : Int32) (m : xS) : Option (Unit × xS) :=
  (D293 F v0 v1 m).bind fun q5 =>
    some ((), q5.2)
set_option maxRecDepth 20000 in
theorem T285 {B : zHp} (H : yH0 B) (X : yTx B) {e : Nat} (he : 2 ≤ e + 1) (F : Nat) {v0 : Int32} {v1 : Int32} {lv : List (Nat × Value)} {m : xS} {x : Unit × xS} (l0 : zld lv 0 = some (.int v0)) (l1 : zld lv 1 = some (.int v1)) (h : D285 F v0 v1 m = some x) : zR none e 2 none zc285 (0, lv, []) (xW B m) (none, xW B x.2) := by
  unfold D285 at h
  refine q_li (k := 1) (i := 0) (q := (.iload_n 0, 1, 0, 0, .null)) rfl (fun _ => rfl) l0 ?_
  refine q_li (k := 1) (i := 1) (q := (.iload_n 1, 1, 0, 0, .null)) rfl (fun _ => rfl) l1 ?_
  refine r_s (fr' := (5, lv, [.retAddr 0, .int v1, .int v0])) (hp' := xW B m) (q := (.getstatic 1053, 3, 4, 0, .retAddr 0)) rfl (fun _ => rfl) (Nat.le_refl _) ?_
  obtain ⟨q5, h5, h⟩ := xbind h
  refine r_callS (as := [.int v0, .int v1, .retAddr 0]) (rest := []) (rv := some (.int q5.1)) (hp' := xW B q5.2) (pc := 5) rfl xr293 rfl rfl rfl (Nat.le_of_ble_eq_true rfl) (Z293 H X h5 (by omega)) (Nat.le_refl _) ?_
  refine r_s (fr' := (9, lv, [])) (hp' := xW B q5.2) (q := (.pop, 1, 0, 0, .null)) rfl (fun _ => rfl) (Nat.le_refl _) ?_
  obtain rfl := Option.some.inj h
  exact r_ret (q := (.return_, 1, 0, 0, .null)) rfl rfl (fun _ => rfl)
set_option maxRecDepth 20000 in
theorem Z285 {B : zHp} (H : yH0 B) (X : yTx B) {F : Nat} {a0 : Int32} {a1 : Int32} {m : xS} {x : Unit × xS} (h : D285 F a0 a1 m = some x) {d : Nat} (hd : 2 ≤ d) : zCan d 285 [.int a0, .int a1] (xW B m) (none, xW B x.2) := by
  obtain ⟨e, rfl⟩ : ∃ e, d = e + 1 := ⟨d - 1, by omega⟩
  refine zCan_body (nL := 2) (rt := none) (cd := zc285) (xg285) ⟨Nat.le_of_ble_eq_true rfl, by decide⟩ (Nat.le_refl _) ?_
  exact T285 H X hd F rfl rfl h
/-- java/lang/StringLatin1.charAt -/
def D286_1021 (F : Nat) (v1 : Int32) (m : xS) : Option (Int32 × xS) :=
  (D285 F v1 (Int32.ofNat 5) m).bind fun q3 =>
    if xib v1 5 = true then
      if (vp_nar .char ((((zsv 21 (v1 : Int32).toNatClampNeg) &&& 255) : Int32).toUInt32 % 65536).toInt32 == ((((zsv 21 (v1 : Int32).toNatClampNeg) &&& 255) : Int32).toUInt32 % 65536).toInt32) = true then
        some (((((zsv 21 (v1 : Int32).toNatClampNeg) &&& 255) : Int32).toUInt32 % 65536).toInt32, q3.2)
      else none
    else none
set_option maxRecDepth 20000 in
theorem T286_1021 {B : zHp} (H : yH0 B) (X : yTx B) {e : Nat} (he : 3 ≤ e + 1) (F : Nat) {v1 : Int32} {lv : List (Nat × Value)} {m : xS} {x : Int32 × xS} (l0 : zld lv 0 = some (.ref 1021)) (l1 : zld lv 1 = some (.int v1)) (h : D286_1021 F v1 m = some x) : zR none e 2 (some .char) zc286 (0, lv, []) (xW B m) (some (.int x.1), xW B x.2) := by
  unfold D286_1021 at h
  refine q_li (k := 1) (i := 1) (q := (.iload_n 1, 1, 0, 0, .null)) rfl (fun _ => rfl) l1 ?_
  refine q_lr (k := 1) (i := 0) (q := (.aload_n 0, 1, 0, 0, .null)) rfl (fun _ => rfl) l0 ?_
  refine r_s (fr' := (3, lv, [.int (Int32.ofNat 5), .int v1])) (hp' := xW B m) (q := (.arraylength, 1, 0, 0, .null)) rfl (fun _ => rfl) (Nat.le_refl _) ?_
  obtain ⟨q3, h3, h⟩ := xbind h
  refine r_callS (as := [.int v1, .int (Int32.ofNat 5)]) (rest := []) (rv := none) (hp' := xW B q3.2) (pc := 3) rfl xr285 rfl rfl rfl (Nat.le_of_ble_eq_true rfl) (Z285 H X h3 (by omega)) (Nat.le_refl _) ?_
  refine q_lr (k := 1) (i := 0) (q := (.aload_n 0, 1, 0, 0, .null)) rfl (fun _ => rfl) l0 ?_
  refine q_li (k := 1) (i := 1) (q := (.iload_n 1, 1, 0, 0, .null)) rfl (fun _ => rfl) l1 ?_
  obtain ⟨c1, h⟩ := xif h
  refine q_sbl (n := 5) (f := zsv 21) (i := 1021) (pc := 8) rfl (by decide) rfl c1 ?_
  refine r_s (fr' := (12, lv, [.int 255, .int (zsv 21 (v1 : Int32).toNatClampNeg)])) (hp' := xW B q3.2) (q := (.sipush 255, 3, 0, 0, .null)) rfl (fun _ => rfl) (Nat.le_refl _) ?_
  refine r_s (fr' := (13, lv, [.int ((zsv 21 (v1 : Int32).toNatClampNeg) &&& 255)])) (hp' := xW B q3.2) (q := (.iand, 1, 0, 0, .null)) rfl (fun _ => rfl) (Nat.le_refl _) ?_
  refine r_s (fr' := (14, lv, [.int ((((zsv 21 (v1 : Int32).toNatClampNeg) &&& 255) : Int32).toUInt32 % 65536).toInt32])) (hp' := xW B q3.2) (q := (.i2c, 1, 0, 0, .null)) rfl (fun _ => rfl) (Nat.le_refl _) ?_
  obtain ⟨c2, h⟩ := xif h
  obtain rfl := Option.some.inj h
  exact q_ri (q := (.ireturn, 1, 0, 0, .null)) rfl (fun _ => rfl) rfl (xnar_ok rfl c2)
set_option maxRecDepth 20000 in
theorem Z286_1021 {B : zHp} (H : yH0 B) (X : yTx B) {F : Nat} {a1 : Int32} {m : xS} {x : Int32 × xS} (h : D286_1021 F a1 m = some x) {d : Nat} (hd : 3 ≤ d) : zCan d 286 [.ref 1021, .int a1] (xW B m) (some (.int x.1), xW B x.2) := by
  obtain ⟨e, rfl⟩ : ∃ e, d = e + 1 := ⟨d - 1, by omega⟩
  refine zCan_body (nL := 2) (rt := (some .char)) (cd := zc286) (xg286) ⟨Nat.le_of_ble_eq_true rfl, by decide⟩ (Nat.le_refl _) ?_
  exact T286_1021 H X hd F rfl rfl h
/-- java/lang/StringUTF16.length -/
def D288_1021 (F : Nat) (m : xS) : Option (Int32 × xS) :=
  some (((Int32.ofNat 5) >>> (1 &&& 31)), m)
set_option maxRecDepth 20000 in
theorem T288_1021 {B : zHp} (H : yH0 B) (X : yTx B) {e : Nat} (he : 1 ≤ e + 1) (F : Nat) {lv : List (Nat × Value)} {m : xS} {x : Int32 × xS} (l0 : zld lv 0 = some (.ref 1021)) (h : D288_1021 F m = some x) : zR none e 1 (some .int) zc288 (0, lv, []) (xW B m) (some (.int x.1), xW B x.2) := by
  unfold D288_1021 at h
  refine q_lr (k := 1) (i := 0) (q := (.aload_n 0, 1, 0, 0, .null)) rfl (fun _ => rfl) l0 ?_
  refine r_s (fr' := (2, lv, [.int (Int32.ofNat 5)])) (hp' := xW B m) (q := (.arraylength, 1, 0, 0, .null)) rfl (fun _ => rfl) (Nat.le_refl _) ?_
  refine r_s (fr' := (3, lv, [.int 1, .int (Int32.ofNat 5)])) (hp' := xW B m) (q := (.iconst 1, 1, 0, 0, .null)) rfl (fun _ => rfl) (Nat.le_refl _) ?_
  refine r_s (fr' := (4, lv, [.int ((Int32.ofNat 5) >>> (1 &&& 31))])) (hp' := xW B m) (q := (.ishr, 1, 0, 0, .null)) rfl (fun _ => rfl) (Nat.le_refl _) ?_
  obtain rfl := Option.some.inj h
  exact q_ri (q := (.ireturn, 1, 0, 0, .null)) rfl (fun _ => rfl) rfl rfl
set_option maxRecDepth 20000 in
theorem Z288_1021 {B : zHp} (H : yH0 B) (X : yTx B) {F : Nat} {m : xS} {x : Int32 × xS} (h : D288_1021 F m = some x) {d : Nat} (hd : 1 ≤ d) : zCan d 288 [.ref 1021] (xW B m) (some (.int x.1), xW B x.2) := by
  obtain ⟨e, rfl⟩ : ∃ e, d = e + 1 := ⟨d - 1, by omega⟩
  refine zCan_body (nL := 1) (rt := (some .int)) (cd := zc288) (xg288) ⟨Nat.le_of_ble_eq_true rfl, by decide⟩ (Nat.le_refl _) ?_
  exact T288_1021 H X hd F rfl h
/-- java/lang/StringUTF16.checkIndex -/
def D290_1021 (F : Nat) (v0 : Int32) (m : xS) : Option (Unit × xS) :=
  (D288_1021 F m).bind fun q2 =>
    (D285 F v0 q2.1 q2.2).bind fun q5 =>
      some ((), q5.2)
set_option maxRecDepth 20000 in
theorem T290_1021 {B : zHp} (H : yH0 B) (X : yTx B) {e : Nat} (he : 3 ≤ e + 1) (F : Nat) {v0 : Int32} {lv : List (Nat × Value)} {m : xS} {x : Unit × xS} (l0 : zld lv 0 = some (.int v0)) (l1 : zld lv 1 = some (.ref 1021)) (h : D290_1021 F v0 m = some x) : zR none e 2 none zc290 (0, lv, []) (xW B m) (none, xW B x.2) := by
  unfold D290_1021 at h
  refine q_li (k := 1) (i := 0) (q := (.iload_n 0, 1, 0, 0, .null)) rfl (fun _ => rfl) l0 ?_
  refine q_lr (k := 1) (i := 1) (q := (.aload_n 1, 1, 0, 0, .null)) rfl (fun _ => rfl) l1 ?_
  obtain ⟨q2, h2, h⟩ := xbind h
  refine r_callS (as := [.ref 1021]) (rest := [.int v0]) (rv := some (.int q2.1)) (hp' := xW B q2.2) (pc := 2) rfl xr288 rfl rfl rfl (Nat.le_of_ble_eq_true rfl) (Z288_1021 H X h2 (by omega)) (Nat.le_refl _) ?_
  obtain ⟨q5, h5, h⟩ := xbind h
  refine r_callS (as := [.int v0, .int q2.1]) (rest := []) (rv := none) (hp' := xW B q5.2) (pc := 5) rfl xr285 rfl rfl rfl (Nat.le_of_ble_eq_true rfl) (Z285 H X h5 (by omega)) (Nat.le_refl _) ?_
  obtain rfl := Option.some.inj h
  exact r_ret (q := (.return_, 1, 0, 0, .null)) rfl rfl (fun _ => rfl)
set_option maxRecDepth 20000 in
theorem Z290_1021 {B : zHp} (H : yH0 B) (X : yTx B) {F : Nat} {a0 : Int32} {m : xS} {x : Unit × xS} (h : D290_1021 F a0 m = some x) {d : Nat} (hd : 3 ≤ d) : zCan d 290 [.int a0, .ref 1021] (xW B m) (none, xW B x.2) := by
  obtain ⟨e, rfl⟩ : ∃ e, d = e + 1 := ⟨d - 1, by omega⟩
  refine zCan_body (nL := 2) (rt := none) (cd := zc290) (xg290) ⟨Nat.le_of_ble_eq_true rfl, by decide⟩ (Nat.le_refl _) ?_
  exact T290_1021 H X hd F rfl rfl h
/-- java/lang/StringUTF16.getChar -/
def D287_1021 (F : Nat) (v1 : Int32) (m : xS) : Option (Int32 × xS) :=
  none
set_option maxRecDepth 20000 in
theorem T287_1021 {B : zHp} (H : yH0 B) (X : yTx B) {e : Nat} (he : 1 ≤ e + 1) (F : Nat) {v1 : Int32} {lv : List (Nat × Value)} {m : xS} {x : Int32 × xS} (l0 : zld lv 0 = some (.ref 1021)) (l1 : zld lv 1 = some (.int v1)) (h : D287_1021 F v1 m = some x) : zR none e 2 (some .char) zc287 (0, lv, []) (xW B m) (some (.int x.1), xW B x.2) := by
  unfold D287_1021 at h
  cases h
set_option maxRecDepth 20000 in
theorem Z287_1021 {B : zHp} (H : yH0 B) (X : yTx B) {F : Nat} {a1 : Int32} {m : xS} {x : Int32 × xS} (h : D287_1021 F a1 m = some x) {d : Nat} (hd : 1 ≤ d) : zCan d 287 [.ref 1021, .int a1] (xW B m) (some (.int x.1), xW B x.2) := by
  obtain ⟨e, rfl⟩ : ∃ e, d = e + 1 := ⟨d - 1, by omega⟩
  refine zCan_body (nL := 2) (rt := (some .char)) (cd := zc287) (xg287) ⟨Nat.le_of_ble_eq_true rfl, by decide⟩ (Nat.le_refl _) ?_
  exact T287_1021 H X hd F rfl rfl h
/-- java/lang/StringUTF16.charAt -/
def D289_1021 (F : Nat) (v1 : Int32) (m : xS) : Option (Int32 × xS) :=
  (D290_1021 F v1 m).bind fun q2 =>
    (D287_1021 F v1 q2.2).bind fun q7 =>
      if (vp_nar .char q7.1 == q7.1) = true then
        some (q7.1, q7.2)
      else none
set_option maxRecDepth 20000 in
theorem T289_1021 {B : zHp} (H : yH0 B) (X : yTx B) {e : Nat} (he : 4 ≤ e + 1) (F : Nat) {v1 : Int32} {lv : List (Nat × Value)} {m : xS} {x : Int32 × xS} (l0 : zld lv 0 = some (.ref 1021)) (l1 : zld lv 1 = some (.int v1)) (h : D289_1021 F v1 m = some x) : zR none e 2 (some .char) zc289 (0, lv, []) (xW B m) (some (.int x.1), xW B x.2) := by
  unfold D289_1021 at h
  refine q_li (k := 1) (i := 1) (q := (.iload_n 1, 1, 0, 0, .null)) rfl (fun _ => rfl) l1 ?_
  refine q_lr (k := 1) (i := 0) (q := (.aload_n 0, 1, 0, 0, .null)) rfl (fun _ => rfl) l0 ?_
  obtain ⟨q2, h2, h⟩ := xbind h
  refine r_callS (as := [.int v1, .ref 1021]) (rest := []) (rv := none) (hp' := xW B q2.2) (pc := 2) rfl xr290 rfl rfl rfl (Nat.le_of_ble_eq_true rfl) (Z290_1021 H X h2 (by omega)) (Nat.le_refl _) ?_
  refine q_lr (k := 1) (i := 0) (q := (.aload_n 0, 1, 0, 0, .null)) rfl (fun _ => rfl) l0 ?_
  refine q_li (k := 1) (i := 1) (q := (.iload_n 1, 1, 0, 0, .null)) rfl (fun _ => rfl) l1 ?_
  obtain ⟨q7, h7, h⟩ := xbind h
  refine r_callS (as := [.ref 1021, .int v1]) (rest := []) (rv := some (.int q7.1)) (hp' := xW B q7.2) (pc := 7) rfl xr287 rfl rfl rfl (Nat.le_of_ble_eq_true rfl) (Z287_1021 H X h7 (by omega)) (Nat.le_refl _) ?_
  obtain ⟨c1, h⟩ := xif h
  obtain rfl := Option.some.inj h
  exact q_ri (q := (.ireturn, 1, 0, 0, .null)) rfl (fun _ => rfl) rfl (xnar_ok rfl c1)
set_option maxRecDepth 20000 in
theorem Z289_1021 {B : zHp} (H : yH0 B) (X : yTx B) {F : Nat} {a1 : Int32} {m : xS} {x : Int32 × xS} (h : D289_1021 F a1 m = some x) {d : Nat} (hd : 4 ≤ d) : zCan d 289 [.ref 1021, .int a1] (xW B m) (some (.int x.1), xW B x.2) := by
  obtain ⟨e, rfl⟩ : ∃ e, d = e + 1 := ⟨d - 1, by omega⟩
  refine zCan_body (nL := 2) (rt := (some .char)) (cd := zc289) (xg289) ⟨Nat.le_of_ble_eq_true rfl, by decide⟩ (Nat.le_refl _) ?_
  exact T289_1021 H X hd F rfl rfl h
/-- java/lang/String.charAt -/
def D282_1002 (F : Nat) (v1 : Int32) (m : xS) : Option (Int32 × xS) :=
  (D284_1002 F m).bind fun q1 =>
    if zcmp .eq q1.1 0 = true then
      (D289_1021 F v1 q1.2).bind fun q21 =>
        if (vp_nar .char q21.1 == q21.1) = true then
          some (q21.1, q21.2)
        else none
    else
      (D286_1021 F v1 q1.2).bind fun q12 =>
        if (vp_nar .char q12.1 == q12.1) = true then
          some (q12.1, q12.2)
        else none
set_option maxRecDepth 20000 in
theorem T282_1002 {B : zHp} (H : yH0 B) (X : yTx B) {e : Nat} (he : 5 ≤ e + 1) (F : Nat) {v1 : Int32} {lv : List (Nat × Value)} {m : xS} {x : Int32 × xS} (l0 : zld lv 0 = some (.ref 1002)) (l1 : zld lv 1 = some (.int v1)) (h : D282_1002 F v1 m = some x) : zR none e 2 (some .char) zc282 (0, lv, []) (xW B m) (some (.int x.1), xW B x.2) := by
  unfold D282_1002 at h
  refine q_lr (k := 1) (i := 0) (q := (.aload_n 0, 1, 0, 0, .null)) rfl (fun _ => rfl) l0 ?_
  obtain ⟨q1, h1, h⟩ := xbind h
  refine r_call (ix := 1002) (as := []) (rest := []) (rv := some (.int q1.1)) (hp' := xW B q1.2) (pc := 1) rfl xr284 rfl rfl rfl rfl (Nat.le_of_ble_eq_true rfl) (Z284_1002 H X h1 (by omega)) (Nat.le_refl _) ?_
  refine r_if (len := 3) (a := 16) (b := 0) (v0 := .null) (cn := .eq) (off := 12) rfl (fun c => ?_) (fun c => ?_)
  · rw [if_pos c] at h
    refine q_lr (k := 1) (i := 0) (q := (.aload_n 0, 1, 0, 0, .null)) rfl (fun _ => rfl) l0 ?_
    refine r_s (fr' := (20, lv, [.ref 1021])) (hp' := xW B q1.2) (q := (.getfield 9, 3, 100, 0, .null)) rfl (fun _ => rfl) (Nat.le_refl _) ?_
    refine q_li (k := 1) (i := 1) (q := (.iload_n 1, 1, 0, 0, .null)) rfl (fun _ => rfl) l1 ?_
    obtain ⟨q21, h21, h⟩ := xbind h
    refine r_callS (as := [.ref 1021, .int v1]) (rest := []) (rv := some (.int q21.1)) (hp' := xW B q21.2) (pc := 21) rfl xr289 rfl rfl rfl (Nat.le_of_ble_eq_true rfl) (Z289_1021 H X h21 (by omega)) (Nat.le_refl _) ?_
    obtain ⟨c1, h⟩ := xif h
    obtain rfl := Option.some.inj h
    exact q_ri (q := (.ireturn, 1, 0, 0, .null)) rfl (fun _ => rfl) rfl (xnar_ok rfl c1)
  · rw [if_neg (by rw [c]; decide)] at h
    refine q_lr (k := 1) (i := 0) (q := (.aload_n 0, 1, 0, 0, .null)) rfl (fun _ => rfl) l0 ?_
    refine r_s (fr' := (11, lv, [.ref 1021])) (hp' := xW B q1.2) (q := (.getfield 9, 3, 100, 0, .null)) rfl (fun _ => rfl) (Nat.le_refl _) ?_
    refine q_li (k := 1) (i := 1) (q := (.iload_n 1, 1, 0, 0, .null)) rfl (fun _ => rfl) l1 ?_
    obtain ⟨q12, h12, h⟩ := xbind h
    refine r_callS (as := [.ref 1021, .int v1]) (rest := []) (rv := some (.int q12.1)) (hp' := xW B q12.2) (pc := 12) rfl xr286 rfl rfl rfl (Nat.le_of_ble_eq_true rfl) (Z286_1021 H X h12 (by omega)) (Nat.le_refl _) ?_
    obtain ⟨c2, h⟩ := xif h
    obtain rfl := Option.some.inj h
    exact q_ri (q := (.ireturn, 1, 0, 0, .null)) rfl (fun _ => rfl) rfl (xnar_ok rfl c2)
set_option maxRecDepth 20000 in
theorem Z282_1002 {B : zHp} (H : yH0 B) (X : yTx B) {F : Nat} {a1 : Int32} {m : xS} {x : Int32 × xS} (h : D282_1002 F a1 m = some x) {d : Nat} (hd : 5 ≤ d) : zCan d 282 [.ref 1002, .int a1] (xW B m) (some (.int x.1), xW B x.2) := by
  obtain ⟨e, rfl⟩ : ∃ e, d = e + 1 := ⟨d - 1, by omega⟩
  refine zCan_body (nL := 2) (rt := (some .char)) (cd := zc282) (xg282) ⟨Nat.le_of_ble_eq_true rfl, by decide⟩ (Nat.le_refl _) ?_
  exact T282_1002 H X hd F rfl rfl h
/-- LentTools$Text.passWord -/
def D59_2_1002_138 (F : Nat) (g55 : Int32 → Int32 → Int32 → Int32 → xS → Option (Int32 × xS)) (v2 : Int32) (v3 : Int32) (v4 : Int32) (v5 : Int32) (m : xS) : Option (Int32 × xS) :=
  g55 v2 v3 v4 (v5 + Int32.ofInt 1) m
set_option maxRecDepth 20000 in
theorem T59_2_1002_138 {B : zHp} (H : yH0 B) (X : yTx B) {e : Nat} (he : 6 ≤ e + 1) (F : Nat) (g55 : Int32 → Int32 → Int32 → Int32 → xS → Option (Int32 × xS)) (k55 : ∀ {v2 : Int32} {v3 : Int32} {v4 : Int32} {v5 : Int32} {lv : List (Nat × Value)} {m : xS} {x : Int32 × xS}, zld lv 0 = some (.ref 2) → zld lv 1 = some (.ref 1002) → zld lv 2 = some (.int v2) → zld lv 3 = some (.int v3) → zld lv 4 = some (.int v4) → zld lv 5 = some (.int v5) → g55 v2 v3 v4 v5 m = some x → zR none e 6 (some .int) zc59 (55, lv, []) (xW B m) (some (.int x.1), xW B x.2)) {v2 : Int32} {v3 : Int32} {v4 : Int32} {v5 : Int32} {lv : List (Nat × Value)} {m : xS} {x : Int32 × xS} (l0 : zld lv 0 = some (.ref 2)) (l1 : zld lv 1 = some (.ref 1002)) (l2 : zld lv 2 = some (.int v2)) (l3 : zld lv 3 = some (.int v3)) (l4 : zld lv 4 = some (.int v4)) (l5 : zld lv 5 = some (.int v5)) (h : D59_2_1002_138 F g55 v2 v3 v4 v5 m = some x) : zR none e 6 (some .int) zc59 (138, lv, []) (xW B m) (some (.int x.1), xW B x.2) := by
  unfold D59_2_1002_138 at h
  refine q_inc (i := 5) (n := 1) (q := (.iinc 5 1, 3, 0, 0, .null)) rfl (fun _ => rfl) l5 (by decide) ?_
  have l0_1 : zld (zs1 lv 5 (.int (v5 + Int32.ofInt 1))) 0 = some (.ref 2) := x_o1 l0 rfl rfl
  have l1_1 : zld (zs1 lv 5 (.int (v5 + Int32.ofInt 1))) 1 = some (.ref 1002) := x_o1 l1 rfl rfl
  have l2_1 : zld (zs1 lv 5 (.int (v5 + Int32.ofInt 1))) 2 = some (.int v2) := x_o1 l2 rfl rfl
  have l3_1 : zld (zs1 lv 5 (.int (v5 + Int32.ofInt 1))) 3 = some (.int v3) := x_o1 l3 rfl rfl
  have l4_1 : zld (zs1 lv 5 (.int (v5 + Int32.ofInt 1))) 4 = some (.int v4) := x_o1 l4 rfl rfl
  have l5_1 : zld (zs1 lv 5 (.int (v5 + Int32.ofInt 1))) 5 = some (.int (v5 + Int32.ofInt 1)) := zs1_ld _ _ _
  generalize (zs1 lv 5 (.int (v5 + Int32.ofInt 1))) = lv1 at *
  refine r_s (fr' := (55, lv1, [])) (hp' := xW B m) (q := (.goto (-86), 3, 55, 0, .null)) rfl (fun _ => rfl) (Nat.le_refl _) ?_
  exact k55 l0_1 l1_1 l2_1 l3_1 l4_1 l5_1 h
def D59_2_1002_111 (F : Nat) (g55 : Int32 → Int32 → Int32 → Int32 → xS → Option (Int32 × xS)) (v2 : Int32) (v3 : Int32) (v4 : Int32) (v5 : Int32) (w0 : Int32) (m : xS) : Option (Int32 × xS) :=
  D59_2_1002_138 F g55 v2 v3 w0 v5 m
set_option maxRecDepth 20000 in
theorem T59_2_1002_111 {B : zHp} (H : yH0 B) (X : yTx B) {e : Nat} (he : 6 ≤ e + 1) (F : Nat) (g55 : Int32 → Int32 → Int32 → Int32 → xS → Option (Int32 × xS)) (k55 : ∀ {v2 : Int32} {v3 : Int32} {v4 : Int32} {v5 : Int32} {lv : List (Nat × Value)} {m : xS} {x : Int32 × xS}, zld lv 0 = some (.ref 2) → zld lv 1 = some (.ref 1002) → zld lv 2 = some (.int v2) → zld lv 3 = some (.int v3) → zld lv 4 = some (.int v4) → zld lv 5 = some (.int v5) → g55 v2 v3 v4 v5 m = some x → zR none e 6 (some .int) zc59 (55, lv, []) (xW B m) (some (.int x.1), xW B x.2)) {v2 : Int32} {v3 : Int32} {v4 : Int32} {v5 : Int32} {w0 : Int32} {lv : List (Nat × Value)} {m : xS} {x : Int32 × xS} (l0 : zld lv 0 = some (.ref 2)) (l1 : zld lv 1 = some (.ref 1002)) (l2 : zld lv 2 = some (.int v2)) (l3 : zld lv 3 = some (.int v3)) (l4 : zld lv 4 = some (.int v4)) (l5 : zld lv 5 = some (.int v5)) (h : D59_2_1002_111 F g55 v2 v3 v4 v5 w0 m = some x) : zR none e 6 (some .int) zc59 (111, lv, [.int w0]) (xW B m) (some (.int x.1), xW B x.2) := by
  unfold D59_2_1002_111 at h
  refine q_si (k := 2) (i := 4) (q := (.istore 4, 2, 0, 0, .null)) rfl (fun _ => rfl) (by decide) ?_
  have l0_1 : zld (zs1 lv 4 (.int w0)) 0 = some (.ref 2) := x_o1 l0 rfl rfl
  have l1_1 : zld (zs1 lv 4 (.int w0)) 1 = some (.ref 1002) := x_o1 l1 rfl rfl
  have l2_1 : zld (zs1 lv 4 (.int w0)) 2 = some (.int v2) := x_o1 l2 rfl rfl
  have l3_1 : zld (zs1 lv 4 (.int w0)) 3 = some (.int v3) := x_o1 l3 rfl rfl
  have l4_1 : zld (zs1 lv 4 (.int w0)) 4 = some (.int w0) := zs1_ld _ _ _
  have l5_1 : zld (zs1 lv 4 (.int w0)) 5 = some (.int v5) := x_o1 l5 rfl rfl
  generalize (zs1 lv 4 (.int w0)) = lv1 at *
  refine r_s (fr' := (138, lv1, [])) (hp' := xW B m) (q := (.goto 25, 3, 138, 0, .null)) rfl (fun _ => rfl) (Nat.le_refl _) ?_
  exact T59_2_1002_138 H X he F _ k55 l0_1 l1_1 l2_1 l3_1 l4_1 l5_1 h
def D59_2_1002_110 (F : Nat) (g55 : Int32 → Int32 → Int32 → Int32 → xS → Option (Int32 × xS)) (v2 : Int32) (v3 : Int32) (v4 : Int32) (v5 : Int32) (m : xS) : Option (Int32 × xS) :=
  D59_2_1002_111 F g55 v2 v3 v4 v5 (-1) m
set_option maxRecDepth 20000 in
theorem T59_2_1002_110 {B : zHp} (H : yH0 B) (X : yTx B) {e : Nat} (he : 6 ≤ e + 1) (F : Nat) (g55 : Int32 → Int32 → Int32 → Int32 → xS → Option (Int32 × xS)) (k55 : ∀ {v2 : Int32} {v3 : Int32} {v4 : Int32} {v5 : Int32} {lv : List (Nat × Value)} {m : xS} {x : Int32 × xS}, zld lv 0 = some (.ref 2) → zld lv 1 = some (.ref 1002) → zld lv 2 = some (.int v2) → zld lv 3 = some (.int v3) → zld lv 4 = some (.int v4) → zld lv 5 = some (.int v5) → g55 v2 v3 v4 v5 m = some x → zR none e 6 (some .int) zc59 (55, lv, []) (xW B m) (some (.int x.1), xW B x.2)) {v2 : Int32} {v3 : Int32} {v4 : Int32} {v5 : Int32} {lv : List (Nat × Value)} {m : xS} {x : Int32 × xS} (l0 : zld lv 0 = some (.ref 2)) (l1 : zld lv 1 = some (.ref 1002)) (l2 : zld lv 2 = some (.int v2)) (l3 : zld lv 3 = some (.int v3)) (l4 : zld lv 4 = some (.int v4)) (l5 : zld lv 5 = some (.int v5)) (h : D59_2_1002_110 F g55 v2 v3 v4 v5 m = some x) : zR none e 6 (some .int) zc59 (110, lv, []) (xW B m) (some (.int x.1), xW B x.2) := by
  unfold D59_2_1002_110 at h
  refine r_s (fr' := (111, lv, [.int (-1)])) (hp' := xW B m) (q := (.iconst (-1), 1, 0, 0, .null)) rfl (fun _ => rfl) (Nat.le_refl _) ?_
  exact T59_2_1002_111 H X he F _ k55 l0 l1 l2 l3 l4 l5 h
def D59_2_1002_55 (F : Nat) : Nat → Int32 → Int32 → Int32 → Int32 → xS → Option (Int32 × xS)
  | 0, _, _, _, _, _ => none
  | f + 1, v2, v3, v4, v5, m =>
    (D281_1002 F m).bind fun q58 =>
      if zcmp .ge v5 q58.1 = true then
        some ((-1), q58.2)
      else
        (D282_1002 F v5 q58.2).bind fun q67 =>
          if zcmp .eq q67.1 32 = true then
            if zcmp .ne v4 v2 = true then
              D59_2_1002_138 F (D59_2_1002_55 F f) v2 (v3 + Int32.ofInt 1) (q67.2.1 2 3) v5 q67.2
            else
              some (v3, (xu q67.2 2 2 v2))
          else
            if zcmp .eq v4 (-1) = true then
              D59_2_1002_110 F (D59_2_1002_55 F f) v2 v3 v4 v5 q67.2
            else
              if zcmp .ge v4 v2 = true then
                D59_2_1002_110 F (D59_2_1002_55 F f) v2 v3 v4 v5 q67.2
              else
                if xib v4 400 = true then
                  (D282_1002 F v5 q67.2).bind fun q97 =>
                    if zcmp .ne (q67.2.1 1 (v4 : Int32).toNatClampNeg) q97.1 = true then
                      D59_2_1002_110 F (D59_2_1002_55 F f) v2 v3 v4 v5 q97.2
                    else
                      D59_2_1002_111 F (D59_2_1002_55 F f) v2 v3 v4 v5 (v4 + 1) q97.2
                else none
set_option maxRecDepth 20000 in
theorem T59_2_1002_55 {B : zHp} (H : yH0 B) (X : yTx B) {e : Nat} (he : 6 ≤ e + 1) (F : Nat) : ∀ (f : Nat) {v2 : Int32} {v3 : Int32} {v4 : Int32} {v5 : Int32} {lv : List (Nat × Value)} {m : xS} {x : Int32 × xS}, zld lv 0 = some (.ref 2) → zld lv 1 = some (.ref 1002) → zld lv 2 = some (.int v2) → zld lv 3 = some (.int v3) → zld lv 4 = some (.int v4) → zld lv 5 = some (.int v5) → D59_2_1002_55 F f v2 v3 v4 v5 m = some x → zR none e 6 (some .int) zc59 (55, lv, []) (xW B m) (some (.int x.1), xW B x.2) := by
  intro f
  induction f with
  | zero => intro v2 v3 v4 v5 lv m x l0 l1 l2 l3 l4 l5 h; cases h
  | succ f ih =>
    intro v2 v3 v4 v5 lv m x l0 l1 l2 l3 l4 l5 h
    unfold D59_2_1002_55 at h
    refine q_li (k := 2) (i := 5) (q := (.iload 5, 2, 0, 0, .null)) rfl (fun _ => rfl) l5 ?_
    refine q_lr (k := 1) (i := 1) (q := (.aload_n 1, 1, 0, 0, .null)) rfl (fun _ => rfl) l1 ?_
    obtain ⟨q58, h58, h⟩ := xbind h
    refine r_call (ix := 1002) (as := []) (rest := [.int v5]) (rv := some (.int q58.1)) (hp' := xW B q58.2) (pc := 58) rfl xr281 rfl rfl rfl rfl (Nat.le_of_ble_eq_true rfl) (Z281_1002 H X h58 (by omega)) (Nat.le_refl _) ?_
    refine r_ifc (len := 3) (a := 144) (b := 0) (v0 := .null) (cn := .ge) (off := 83) rfl (fun c => ?_) (fun c => ?_)
    · rw [if_pos c] at h
      refine r_s (fr' := (145, lv, [.int (-1)])) (hp' := xW B q58.2) (q := (.iconst (-1), 1, 0, 0, .null)) rfl (fun _ => rfl) (Nat.le_refl _) ?_
      obtain rfl := Option.some.inj h
      exact q_ri (q := (.ireturn, 1, 0, 0, .null)) rfl (fun _ => rfl) rfl rfl
    · rw [if_neg (by rw [c]; decide)] at h
      refine q_lr (k := 1) (i := 1) (q := (.aload_n 1, 1, 0, 0, .null)) rfl (fun _ => rfl) l1 ?_
      refine q_li (k := 2) (i := 5) (q := (.iload 5, 2, 0, 0, .null)) rfl (fun _ => rfl) l5 ?_
      obtain ⟨q67, h67, h⟩ := xbind h
      refine r_call (ix := 1002) (as := [.int v5]) (rest := []) (rv := some (.int q67.1)) (hp' := xW B q67.2) (pc := 67) rfl xr282 rfl rfl rfl rfl (Nat.le_of_ble_eq_true rfl) (Z282_1002 H X h67 (by omega)) (Nat.le_refl _) ?_
      refine r_s (fr' := (72, lv, [.int 32, .int q67.1])) (hp' := xW B q67.2) (q := (.bipush 32, 2, 0, 0, .null)) rfl (fun _ => rfl) (Nat.le_refl _) ?_
      refine r_ifc (len := 3) (a := 116) (b := 0) (v0 := .null) (cn := .eq) (off := 44) rfl (fun c => ?_) (fun c => ?_)
      · rw [if_pos c] at h
        refine q_li (k := 2) (i := 4) (q := (.iload 4, 2, 0, 0, .null)) rfl (fun _ => rfl) l4 ?_
        refine q_li (k := 1) (i := 2) (q := (.iload_n 2, 1, 0, 0, .null)) rfl (fun _ => rfl) l2 ?_
        refine r_ifc (len := 3) (a := 129) (b := 0) (v0 := .null) (cn := .ne) (off := 10) rfl (fun c => ?_) (fun c => ?_)
        · rw [if_pos c] at h
          refine q_inc (i := 3) (n := 1) (q := (.iinc 3 1, 3, 0, 0, .null)) rfl (fun _ => rfl) l3 (by decide) ?_
          have l0_1 : zld (zs1 lv 3 (.int (v3 + Int32.ofInt 1))) 0 = some (.ref 2) := x_o1 l0 rfl rfl
          have l1_1 : zld (zs1 lv 3 (.int (v3 + Int32.ofInt 1))) 1 = some (.ref 1002) := x_o1 l1 rfl rfl
          have l2_1 : zld (zs1 lv 3 (.int (v3 + Int32.ofInt 1))) 2 = some (.int v2) := x_o1 l2 rfl rfl
          have l3_1 : zld (zs1 lv 3 (.int (v3 + Int32.ofInt 1))) 3 = some (.int (v3 + Int32.ofInt 1)) := zs1_ld _ _ _
          have l4_1 : zld (zs1 lv 3 (.int (v3 + Int32.ofInt 1))) 4 = some (.int v4) := x_o1 l4 rfl rfl
          have l5_1 : zld (zs1 lv 3 (.int (v3 + Int32.ofInt 1))) 5 = some (.int v5) := x_o1 l5 rfl rfl
          generalize (zs1 lv 3 (.int (v3 + Int32.ofInt 1))) = lv1 at *
          refine q_lr (k := 1) (i := 0) (q := (.aload_n 0, 1, 0, 0, .null)) rfl (fun _ => rfl) l0_1 ?_
          refine r_gi (v := (q67.2.1 2 3)) H (pc := 133) (i := _) rfl (by decide) (by decide) rfl ?_
          refine q_si (k := 2) (i := 4) (q := (.istore 4, 2, 0, 0, .null)) rfl (fun _ => rfl) (by decide) ?_
          have l0_2 : zld (zs1 lv1 4 (.int (q67.2.1 2 3))) 0 = some (.ref 2) := x_o1 l0_1 rfl rfl
          have l1_2 : zld (zs1 lv1 4 (.int (q67.2.1 2 3))) 1 = some (.ref 1002) := x_o1 l1_1 rfl rfl
          have l2_2 : zld (zs1 lv1 4 (.int (q67.2.1 2 3))) 2 = some (.int v2) := x_o1 l2_1 rfl rfl
          have l3_2 : zld (zs1 lv1 4 (.int (q67.2.1 2 3))) 3 = some (.int (v3 + Int32.ofInt 1)) := x_o1 l3_1 rfl rfl
          have l4_2 : zld (zs1 lv1 4 (.int (q67.2.1 2 3))) 4 = some (.int (q67.2.1 2 3)) := zs1_ld _ _ _
          have l5_2 : zld (zs1 lv1 4 (.int (q67.2.1 2 3))) 5 = some (.int v5) := x_o1 l5_1 rfl rfl
          generalize (zs1 lv1 4 (.int (q67.2.1 2 3))) = lv2 at *
          exact T59_2_1002_138 H X he F _ ih l0_2 l1_2 l2_2 l3_2 l4_2 l5_2 h
        · rw [if_neg (by rw [c]; decide)] at h
          refine q_lr (k := 1) (i := 0) (q := (.aload_n 0, 1, 0, 0, .null)) rfl (fun _ => rfl) l0 ?_
          refine q_li (k := 1) (i := 2) (q := (.iload_n 2, 1, 0, 0, .null)) rfl (fun _ => rfl) l2 ?_
          refine r_pi (s2 := (xu q67.2 2 2 v2)) H (pc := 124) rfl (by decide) rfl rfl ?_
          refine q_li (k := 1) (i := 3) (q := (.iload_n 3, 1, 0, 0, .null)) rfl (fun _ => rfl) l3 ?_
          obtain rfl := Option.some.inj h
          exact q_ri (q := (.ireturn, 1, 0, 0, .null)) rfl (fun _ => rfl) rfl rfl
      · rw [if_neg (by rw [c]; decide)] at h
        refine q_li (k := 2) (i := 4) (q := (.iload 4, 2, 0, 0, .null)) rfl (fun _ => rfl) l4 ?_
        refine r_s (fr' := (78, lv, [.int (-1), .int v4])) (hp' := xW B q67.2) (q := (.iconst (-1), 1, 0, 0, .null)) rfl (fun _ => rfl) (Nat.le_refl _) ?_
        refine r_ifc (len := 3) (a := 110) (b := 0) (v0 := .null) (cn := .eq) (off := 32) rfl (fun c => ?_) (fun c => ?_)
        · rw [if_pos c] at h
          exact T59_2_1002_110 H X he F _ ih l0 l1 l2 l3 l4 l5 h
        · rw [if_neg (by rw [c]; decide)] at h
          refine q_li (k := 2) (i := 4) (q := (.iload 4, 2, 0, 0, .null)) rfl (fun _ => rfl) l4 ?_
          refine q_li (k := 1) (i := 2) (q := (.iload_n 2, 1, 0, 0, .null)) rfl (fun _ => rfl) l2 ?_
          refine r_ifc (len := 3) (a := 110) (b := 0) (v0 := .null) (cn := .ge) (off := 26) rfl (fun c => ?_) (fun c => ?_)
          · rw [if_pos c] at h
            exact T59_2_1002_110 H X he F _ ih l0 l1 l2 l3 l4 l5 h
          · rw [if_neg (by rw [c]; decide)] at h
            refine q_lr (k := 1) (i := 0) (q := (.aload_n 0, 1, 0, 0, .null)) rfl (fun _ => rfl) l0 ?_
            refine r_grx H X (pc := 88) rfl ?_
            refine q_li (k := 2) (i := 4) (q := (.iload 4, 2, 0, 0, .null)) rfl (fun _ => rfl) l4 ?_
            obtain ⟨c3, h⟩ := xif h
            refine q_al (n := 400) (v := (q67.2.1 1 (v4 : Int32).toNatClampNeg)) H (pc := 93) rfl (by decide) c3 rfl ?_
            refine q_lr (k := 1) (i := 1) (q := (.aload_n 1, 1, 0, 0, .null)) rfl (fun _ => rfl) l1 ?_
            refine q_li (k := 2) (i := 5) (q := (.iload 5, 2, 0, 0, .null)) rfl (fun _ => rfl) l5 ?_
            obtain ⟨q97, h97, h⟩ := xbind h
            refine r_call (ix := 1002) (as := [.int v5]) (rest := [.int (q67.2.1 1 (v4 : Int32).toNatClampNeg)]) (rv := some (.int q97.1)) (hp' := xW B q97.2) (pc := 97) rfl xr282 rfl rfl rfl rfl (Nat.le_of_ble_eq_true rfl) (Z282_1002 H X h97 (by omega)) (Nat.le_refl _) ?_
            refine r_ifc (len := 3) (a := 110) (b := 0) (v0 := .null) (cn := .ne) (off := 10) rfl (fun c => ?_) (fun c => ?_)
            · rw [if_pos c] at h
              exact T59_2_1002_110 H X he F _ ih l0 l1 l2 l3 l4 l5 h
            · rw [if_neg (by rw [c]; decide)] at h
              refine q_li (k := 2) (i := 4) (q := (.iload 4, 2, 0, 0, .null)) rfl (fun _ => rfl) l4 ?_
              refine r_s (fr' := (106, lv, [.int 1, .int v4])) (hp' := xW B q97.2) (q := (.iconst 1, 1, 0, 0, .null)) rfl (fun _ => rfl) (Nat.le_refl _) ?_
              refine r_s (fr' := (107, lv, [.int (v4 + 1)])) (hp' := xW B q97.2) (q := (.iadd, 1, 0, 0, .null)) rfl (fun _ => rfl) (Nat.le_refl _) ?_
              refine r_s (fr' := (111, lv, [.int (v4 + 1)])) (hp' := xW B q97.2) (q := (.goto 4, 3, 111, 0, .null)) rfl (fun _ => rfl) (Nat.le_refl _) ?_
              exact T59_2_1002_111 H X he F _ ih l0 l1 l2 l3 l4 l5 h
def D59_2_1002_44 (F : Nat) (v2 : Int32) (m : xS) : Option (Int32 × xS) :=
  D59_2_1002_55 F F v2 0 (m.1 2 3) 0 m
set_option maxRecDepth 20000 in
theorem T59_2_1002_44 {B : zHp} (H : yH0 B) (X : yTx B) {e : Nat} (he : 6 ≤ e + 1) (F : Nat) {v2 : Int32} {lv : List (Nat × Value)} {m : xS} {x : Int32 × xS} (l0 : zld lv 0 = some (.ref 2)) (l1 : zld lv 1 = some (.ref 1002)) (l2 : zld lv 2 = some (.int v2)) (h : D59_2_1002_44 F v2 m = some x) : zR none e 6 (some .int) zc59 (44, lv, []) (xW B m) (some (.int x.1), xW B x.2) := by
  unfold D59_2_1002_44 at h
  refine r_s (fr' := (45, lv, [.int 0])) (hp' := xW B m) (q := (.iconst 0, 1, 0, 0, .null)) rfl (fun _ => rfl) (Nat.le_refl _) ?_
  refine q_si (k := 1) (i := 3) (q := (.istore_n 3, 1, 0, 0, .null)) rfl (fun _ => rfl) (by decide) ?_
  have l0_1 : zld (zs1 lv 3 (.int 0)) 0 = some (.ref 2) := x_o1 l0 rfl rfl
  have l1_1 : zld (zs1 lv 3 (.int 0)) 1 = some (.ref 1002) := x_o1 l1 rfl rfl
  have l2_1 : zld (zs1 lv 3 (.int 0)) 2 = some (.int v2) := x_o1 l2 rfl rfl
  have l3_1 : zld (zs1 lv 3 (.int 0)) 3 = some (.int 0) := zs1_ld _ _ _
  generalize (zs1 lv 3 (.int 0)) = lv1 at *
  refine q_lr (k := 1) (i := 0) (q := (.aload_n 0, 1, 0, 0, .null)) rfl (fun _ => rfl) l0_1 ?_
  refine r_gi (v := (m.1 2 3)) H (pc := 47) (i := _) rfl (by decide) (by decide) rfl ?_
  refine q_si (k := 2) (i := 4) (q := (.istore 4, 2, 0, 0, .null)) rfl (fun _ => rfl) (by decide) ?_
  have l0_2 : zld (zs1 lv1 4 (.int (m.1 2 3))) 0 = some (.ref 2) := x_o1 l0_1 rfl rfl
  have l1_2 : zld (zs1 lv1 4 (.int (m.1 2 3))) 1 = some (.ref 1002) := x_o1 l1_1 rfl rfl
  have l2_2 : zld (zs1 lv1 4 (.int (m.1 2 3))) 2 = some (.int v2) := x_o1 l2_1 rfl rfl
  have l3_2 : zld (zs1 lv1 4 (.int (m.1 2 3))) 3 = some (.int 0) := x_o1 l3_1 rfl rfl
  have l4_2 : zld (zs1 lv1 4 (.int (m.1 2 3))) 4 = some (.int (m.1 2 3)) := zs1_ld _ _ _
  generalize (zs1 lv1 4 (.int (m.1 2 3))) = lv2 at *
  refine r_s (fr' := (53, lv2, [.int 0])) (hp' := xW B m) (q := (.iconst 0, 1, 0, 0, .null)) rfl (fun _ => rfl) (Nat.le_refl _) ?_
  refine q_si (k := 2) (i := 5) (q := (.istore 5, 2, 0, 0, .null)) rfl (fun _ => rfl) (by decide) ?_
  have l0_3 : zld (zs1 lv2 5 (.int 0)) 0 = some (.ref 2) := x_o1 l0_2 rfl rfl
  have l1_3 : zld (zs1 lv2 5 (.int 0)) 1 = some (.ref 1002) := x_o1 l1_2 rfl rfl
  have l2_3 : zld (zs1 lv2 5 (.int 0)) 2 = some (.int v2) := x_o1 l2_2 rfl rfl
  have l3_3 : zld (zs1 lv2 5 (.int 0)) 3 = some (.int 0) := x_o1 l3_2 rfl rfl
  have l4_3 : zld (zs1 lv2 5 (.int 0)) 4 = some (.int (m.1 2 3)) := x_o1 l4_2 rfl rfl
  have l5_3 : zld (zs1 lv2 5 (.int 0)) 5 = some (.int 0) := zs1_ld _ _ _
  generalize (zs1 lv2 5 (.int 0)) = lv3 at *
  exact T59_2_1002_55 H X he F F l0_3 l1_3 l2_3 l3_3 l4_3 l5_3 h
def D59_2_1002_18 (F : Nat) : Nat → Int32 → xS → Option (Int32 × xS)
  | 0, _, _ => none
  | f + 1, v2, m =>
    if zcmp .ge v2 (m.1 2 1) = true then
      D59_2_1002_44 F v2 m
    else
      if xib v2 400 = true then
        (D57 F (m.1 1 (v2 : Int32).toNatClampNeg) m).bind fun q32 =>
          if zcmp .eq q32.1 0 = true then
            D59_2_1002_44 F v2 q32.2
          else
            D59_2_1002_18 F f (v2 + Int32.ofInt 1) q32.2
      else none
set_option maxRecDepth 20000 in
theorem T59_2_1002_18 {B : zHp} (H : yH0 B) (X : yTx B) {e : Nat} (he : 6 ≤ e + 1) (F : Nat) : ∀ (f : Nat) {v2 : Int32} {lv : List (Nat × Value)} {m : xS} {x : Int32 × xS}, zld lv 0 = some (.ref 2) → zld lv 1 = some (.ref 1002) → zld lv 2 = some (.int v2) → D59_2_1002_18 F f v2 m = some x → zR none e 6 (some .int) zc59 (18, lv, []) (xW B m) (some (.int x.1), xW B x.2) := by
  intro f
  induction f with
  | zero => intro v2 lv m x l0 l1 l2 h; cases h
  | succ f ih =>
    intro v2 lv m x l0 l1 l2 h
    unfold D59_2_1002_18 at h
    refine q_li (k := 1) (i := 2) (q := (.iload_n 2, 1, 0, 0, .null)) rfl (fun _ => rfl) l2 ?_
    refine q_lr (k := 1) (i := 0) (q := (.aload_n 0, 1, 0, 0, .null)) rfl (fun _ => rfl) l0 ?_
    refine r_gi (v := (m.1 2 1)) H (pc := 20) (i := _) rfl (by decide) (by decide) rfl ?_
    refine r_ifc (len := 3) (a := 44) (b := 0) (v0 := .null) (cn := .ge) (off := 21) rfl (fun c => ?_) (fun c => ?_)
    · rw [if_pos c] at h
      exact T59_2_1002_44 H X he F l0 l1 l2 h
    · rw [if_neg (by rw [c]; decide)] at h
      refine q_lr (k := 1) (i := 0) (q := (.aload_n 0, 1, 0, 0, .null)) rfl (fun _ => rfl) l0 ?_
      refine r_grx H X (pc := 27) rfl ?_
      refine q_li (k := 1) (i := 2) (q := (.iload_n 2, 1, 0, 0, .null)) rfl (fun _ => rfl) l2 ?_
      obtain ⟨c1, h⟩ := xif h
      refine q_al (n := 400) (v := (m.1 1 (v2 : Int32).toNatClampNeg)) H (pc := 31) rfl (by decide) c1 rfl ?_
      obtain ⟨q32, h32, h⟩ := xbind h
      refine r_callS (as := [.int (m.1 1 (v2 : Int32).toNatClampNeg)]) (rest := []) (rv := some (.int q32.1)) (hp' := xW B q32.2) (pc := 32) rfl xr57 rfl rfl rfl (Nat.le_of_ble_eq_true rfl) (Z57 H X h32 (by omega)) (Nat.le_refl _) ?_
      refine r_if (len := 3) (a := 44) (b := 0) (v0 := .null) (cn := .eq) (off := 9) rfl (fun c => ?_) (fun c => ?_)
      · rw [if_pos c] at h
        exact T59_2_1002_44 H X he F l0 l1 l2 h
      · rw [if_neg (by rw [c]; decide)] at h
        refine q_inc (i := 2) (n := 1) (q := (.iinc 2 1, 3, 0, 0, .null)) rfl (fun _ => rfl) l2 (by decide) ?_
        have l0_2 : zld (zs1 lv 2 (.int (v2 + Int32.ofInt 1))) 0 = some (.ref 2) := x_o1 l0 rfl rfl
        have l1_2 : zld (zs1 lv 2 (.int (v2 + Int32.ofInt 1))) 1 = some (.ref 1002) := x_o1 l1 rfl rfl
        have l2_2 : zld (zs1 lv 2 (.int (v2 + Int32.ofInt 1))) 2 = some (.int (v2 + Int32.ofInt 1)) := zs1_ld _ _ _
        generalize (zs1 lv 2 (.int (v2 + Int32.ofInt 1))) = lv2 at *
        refine r_s (fr' := (18, lv2, [])) (hp' := xW B q32.2) (q := (.goto (-23), 3, 18, 0, .null)) rfl (fun _ => rfl) (Nat.le_refl _) ?_
        exact ih l0_2 l1_2 l2_2 h
def D59_2_1002 (F : Nat) (m : xS) : Option (Int32 × xS) :=
  (D53_2 F m).bind fun q1 =>
    D59_2_1002_18 F F (q1.2.1 2 2) (xu q1.2 2 3 (q1.2.1 2 2))
set_option maxRecDepth 20000 in
theorem T59_2_1002 {B : zHp} (H : yH0 B) (X : yTx B) {e : Nat} (he : 6 ≤ e + 1) (F : Nat) {lv : List (Nat × Value)} {m : xS} {x : Int32 × xS} (l0 : zld lv 0 = some (.ref 2)) (l1 : zld lv 1 = some (.ref 1002)) (h : D59_2_1002 F m = some x) : zR none e 6 (some .int) zc59 (0, lv, []) (xW B m) (some (.int x.1), xW B x.2) := by
  unfold D59_2_1002 at h
  refine q_lr (k := 1) (i := 0) (q := (.aload_n 0, 1, 0, 0, .null)) rfl (fun _ => rfl) l0 ?_
  obtain ⟨q1, h1, h⟩ := xbind h
  refine r_call (ix := 2) (as := []) (rest := []) (rv := some (.int q1.1)) (hp' := xW B q1.2) (pc := 1) rfl xr53 rfl rfl rfl (xkd H (by decide)) (Nat.le_of_ble_eq_true rfl) (Z53_2 H X h1 (by omega)) (Nat.le_refl _) ?_
  refine r_s (fr' := (5, lv, [])) (hp' := xW B q1.2) (q := (.pop, 1, 0, 0, .null)) rfl (fun _ => rfl) (Nat.le_refl _) ?_
  refine q_lr (k := 1) (i := 0) (q := (.aload_n 0, 1, 0, 0, .null)) rfl (fun _ => rfl) l0 ?_
  refine q_lr (k := 1) (i := 0) (q := (.aload_n 0, 1, 0, 0, .null)) rfl (fun _ => rfl) l0 ?_
  refine r_gi (v := (q1.2.1 2 2)) H (pc := 7) (i := _) rfl (by decide) (by decide) rfl ?_
  refine r_pi (s2 := (xu q1.2 2 3 (q1.2.1 2 2))) H (pc := 10) rfl (by decide) rfl rfl ?_
  refine q_lr (k := 1) (i := 0) (q := (.aload_n 0, 1, 0, 0, .null)) rfl (fun _ => rfl) l0 ?_
  refine r_gi (v := (q1.2.1 2 2)) H (pc := 14) (i := _) rfl (by decide) (by decide) rfl ?_
  refine q_si (k := 1) (i := 2) (q := (.istore_n 2, 1, 0, 0, .null)) rfl (fun _ => rfl) (by decide) ?_
  have l0_1 : zld (zs1 lv 2 (.int (q1.2.1 2 2))) 0 = some (.ref 2) := x_o1 l0 rfl rfl
  have l1_1 : zld (zs1 lv 2 (.int (q1.2.1 2 2))) 1 = some (.ref 1002) := x_o1 l1 rfl rfl
  have l2_1 : zld (zs1 lv 2 (.int (q1.2.1 2 2))) 2 = some (.int (q1.2.1 2 2)) := zs1_ld _ _ _
  generalize (zs1 lv 2 (.int (q1.2.1 2 2))) = lv1 at *
  exact T59_2_1002_18 H X he F F l0_1 l1_1 l2_1 h
set_option maxRecDepth 20000 in
theorem Z59_2_1002 {B : zHp} (H : yH0 B) (X : yTx B) {F : Nat} {m : xS} {x : Int32 × xS} (h : D59_2_1002 F m = some x) {d : Nat} (hd : 6 ≤ d) : zCan d 59 [.ref 2, .ref 1002] (xW B m) (some (.int x.1), xW B x.2) := by
  obtain ⟨e, rfl⟩ : ∃ e, d = e + 1 := ⟨d - 1, by omega⟩
  refine zCan_body (nL := 6) (rt := (some .int)) (cd := zc59) (xg59) ⟨Nat.le_of_ble_eq_true rfl, by decide⟩ (Nat.le_refl _) ?_
  exact T59_2_1002 H X hd F rfl rfl h
/-- LentTools$Text.refuse -/
def D52_2 (F : Nat) (v1 : Int32) (v2 : Int32) (m : xS) : Option (Unit × xS) :=
  if zcmp .ne (m.1 2 4) 0 = true then
    some ((), m)
  else
    some ((), (xu m 2 4 ((1 + (8 * v1)) + v2)))
set_option maxRecDepth 20000 in
theorem T52_2 {B : zHp} (H : yH0 B) (X : yTx B) {e : Nat} (he : 1 ≤ e + 1) (F : Nat) {v1 : Int32} {v2 : Int32} {lv : List (Nat × Value)} {m : xS} {x : Unit × xS} (l0 : zld lv 0 = some (.ref 2)) (l1 : zld lv 1 = some (.int v1)) (l2 : zld lv 2 = some (.int v2)) (h : D52_2 F v1 v2 m = some x) : zR none e 3 none zc52 (0, lv, []) (xW B m) (none, xW B x.2) := by
  unfold D52_2 at h
  refine q_lr (k := 1) (i := 0) (q := (.aload_n 0, 1, 0, 0, .null)) rfl (fun _ => rfl) l0 ?_
  refine r_gi (v := (m.1 2 4)) H (pc := 1) (i := _) rfl (by decide) (by decide) rfl ?_
  refine r_if (len := 3) (a := 19) (b := 0) (v0 := .null) (cn := .ne) (off := 15) rfl (fun c => ?_) (fun c => ?_)
  · rw [if_pos c] at h
    obtain rfl := Option.some.inj h
    exact r_ret (q := (.return_, 1, 0, 0, .null)) rfl rfl (fun _ => rfl)
  · rw [if_neg (by rw [c]; decide)] at h
    refine q_lr (k := 1) (i := 0) (q := (.aload_n 0, 1, 0, 0, .null)) rfl (fun _ => rfl) l0 ?_
    refine r_s (fr' := (9, lv, [.int 1, .ref 2])) (hp' := xW B m) (q := (.iconst 1, 1, 0, 0, .null)) rfl (fun _ => rfl) (Nat.le_refl _) ?_
    refine r_s (fr' := (11, lv, [.int 8, .int 1, .ref 2])) (hp' := xW B m) (q := (.bipush 8, 2, 0, 0, .null)) rfl (fun _ => rfl) (Nat.le_refl _) ?_
    refine q_li (k := 1) (i := 1) (q := (.iload_n 1, 1, 0, 0, .null)) rfl (fun _ => rfl) l1 ?_
    refine r_s (fr' := (13, lv, [.int (8 * v1), .int 1, .ref 2])) (hp' := xW B m) (q := (.imul, 1, 0, 0, .null)) rfl (fun _ => rfl) (Nat.le_refl _) ?_
    refine r_s (fr' := (14, lv, [.int (1 + (8 * v1)), .ref 2])) (hp' := xW B m) (q := (.iadd, 1, 0, 0, .null)) rfl (fun _ => rfl) (Nat.le_refl _) ?_
    refine q_li (k := 1) (i := 2) (q := (.iload_n 2, 1, 0, 0, .null)) rfl (fun _ => rfl) l2 ?_
    refine r_s (fr' := (16, lv, [.int ((1 + (8 * v1)) + v2), .ref 2])) (hp' := xW B m) (q := (.iadd, 1, 0, 0, .null)) rfl (fun _ => rfl) (Nat.le_refl _) ?_
    refine r_pi (s2 := (xu m 2 4 ((1 + (8 * v1)) + v2))) H (pc := 16) rfl (by decide) rfl rfl ?_
    obtain rfl := Option.some.inj h
    exact r_ret (q := (.return_, 1, 0, 0, .null)) rfl rfl (fun _ => rfl)
set_option maxRecDepth 20000 in
theorem Z52_2 {B : zHp} (H : yH0 B) (X : yTx B) {F : Nat} {a1 : Int32} {a2 : Int32} {m : xS} {x : Unit × xS} (h : D52_2 F a1 a2 m = some x) {d : Nat} (hd : 1 ≤ d) : zCan d 52 [.ref 2, .int a1, .int a2] (xW B m) (none, xW B x.2) := by
  obtain ⟨e, rfl⟩ : ∃ e, d = e + 1 := ⟨d - 1, by omega⟩
  refine zCan_body (nL := 3) (rt := none) (cd := zc52) (xg52) ⟨Nat.le_of_ble_eq_true rfl, by decide⟩ (Nat.le_refl _) ?_
  exact T52_2 H X hd F rfl rfl rfl h
/-- LentTools$Text.expectWord -/
def D60_2_1002_20 (F : Nat) (v2 : Int32) (m : xS) : Option (Int32 × xS) :=
  some (v2, m)
set_option maxRecDepth 20000 in
theorem T60_2_1002_20 {B : zHp} (H : yH0 B) (X : yTx B) {e : Nat} (he : 7 ≤ e + 1) (F : Nat) {v2 : Int32} {lv : List (Nat × Value)} {m : xS} {x : Int32 × xS} (l0 : zld lv 0 = some (.ref 2)) (l1 : zld lv 1 = some (.ref 1002)) (l2 : zld lv 2 = some (.int v2)) (h : D60_2_1002_20 F v2 m = some x) : zR none e 3 (some .int) zc60 (20, lv, []) (xW B m) (some (.int x.1), xW B x.2) := by
  unfold D60_2_1002_20 at h
  refine q_li (k := 1) (i := 2) (q := (.iload_n 2, 1, 0, 0, .null)) rfl (fun _ => rfl) l2 ?_
  obtain rfl := Option.some.inj h
  exact q_ri (q := (.ireturn, 1, 0, 0, .null)) rfl (fun _ => rfl) rfl rfl
def D60_2_1002 (F : Nat) (m : xS) : Option (Int32 × xS) :=
  (D59_2_1002 F m).bind fun q2 =>
    if zcmp .ne q2.1 (-1) = true then
      D60_2_1002_20 F q2.1 q2.2
    else
      (D52_2 F (q2.2.1 2 3) 0 q2.2).bind fun q17 =>
        D60_2_1002_20 F q2.1 q17.2
set_option maxRecDepth 20000 in
theorem T60_2_1002 {B : zHp} (H : yH0 B) (X : yTx B) {e : Nat} (he : 7 ≤ e + 1) (F : Nat) {lv : List (Nat × Value)} {m : xS} {x : Int32 × xS} (l0 : zld lv 0 = some (.ref 2)) (l1 : zld lv 1 = some (.ref 1002)) (h : D60_2_1002 F m = some x) : zR none e 3 (some .int) zc60 (0, lv, []) (xW B m) (some (.int x.1), xW B x.2) := by
  unfold D60_2_1002 at h
  refine q_lr (k := 1) (i := 0) (q := (.aload_n 0, 1, 0, 0, .null)) rfl (fun _ => rfl) l0 ?_
  refine q_lr (k := 1) (i := 1) (q := (.aload_n 1, 1, 0, 0, .null)) rfl (fun _ => rfl) l1 ?_
  obtain ⟨q2, h2, h⟩ := xbind h
  refine r_call (ix := 2) (as := [.ref 1002]) (rest := []) (rv := some (.int q2.1)) (hp' := xW B q2.2) (pc := 2) rfl xr59 rfl rfl rfl (xkd H (by decide)) (Nat.le_of_ble_eq_true rfl) (Z59_2_1002 H X h2 (by omega)) (Nat.le_refl _) ?_
  refine q_si (k := 1) (i := 2) (q := (.istore_n 2, 1, 0, 0, .null)) rfl (fun _ => rfl) (by decide) ?_
  have l0_1 : zld (zs1 lv 2 (.int q2.1)) 0 = some (.ref 2) := x_o1 l0 rfl rfl
  have l1_1 : zld (zs1 lv 2 (.int q2.1)) 1 = some (.ref 1002) := x_o1 l1 rfl rfl
  have l2_1 : zld (zs1 lv 2 (.int q2.1)) 2 = some (.int q2.1) := zs1_ld _ _ _
  generalize (zs1 lv 2 (.int q2.1)) = lv1 at *
  refine q_li (k := 1) (i := 2) (q := (.iload_n 2, 1, 0, 0, .null)) rfl (fun _ => rfl) l2_1 ?_
  refine r_s (fr' := (8, lv1, [.int (-1), .int q2.1])) (hp' := xW B q2.2) (q := (.iconst (-1), 1, 0, 0, .null)) rfl (fun _ => rfl) (Nat.le_refl _) ?_
  refine r_ifc (len := 3) (a := 20) (b := 0) (v0 := .null) (cn := .ne) (off := 12) rfl (fun c => ?_) (fun c => ?_)
  · rw [if_pos c] at h
    exact T60_2_1002_20 H X he F l0_1 l1_1 l2_1 h
  · rw [if_neg (by rw [c]; decide)] at h
    refine q_lr (k := 1) (i := 0) (q := (.aload_n 0, 1, 0, 0, .null)) rfl (fun _ => rfl) l0_1 ?_
    refine q_lr (k := 1) (i := 0) (q := (.aload_n 0, 1, 0, 0, .null)) rfl (fun _ => rfl) l0_1 ?_
    refine r_gi (v := (q2.2.1 2 3)) H (pc := 13) (i := _) rfl (by decide) (by decide) rfl ?_
    refine r_s (fr' := (17, lv1, [.int 0, .int (q2.2.1 2 3), .ref 2])) (hp' := xW B q2.2) (q := (.iconst 0, 1, 0, 0, .null)) rfl (fun _ => rfl) (Nat.le_refl _) ?_
    obtain ⟨q17, h17, h⟩ := xbind h
    refine r_call (ix := 2) (as := [.int (q2.2.1 2 3), .int 0]) (rest := []) (rv := none) (hp' := xW B q17.2) (pc := 17) rfl xr52 rfl rfl rfl (xkd H (by decide)) (Nat.le_of_ble_eq_true rfl) (Z52_2 H X h17 (by omega)) (Nat.le_refl _) ?_
    exact T60_2_1002_20 H X he F l0_1 l1_1 l2_1 h
set_option maxRecDepth 20000 in
theorem Z60_2_1002 {B : zHp} (H : yH0 B) (X : yTx B) {F : Nat} {m : xS} {x : Int32 × xS} (h : D60_2_1002 F m = some x) {d : Nat} (hd : 7 ≤ d) : zCan d 60 [.ref 2, .ref 1002] (xW B m) (some (.int x.1), xW B x.2) := by
  obtain ⟨e, rfl⟩ : ∃ e, d = e + 1 := ⟨d - 1, by omega⟩
  refine zCan_body (nL := 3) (rt := (some .int)) (cd := zc60) (xg60) ⟨Nat.le_of_ble_eq_true rfl, by decide⟩ (Nat.le_refl _) ?_
  exact T60_2_1002 H X hd F rfl rfl h
/-- LentTools$RuleReader.readLend -/
def D34_6_2_25 (F : Nat) (m : xS) : Option (Unit × xS) :=
  some ((), (xu (xu (xu m 6 4 ((m.1 6 4) + 1)) 6 9 0) 6 8 2))
set_option maxRecDepth 20000 in
theorem T34_6_2_25 {B : zHp} (H : yH0 B) (X : yTx B) {e : Nat} (he : 8 ≤ e + 1) (F : Nat) {lv : List (Nat × Value)} {m : xS} {x : Unit × xS} (l0 : zld lv 0 = some (.ref 6)) (l1 : zld lv 1 = some (.ref 2)) (h : D34_6_2_25 F m = some x) : zR none e 2 none zc34 (25, lv, []) (xW B m) (none, xW B x.2) := by
  unfold D34_6_2_25 at h
  refine q_lr (k := 1) (i := 0) (q := (.aload_n 0, 1, 0, 0, .null)) rfl (fun _ => rfl) l0 ?_
  refine r_s (fr' := (27, lv, [.ref 6, .ref 6])) (hp' := xW B m) (q := (.dup, 1, 0, 0, .null)) rfl (fun _ => rfl) (Nat.le_refl _) ?_
  refine r_gi (v := (m.1 6 4)) H (pc := 27) (i := _) rfl (by decide) (by decide) rfl ?_
  refine r_s (fr' := (31, lv, [.int 1, .int (m.1 6 4), .ref 6])) (hp' := xW B m) (q := (.iconst 1, 1, 0, 0, .null)) rfl (fun _ => rfl) (Nat.le_refl _) ?_
  refine r_s (fr' := (32, lv, [.int ((m.1 6 4) + 1), .ref 6])) (hp' := xW B m) (q := (.iadd, 1, 0, 0, .null)) rfl (fun _ => rfl) (Nat.le_refl _) ?_
  refine r_pi (s2 := (xu m 6 4 ((m.1 6 4) + 1))) H (pc := 32) rfl (by decide) rfl rfl ?_
  refine q_lr (k := 1) (i := 0) (q := (.aload_n 0, 1, 0, 0, .null)) rfl (fun _ => rfl) l0 ?_
  refine r_s (fr' := (37, lv, [.int 0, .ref 6])) (hp' := xW B (xu m 6 4 ((m.1 6 4) + 1))) (q := (.iconst 0, 1, 0, 0, .null)) rfl (fun _ => rfl) (Nat.le_refl _) ?_
  refine r_pi (s2 := (xu (xu m 6 4 ((m.1 6 4) + 1)) 6 9 0)) H (pc := 37) rfl (by decide) rfl rfl ?_
  refine q_lr (k := 1) (i := 0) (q := (.aload_n 0, 1, 0, 0, .null)) rfl (fun _ => rfl) l0 ?_
  refine r_s (fr' := (42, lv, [.int 2, .ref 6])) (hp' := xW B (xu (xu m 6 4 ((m.1 6 4) + 1)) 6 9 0)) (q := (.iconst 2, 1, 0, 0, .null)) rfl (fun _ => rfl) (Nat.le_refl _) ?_
  refine r_pi (s2 := (xu (xu (xu m 6 4 ((m.1 6 4) + 1)) 6 9 0) 6 8 2)) H (pc := 42) rfl (by decide) rfl rfl ?_
  obtain rfl := Option.some.inj h
  exact r_ret (q := (.return_, 1, 0, 0, .null)) rfl rfl (fun _ => rfl)
def D34_6_2 (F : Nat) (m : xS) : Option (Unit × xS) :=
  (D60_2_1002 F m).bind fun q3 =>
    if zcmp .lt (q3.2.1 6 4) 12 = true then
      D34_6_2_25 F q3.2
    else
      (D52_2 F (q3.2.1 2 3) 4 q3.2).bind fun q22 =>
        D34_6_2_25 F q22.2
set_option maxRecDepth 20000 in
theorem T34_6_2 {B : zHp} (H : yH0 B) (X : yTx B) {e : Nat} (he : 8 ≤ e + 1) (F : Nat) {lv : List (Nat × Value)} {m : xS} {x : Unit × xS} (l0 : zld lv 0 = some (.ref 6)) (l1 : zld lv 1 = some (.ref 2)) (h : D34_6_2 F m = some x) : zR none e 2 none zc34 (0, lv, []) (xW B m) (none, xW B x.2) := by
  unfold D34_6_2 at h
  refine q_lr (k := 1) (i := 1) (q := (.aload_n 1, 1, 0, 0, .null)) rfl (fun _ => rfl) l1 ?_
  refine r_s (fr' := (3, lv, [.ref 1002, .ref 2])) (hp' := xW B m) (q := (.ldc 70, 2, 2, 0, .ref 1002)) rfl (fun _ => rfl) (Nat.le_refl _) ?_
  obtain ⟨q3, h3, h⟩ := xbind h
  refine r_call (ix := 2) (as := [.ref 1002]) (rest := []) (rv := some (.int q3.1)) (hp' := xW B q3.2) (pc := 3) rfl xr60 rfl rfl rfl (xkd H (by decide)) (Nat.le_of_ble_eq_true rfl) (Z60_2_1002 H X h3 (by omega)) (Nat.le_refl _) ?_
  refine r_s (fr' := (7, lv, [])) (hp' := xW B q3.2) (q := (.pop, 1, 0, 0, .null)) rfl (fun _ => rfl) (Nat.le_refl _) ?_
  refine q_lr (k := 1) (i := 0) (q := (.aload_n 0, 1, 0, 0, .null)) rfl (fun _ => rfl) l0 ?_
  refine r_gi (v := (q3.2.1 6 4)) H (pc := 8) (i := _) rfl (by decide) (by decide) rfl ?_
  refine r_s (fr' := (13, lv, [.int 12, .int (q3.2.1 6 4)])) (hp' := xW B q3.2) (q := (.bipush 12, 2, 0, 0, .null)) rfl (fun _ => rfl) (Nat.le_refl _) ?_
  refine r_ifc (len := 3) (a := 25) (b := 0) (v0 := .null) (cn := .lt) (off := 12) rfl (fun c => ?_) (fun c => ?_)
  · rw [if_pos c] at h
    exact T34_6_2_25 H X he F l0 l1 h
  · rw [if_neg (by rw [c]; decide)] at h
    refine q_lr (k := 1) (i := 1) (q := (.aload_n 1, 1, 0, 0, .null)) rfl (fun _ => rfl) l1 ?_
    refine q_lr (k := 1) (i := 1) (q := (.aload_n 1, 1, 0, 0, .null)) rfl (fun _ => rfl) l1 ?_
    refine r_gi (v := (q3.2.1 2 3)) H (pc := 18) (i := _) rfl (by decide) (by decide) rfl ?_
    refine r_s (fr' := (22, lv, [.int 4, .int (q3.2.1 2 3), .ref 2])) (hp' := xW B q3.2) (q := (.iconst 4, 1, 0, 0, .null)) rfl (fun _ => rfl) (Nat.le_refl _) ?_
    obtain ⟨q22, h22, h⟩ := xbind h
    refine r_call (ix := 2) (as := [.int (q3.2.1 2 3), .int 4]) (rest := []) (rv := none) (hp' := xW B q22.2) (pc := 22) rfl xr52 rfl rfl rfl (xkd H (by decide)) (Nat.le_of_ble_eq_true rfl) (Z52_2 H X h22 (by omega)) (Nat.le_refl _) ?_
    exact T34_6_2_25 H X he F l0 l1 h
set_option maxRecDepth 20000 in
theorem Z34_6_2 {B : zHp} (H : yH0 B) (X : yTx B) {F : Nat} {m : xS} {x : Unit × xS} (h : D34_6_2 F m = some x) {d : Nat} (hd : 8 ≤ d) : zCan d 34 [.ref 6, .ref 2] (xW B m) (none, xW B x.2) := by
  obtain ⟨e, rfl⟩ : ∃ e, d = e + 1 := ⟨d - 1, by omega⟩
  refine zCan_body (nL := 2) (rt := none) (cd := zc34) (xg34) ⟨Nat.le_of_ble_eq_true rfl, by decide⟩ (Nat.le_refl _) ?_
  exact T34_6_2 H X hd F rfl rfl h
/-- java/lang/String.coder -/
def D283_1003 (F : Nat) (m : xS) : Option (Int32 × xS) :=
  if zcmp .eq 1 0 = true then
    some (1, m)
  else
    some (0, m)
set_option maxRecDepth 20000 in
theorem T283_1003 {B : zHp} (H : yH0 B) (X : yTx B) {e : Nat} (he : 1 ≤ e + 1) (F : Nat) {lv : List (Nat × Value)} {m : xS} {x : Int32 × xS} (l0 : zld lv 0 = some (.ref 1003)) (h : D283_1003 F m = some x) : zR none e 1 (some .byte) zc283 (0, lv, []) (xW B m) (some (.int x.1), xW B x.2) := by
  unfold D283_1003 at h
  refine r_s (fr' := (3, lv, [.int 1])) (hp' := xW B m) (q := (.getstatic 38, 3, 0, 0, .int 1)) rfl (fun _ => rfl) (Nat.le_refl _) ?_
  refine r_if (len := 3) (a := 13) (b := 0) (v0 := .null) (cn := .eq) (off := 10) rfl (fun c => ?_) (fun c => ?_)
  · rw [if_pos c] at h
    refine r_s (fr' := (14, lv, [.int 1])) (hp' := xW B m) (q := (.iconst 1, 1, 0, 0, .null)) rfl (fun _ => rfl) (Nat.le_refl _) ?_
    obtain rfl := Option.some.inj h
    exact q_ri (q := (.ireturn, 1, 0, 0, .null)) rfl (fun _ => rfl) rfl rfl
  · rw [if_neg (by rw [c]; decide)] at h
    refine q_lr (k := 1) (i := 0) (q := (.aload_n 0, 1, 0, 0, .null)) rfl (fun _ => rfl) l0 ?_
    refine r_s (fr' := (10, lv, [.int 0])) (hp' := xW B m) (q := (.getfield 15, 3, 100, 1, .null)) rfl (fun _ => rfl) (Nat.le_refl _) ?_
    refine r_s (fr' := (14, lv, [.int 0])) (hp' := xW B m) (q := (.goto 4, 3, 14, 0, .null)) rfl (fun _ => rfl) (Nat.le_refl _) ?_
    obtain rfl := Option.some.inj h
    exact q_ri (q := (.ireturn, 1, 0, 0, .null)) rfl (fun _ => rfl) rfl rfl
set_option maxRecDepth 20000 in
theorem Z283_1003 {B : zHp} (H : yH0 B) (X : yTx B) {F : Nat} {m : xS} {x : Int32 × xS} (h : D283_1003 F m = some x) {d : Nat} (hd : 1 ≤ d) : zCan d 283 [.ref 1003] (xW B m) (some (.int x.1), xW B x.2) := by
  obtain ⟨e, rfl⟩ : ∃ e, d = e + 1 := ⟨d - 1, by omega⟩
  refine zCan_body (nL := 1) (rt := (some .byte)) (cd := zc283) (xg283) ⟨Nat.le_of_ble_eq_true rfl, by decide⟩ (Nat.le_refl _) ?_
  exact T283_1003 H X hd F rfl h
/-- java/lang/String.length -/
def D281_1003 (F : Nat) (m : xS) : Option (Int32 × xS) :=
  (D283_1003 F m).bind fun q6 =>
    some (((Int32.ofNat 4) >>> (q6.1 &&& 31)), q6.2)
set_option maxRecDepth 20000 in
theorem T281_1003 {B : zHp} (H : yH0 B) (X : yTx B) {e : Nat} (he : 2 ≤ e + 1) (F : Nat) {lv : List (Nat × Value)} {m : xS} {x : Int32 × xS} (l0 : zld lv 0 = some (.ref 1003)) (h : D281_1003 F m = some x) : zR none e 1 (some .int) zc281 (0, lv, []) (xW B m) (some (.int x.1), xW B x.2) := by
  unfold D281_1003 at h
  refine q_lr (k := 1) (i := 0) (q := (.aload_n 0, 1, 0, 0, .null)) rfl (fun _ => rfl) l0 ?_
  refine r_s (fr' := (4, lv, [.ref 1022])) (hp' := xW B m) (q := (.getfield 9, 3, 100, 0, .null)) rfl (fun _ => rfl) (Nat.le_refl _) ?_
  refine r_s (fr' := (5, lv, [.int (Int32.ofNat 4)])) (hp' := xW B m) (q := (.arraylength, 1, 0, 0, .null)) rfl (fun _ => rfl) (Nat.le_refl _) ?_
  refine q_lr (k := 1) (i := 0) (q := (.aload_n 0, 1, 0, 0, .null)) rfl (fun _ => rfl) l0 ?_
  obtain ⟨q6, h6, h⟩ := xbind h
  refine r_call (ix := 1003) (as := []) (rest := [.int (Int32.ofNat 4)]) (rv := some (.int q6.1)) (hp' := xW B q6.2) (pc := 6) rfl xr283 rfl rfl rfl rfl (Nat.le_of_ble_eq_true rfl) (Z283_1003 H X h6 (by omega)) (Nat.le_refl _) ?_
  refine r_s (fr' := (10, lv, [.int ((Int32.ofNat 4) >>> (q6.1 &&& 31))])) (hp' := xW B q6.2) (q := (.ishr, 1, 0, 0, .null)) rfl (fun _ => rfl) (Nat.le_refl _) ?_
  obtain rfl := Option.some.inj h
  exact q_ri (q := (.ireturn, 1, 0, 0, .null)) rfl (fun _ => rfl) rfl rfl
set_option maxRecDepth 20000 in
theorem Z281_1003 {B : zHp} (H : yH0 B) (X : yTx B) {F : Nat} {m : xS} {x : Int32 × xS} (h : D281_1003 F m = some x) {d : Nat} (hd : 2 ≤ d) : zCan d 281 [.ref 1003] (xW B m) (some (.int x.1), xW B x.2) := by
  obtain ⟨e, rfl⟩ : ∃ e, d = e + 1 := ⟨d - 1, by omega⟩
  refine zCan_body (nL := 1) (rt := (some .int)) (cd := zc281) (xg281) ⟨Nat.le_of_ble_eq_true rfl, by decide⟩ (Nat.le_refl _) ?_
  exact T281_1003 H X hd F rfl h
/-- java/lang/String.isLatin1 -/
def D284_1003_17 (F : Nat) (m : xS) : Option (Int32 × xS) :=
  some (0, m)
set_option maxRecDepth 20000 in
theorem T284_1003_17 {B : zHp} (H : yH0 B) (X : yTx B) {e : Nat} (he : 1 ≤ e + 1) (F : Nat) {lv : List (Nat × Value)} {m : xS} {x : Int32 × xS} (l0 : zld lv 0 = some (.ref 1003)) (h : D284_1003_17 F m = some x) : zR none e 1 (some .boolean) zc284 (17, lv, []) (xW B m) (some (.int x.1), xW B x.2) := by
  unfold D284_1003_17 at h
  refine r_s (fr' := (18, lv, [.int 0])) (hp' := xW B m) (q := (.iconst 0, 1, 0, 0, .null)) rfl (fun _ => rfl) (Nat.le_refl _) ?_
  obtain rfl := Option.some.inj h
  exact q_ri (q := (.ireturn, 1, 0, 0, .null)) rfl (fun _ => rfl) rfl rfl
def D284_1003 (F : Nat) (m : xS) : Option (Int32 × xS) :=
  if zcmp .eq 1 0 = true then
    D284_1003_17 F m
  else
    if zcmp .ne 0 0 = true then
      D284_1003_17 F m
    else
      some (1, m)
set_option maxRecDepth 20000 in
theorem T284_1003 {B : zHp} (H : yH0 B) (X : yTx B) {e : Nat} (he : 1 ≤ e + 1) (F : Nat) {lv : List (Nat × Value)} {m : xS} {x : Int32 × xS} (l0 : zld lv 0 = some (.ref 1003)) (h : D284_1003 F m = some x) : zR none e 1 (some .boolean) zc284 (0, lv, []) (xW B m) (some (.int x.1), xW B x.2) := by
  unfold D284_1003 at h
  refine r_s (fr' := (3, lv, [.int 1])) (hp' := xW B m) (q := (.getstatic 38, 3, 0, 0, .int 1)) rfl (fun _ => rfl) (Nat.le_refl _) ?_
  refine r_if (len := 3) (a := 17) (b := 0) (v0 := .null) (cn := .eq) (off := 14) rfl (fun c => ?_) (fun c => ?_)
  · rw [if_pos c] at h
    exact T284_1003_17 H X he F l0 h
  · rw [if_neg (by rw [c]; decide)] at h
    refine q_lr (k := 1) (i := 0) (q := (.aload_n 0, 1, 0, 0, .null)) rfl (fun _ => rfl) l0 ?_
    refine r_s (fr' := (10, lv, [.int 0])) (hp' := xW B m) (q := (.getfield 15, 3, 100, 1, .null)) rfl (fun _ => rfl) (Nat.le_refl _) ?_
    refine r_if (len := 3) (a := 17) (b := 0) (v0 := .null) (cn := .ne) (off := 7) rfl (fun c => ?_) (fun c => ?_)
    · rw [if_pos c] at h
      exact T284_1003_17 H X he F l0 h
    · rw [if_neg (by rw [c]; decide)] at h
      refine r_s (fr' := (14, lv, [.int 1])) (hp' := xW B m) (q := (.iconst 1, 1, 0, 0, .null)) rfl (fun _ => rfl) (Nat.le_refl _) ?_
      refine r_s (fr' := (18, lv, [.int 1])) (hp' := xW B m) (q := (.goto 4, 3, 18, 0, .null)) rfl (fun _ => rfl) (Nat.le_refl _) ?_
      obtain rfl := Option.some.inj h
      exact q_ri (q := (.ireturn, 1, 0, 0, .null)) rfl (fun _ => rfl) rfl rfl
set_option maxRecDepth 20000 in
theorem Z284_1003 {B : zHp} (H : yH0 B) (X : yTx B) {F : Nat} {m : xS} {x : Int32 × xS} (h : D284_1003 F m = some x) {d : Nat} (hd : 1 ≤ d) : zCan d 284 [.ref 1003] (xW B m) (some (.int x.1), xW B x.2) := by
  obtain ⟨e, rfl⟩ : ∃ e, d = e + 1 := ⟨d - 1, by omega⟩
  refine zCan_body (nL := 1) (rt := (some .boolean)) (cd := zc284) (xg284) ⟨Nat.le_of_ble_eq_true rfl, by decide⟩ (Nat.le_refl _) ?_
  exact T284_1003 H X hd F rfl h
/-- java/lang/StringLatin1.charAt -/
def D286_1022 (F : Nat) (v1 : Int32) (m : xS) : Option (Int32 × xS) :=
  (D285 F v1 (Int32.ofNat 4) m).bind fun q3 =>
    if xib v1 4 = true then
      if (vp_nar .char ((((zsv 22 (v1 : Int32).toNatClampNeg) &&& 255) : Int32).toUInt32 % 65536).toInt32 == ((((zsv 22 (v1 : Int32).toNatClampNeg) &&& 255) : Int32).toUInt32 % 65536).toInt32) = true then
        some (((((zsv 22 (v1 : Int32).toNatClampNeg) &&& 255) : Int32).toUInt32 % 65536).toInt32, q3.2)
      else none
    else none
set_option maxRecDepth 20000 in
theorem T286_1022 {B : zHp} (H : yH0 B) (X : yTx B) {e : Nat} (he : 3 ≤ e + 1) (F : Nat) {v1 : Int32} {lv : List (Nat × Value)} {m : xS} {x : Int32 × xS} (l0 : zld lv 0 = some (.ref 1022)) (l1 : zld lv 1 = some (.int v1)) (h : D286_1022 F v1 m = some x) : zR none e 2 (some .char) zc286 (0, lv, []) (xW B m) (some (.int x.1), xW B x.2) := by
  unfold D286_1022 at h
  refine q_li (k := 1) (i := 1) (q := (.iload_n 1, 1, 0, 0, .null)) rfl (fun _ => rfl) l1 ?_
  refine q_lr (k := 1) (i := 0) (q := (.aload_n 0, 1, 0, 0, .null)) rfl (fun _ => rfl) l0 ?_
  refine r_s (fr' := (3, lv, [.int (Int32.ofNat 4), .int v1])) (hp' := xW B m) (q := (.arraylength, 1, 0, 0, .null)) rfl (fun _ => rfl) (Nat.le_refl _) ?_
  obtain ⟨q3, h3, h⟩ := xbind h
  refine r_callS (as := [.int v1, .int (Int32.ofNat 4)]) (rest := []) (rv := none) (hp' := xW B q3.2) (pc := 3) rfl xr285 rfl rfl rfl (Nat.le_of_ble_eq_true rfl) (Z285 H X h3 (by omega)) (Nat.le_refl _) ?_
  refine q_lr (k := 1) (i := 0) (q := (.aload_n 0, 1, 0, 0, .null)) rfl (fun _ => rfl) l0 ?_
  refine q_li (k := 1) (i := 1) (q := (.iload_n 1, 1, 0, 0, .null)) rfl (fun _ => rfl) l1 ?_
  obtain ⟨c1, h⟩ := xif h
  refine q_sbl (n := 4) (f := zsv 22) (i := 1022) (pc := 8) rfl (by decide) rfl c1 ?_
  refine r_s (fr' := (12, lv, [.int 255, .int (zsv 22 (v1 : Int32).toNatClampNeg)])) (hp' := xW B q3.2) (q := (.sipush 255, 3, 0, 0, .null)) rfl (fun _ => rfl) (Nat.le_refl _) ?_
  refine r_s (fr' := (13, lv, [.int ((zsv 22 (v1 : Int32).toNatClampNeg) &&& 255)])) (hp' := xW B q3.2) (q := (.iand, 1, 0, 0, .null)) rfl (fun _ => rfl) (Nat.le_refl _) ?_
  refine r_s (fr' := (14, lv, [.int ((((zsv 22 (v1 : Int32).toNatClampNeg) &&& 255) : Int32).toUInt32 % 65536).toInt32])) (hp' := xW B q3.2) (q := (.i2c, 1, 0, 0, .null)) rfl (fun _ => rfl) (Nat.le_refl _) ?_
  obtain ⟨c2, h⟩ := xif h
  obtain rfl := Option.some.inj h
  exact q_ri (q := (.ireturn, 1, 0, 0, .null)) rfl (fun _ => rfl) rfl (xnar_ok rfl c2)
set_option maxRecDepth 20000 in
theorem Z286_1022 {B : zHp} (H : yH0 B) (X : yTx B) {F : Nat} {a1 : Int32} {m : xS} {x : Int32 × xS} (h : D286_1022 F a1 m = some x) {d : Nat} (hd : 3 ≤ d) : zCan d 286 [.ref 1022, .int a1] (xW B m) (some (.int x.1), xW B x.2) := by
  obtain ⟨e, rfl⟩ : ∃ e, d = e + 1 := ⟨d - 1, by omega⟩
  refine zCan_body (nL := 2) (rt := (some .char)) (cd := zc286) (xg286) ⟨Nat.le_of_ble_eq_true rfl, by decide⟩ (Nat.le_refl _) ?_
  exact T286_1022 H X hd F rfl rfl h
/-- java/lang/StringUTF16.length -/
def D288_1022 (F : Nat) (m : xS) : Option (Int32 × xS) :=
  some (((Int32.ofNat 4) >>> (1 &&& 31)), m)
set_option maxRecDepth 20000 in
theorem T288_1022 {B : zHp} (H : yH0 B) (X : yTx B) {e : Nat} (he : 1 ≤ e + 1) (F : Nat) {lv : List (Nat × Value)} {m : xS} {x : Int32 × xS} (l0 : zld lv 0 = some (.ref 1022)) (h : D288_1022 F m = some x) : zR none e 1 (some .int) zc288 (0, lv, []) (xW B m) (some (.int x.1), xW B x.2) := by
  unfold D288_1022 at h
  refine q_lr (k := 1) (i := 0) (q := (.aload_n 0, 1, 0, 0, .null)) rfl (fun _ => rfl) l0 ?_
  refine r_s (fr' := (2, lv, [.int (Int32.ofNat 4)])) (hp' := xW B m) (q := (.arraylength, 1, 0, 0, .null)) rfl (fun _ => rfl) (Nat.le_refl _) ?_
  refine r_s (fr' := (3, lv, [.int 1, .int (Int32.ofNat 4)])) (hp' := xW B m) (q := (.iconst 1, 1, 0, 0, .null)) rfl (fun _ => rfl) (Nat.le_refl _) ?_
  refine r_s (fr' := (4, lv, [.int ((Int32.ofNat 4) >>> (1 &&& 31))])) (hp' := xW B m) (q := (.ishr, 1, 0, 0, .null)) rfl (fun _ => rfl) (Nat.le_refl _) ?_
  obtain rfl := Option.some.inj h
  exact q_ri (q := (.ireturn, 1, 0, 0, .null)) rfl (fun _ => rfl) rfl rfl
set_option maxRecDepth 20000 in
theorem Z288_1022 {B : zHp} (H : yH0 B) (X : yTx B) {F : Nat} {m : xS} {x : Int32 × xS} (h : D288_1022 F m = some x) {d : Nat} (hd : 1 ≤ d) : zCan d 288 [.ref 1022] (xW B m) (some (.int x.1), xW B x.2) := by
  obtain ⟨e, rfl⟩ : ∃ e, d = e + 1 := ⟨d - 1, by omega⟩
  refine zCan_body (nL := 1) (rt := (some .int)) (cd := zc288) (xg288) ⟨Nat.le_of_ble_eq_true rfl, by decide⟩ (Nat.le_refl _) ?_
  exact T288_1022 H X hd F rfl h
/-- java/lang/StringUTF16.checkIndex -/
def D290_1022 (F : Nat) (v0 : Int32) (m : xS) : Option (Unit × xS) :=
  (D288_1022 F m).bind fun q2 =>
    (D285 F v0 q2.1 q2.2).bind fun q5 =>
      some ((), q5.2)
set_option maxRecDepth 20000 in
theorem T290_1022 {B : zHp} (H : yH0 B) (X : yTx B) {e : Nat} (he : 3 ≤ e + 1) (F : Nat) {v0 : Int32} {lv : List (Nat × Value)} {m : xS} {x : Unit × xS} (l0 : zld lv 0 = some (.int v0)) (l1 : zld lv 1 = some (.ref 1022)) (h : D290_1022 F v0 m = some x) : zR none e 2 none zc290 (0, lv, []) (xW B m) (none, xW B x.2) := by
  unfold D290_1022 at h
  refine q_li (k := 1) (i := 0) (q := (.iload_n 0, 1, 0, 0, .null)) rfl (fun _ => rfl) l0 ?_
  refine q_lr (k := 1) (i := 1) (q := (.aload_n 1, 1, 0, 0, .null)) rfl (fun _ => rfl) l1 ?_
  obtain ⟨q2, h2, h⟩ := xbind h
  refine r_callS (as := [.ref 1022]) (rest := [.int v0]) (rv := some (.int q2.1)) (hp' := xW B q2.2) (pc := 2) rfl xr288 rfl rfl rfl (Nat.le_of_ble_eq_true rfl) (Z288_1022 H X h2 (by omega)) (Nat.le_refl _) ?_
  obtain ⟨q5, h5, h⟩ := xbind h
  refine r_callS (as := [.int v0, .int q2.1]) (rest := []) (rv := none) (hp' := xW B q5.2) (pc := 5) rfl xr285 rfl rfl rfl (Nat.le_of_ble_eq_true rfl) (Z285 H X h5 (by omega)) (Nat.le_refl _) ?_
  obtain rfl := Option.some.inj h
  exact r_ret (q := (.return_, 1, 0, 0, .null)) rfl rfl (fun _ => rfl)
set_option maxRecDepth 20000 in
theorem Z290_1022 {B : zHp} (H : yH0 B) (X : yTx B) {F : Nat} {a0 : Int32} {m : xS} {x : Unit × xS} (h : D290_1022 F a0 m = some x) {d : Nat} (hd : 3 ≤ d) : zCan d 290 [.int a0, .ref 1022] (xW B m) (none, xW B x.2) := by
  obtain ⟨e, rfl⟩ : ∃ e, d = e + 1 := ⟨d - 1, by omega⟩
  refine zCan_body (nL := 2) (rt := none) (cd := zc290) (xg290) ⟨Nat.le_of_ble_eq_true rfl, by decide⟩ (Nat.le_refl _) ?_
  exact T290_1022 H X hd F rfl rfl h
/-- java/lang/StringUTF16.getChar -/
def D287_1022 (F : Nat) (v1 : Int32) (m : xS) : Option (Int32 × xS) :=
  none
set_option maxRecDepth 20000 in
theorem T287_1022 {B : zHp} (H : yH0 B) (X : yTx B) {e : Nat} (he : 1 ≤ e + 1) (F : Nat) {v1 : Int32} {lv : List (Nat × Value)} {m : xS} {x : Int32 × xS} (l0 : zld lv 0 = some (.ref 1022)) (l1 : zld lv 1 = some (.int v1)) (h : D287_1022 F v1 m = some x) : zR none e 2 (some .char) zc287 (0, lv, []) (xW B m) (some (.int x.1), xW B x.2) := by
  unfold D287_1022 at h
  cases h
set_option maxRecDepth 20000 in
theorem Z287_1022 {B : zHp} (H : yH0 B) (X : yTx B) {F : Nat} {a1 : Int32} {m : xS} {x : Int32 × xS} (h : D287_1022 F a1 m = some x) {d : Nat} (hd : 1 ≤ d) : zCan d 287 [.ref 1022, .int a1] (xW B m) (some (.int x.1), xW B x.2) := by
  obtain ⟨e, rfl⟩ : ∃ e, d = e + 1 := ⟨d - 1, by omega⟩
  refine zCan_body (nL := 2) (rt := (some .char)) (cd := zc287) (xg287) ⟨Nat.le_of_ble_eq_true rfl, by decide⟩ (Nat.le_refl _) ?_
  exact T287_1022 H X hd F rfl rfl h
/-- java/lang/StringUTF16.charAt -/
def D289_1022 (F : Nat) (v1 : Int32) (m : xS) : Option (Int32 × xS) :=
  (D290_1022 F v1 m).bind fun q2 =>
    (D287_1022 F v1 q2.2).bind fun q7 =>
      if (vp_nar .char q7.1 == q7.1) = true then
        some (q7.1, q7.2)
      else none
set_option maxRecDepth 20000 in
theorem T289_1022 {B : zHp} (H : yH0 B) (X : yTx B) {e : Nat} (he : 4 ≤ e + 1) (F : Nat) {v1 : Int32} {lv : List (Nat × Value)} {m : xS} {x : Int32 × xS} (l0 : zld lv 0 = some (.ref 1022)) (l1 : zld lv 1 = some (.int v1)) (h : D289_1022 F v1 m = some x) : zR none e 2 (some .char) zc289 (0, lv, []) (xW B m) (some (.int x.1), xW B x.2) := by
  unfold D289_1022 at h
  refine q_li (k := 1) (i := 1) (q := (.iload_n 1, 1, 0, 0, .null)) rfl (fun _ => rfl) l1 ?_
  refine q_lr (k := 1) (i := 0) (q := (.aload_n 0, 1, 0, 0, .null)) rfl (fun _ => rfl) l0 ?_
  obtain ⟨q2, h2, h⟩ := xbind h
  refine r_callS (as := [.int v1, .ref 1022]) (rest := []) (rv := none) (hp' := xW B q2.2) (pc := 2) rfl xr290 rfl rfl rfl (Nat.le_of_ble_eq_true rfl) (Z290_1022 H X h2 (by omega)) (Nat.le_refl _) ?_
  refine q_lr (k := 1) (i := 0) (q := (.aload_n 0, 1, 0, 0, .null)) rfl (fun _ => rfl) l0 ?_
  refine q_li (k := 1) (i := 1) (q := (.iload_n 1, 1, 0, 0, .null)) rfl (fun _ => rfl) l1 ?_
  obtain ⟨q7, h7, h⟩ := xbind h
  refine r_callS (as := [.ref 1022, .int v1]) (rest := []) (rv := some (.int q7.1)) (hp' := xW B q7.2) (pc := 7) rfl xr287 rfl rfl rfl (Nat.le_of_ble_eq_true rfl) (Z287_1022 H X h7 (by omega)) (Nat.le_refl _) ?_
  obtain ⟨c1, h⟩ := xif h
  obtain rfl := Option.some.inj h
  exact q_ri (q := (.ireturn, 1, 0, 0, .null)) rfl (fun _ => rfl) rfl (xnar_ok rfl c1)
set_option maxRecDepth 20000 in
theorem Z289_1022 {B : zHp} (H : yH0 B) (X : yTx B) {F : Nat} {a1 : Int32} {m : xS} {x : Int32 × xS} (h : D289_1022 F a1 m = some x) {d : Nat} (hd : 4 ≤ d) : zCan d 289 [.ref 1022, .int a1] (xW B m) (some (.int x.1), xW B x.2) := by
  obtain ⟨e, rfl⟩ : ∃ e, d = e + 1 := ⟨d - 1, by omega⟩
  refine zCan_body (nL := 2) (rt := (some .char)) (cd := zc289) (xg289) ⟨Nat.le_of_ble_eq_true rfl, by decide⟩ (Nat.le_refl _) ?_
  exact T289_1022 H X hd F rfl rfl h
/-- java/lang/String.charAt -/
def D282_1003 (F : Nat) (v1 : Int32) (m : xS) : Option (Int32 × xS) :=
  (D284_1003 F m).bind fun q1 =>
    if zcmp .eq q1.1 0 = true then
      (D289_1022 F v1 q1.2).bind fun q21 =>
        if (vp_nar .char q21.1 == q21.1) = true then
          some (q21.1, q21.2)
        else none
    else
      (D286_1022 F v1 q1.2).bind fun q12 =>
        if (vp_nar .char q12.1 == q12.1) = true then
          some (q12.1, q12.2)
        else none
set_option maxRecDepth 20000 in
theorem T282_1003 {B : zHp} (H : yH0 B) (X : yTx B) {e : Nat} (he : 5 ≤ e + 1) (F : Nat) {v1 : Int32} {lv : List (Nat × Value)} {m : xS} {x : Int32 × xS} (l0 : zld lv 0 = some (.ref 1003)) (l1 : zld lv 1 = some (.int v1)) (h : D282_1003 F v1 m = some x) : zR none e 2 (some .char) zc282 (0, lv, []) (xW B m) (some (.int x.1), xW B x.2) := by
  unfold D282_1003 at h
  refine q_lr (k := 1) (i := 0) (q := (.aload_n 0, 1, 0, 0, .null)) rfl (fun _ => rfl) l0 ?_
  obtain ⟨q1, h1, h⟩ := xbind h
  refine r_call (ix := 1003) (as := []) (rest := []) (rv := some (.int q1.1)) (hp' := xW B q1.2) (pc := 1) rfl xr284 rfl rfl rfl rfl (Nat.le_of_ble_eq_true rfl) (Z284_1003 H X h1 (by omega)) (Nat.le_refl _) ?_
  refine r_if (len := 3) (a := 16) (b := 0) (v0 := .null) (cn := .eq) (off := 12) rfl (fun c => ?_) (fun c => ?_)
  · rw [if_pos c] at h
    refine q_lr (k := 1) (i := 0) (q := (.aload_n 0, 1, 0, 0, .null)) rfl (fun _ => rfl) l0 ?_
    refine r_s (fr' := (20, lv, [.ref 1022])) (hp' := xW B q1.2) (q := (.getfield 9, 3, 100, 0, .null)) rfl (fun _ => rfl) (Nat.le_refl _) ?_
    refine q_li (k := 1) (i := 1) (q := (.iload_n 1, 1, 0, 0, .null)) rfl (fun _ => rfl) l1 ?_
    obtain ⟨q21, h21, h⟩ := xbind h
    refine r_callS (as := [.ref 1022, .int v1]) (rest := []) (rv := some (.int q21.1)) (hp' := xW B q21.2) (pc := 21) rfl xr289 rfl rfl rfl (Nat.le_of_ble_eq_true rfl) (Z289_1022 H X h21 (by omega)) (Nat.le_refl _) ?_
    obtain ⟨c1, h⟩ := xif h
    obtain rfl := Option.some.inj h
    exact q_ri (q := (.ireturn, 1, 0, 0, .null)) rfl (fun _ => rfl) rfl (xnar_ok rfl c1)
  · rw [if_neg (by rw [c]; decide)] at h
    refine q_lr (k := 1) (i := 0) (q := (.aload_n 0, 1, 0, 0, .null)) rfl (fun _ => rfl) l0 ?_
    refine r_s (fr' := (11, lv, [.ref 1022])) (hp' := xW B q1.2) (q := (.getfield 9, 3, 100, 0, .null)) rfl (fun _ => rfl) (Nat.le_refl _) ?_
    refine q_li (k := 1) (i := 1) (q := (.iload_n 1, 1, 0, 0, .null)) rfl (fun _ => rfl) l1 ?_
    obtain ⟨q12, h12, h⟩ := xbind h
    refine r_callS (as := [.ref 1022, .int v1]) (rest := []) (rv := some (.int q12.1)) (hp' := xW B q12.2) (pc := 12) rfl xr286 rfl rfl rfl (Nat.le_of_ble_eq_true rfl) (Z286_1022 H X h12 (by omega)) (Nat.le_refl _) ?_
    obtain ⟨c2, h⟩ := xif h
    obtain rfl := Option.some.inj h
    exact q_ri (q := (.ireturn, 1, 0, 0, .null)) rfl (fun _ => rfl) rfl (xnar_ok rfl c2)
set_option maxRecDepth 20000 in
theorem Z282_1003 {B : zHp} (H : yH0 B) (X : yTx B) {F : Nat} {a1 : Int32} {m : xS} {x : Int32 × xS} (h : D282_1003 F a1 m = some x) {d : Nat} (hd : 5 ≤ d) : zCan d 282 [.ref 1003, .int a1] (xW B m) (some (.int x.1), xW B x.2) := by
  obtain ⟨e, rfl⟩ : ∃ e, d = e + 1 := ⟨d - 1, by omega⟩
  refine zCan_body (nL := 2) (rt := (some .char)) (cd := zc282) (xg282) ⟨Nat.le_of_ble_eq_true rfl, by decide⟩ (Nat.le_refl _) ?_
  exact T282_1003 H X hd F rfl rfl h
/-- LentTools$Text.passWord -/
def D59_2_1003_138 (F : Nat) (g55 : Int32 → Int32 → Int32 → Int32 → xS → Option (Int32 × xS)) (v2 : Int32) (v3 : Int32) (v4 : Int32) (v5 : Int32) (m : xS) : Option (Int32 × xS) :=
  g55 v2 v3 v4 (v5 + Int32.ofInt 1) m
set_option maxRecDepth 20000 in
theorem T59_2_1003_138 {B : zHp} (H : yH0 B) (X : yTx B) {e : Nat} (he : 6 ≤ e + 1) (F : Nat) (g55 : Int32 → Int32 → Int32 → Int32 → xS → Option (Int32 × xS)) (k55 : ∀ {v2 : Int32} {v3 : Int32} {v4 : Int32} {v5 : Int32} {lv : List (Nat × Value)} {m : xS} {x : Int32 × xS}, zld lv 0 = some (.ref 2) → zld lv 1 = some (.ref 1003) → zld lv 2 = some (.int v2) → zld lv 3 = some (.int v3) → zld lv 4 = some (.int v4) → zld lv 5 = some (.int v5) → g55 v2 v3 v4 v5 m = some x → zR none e 6 (some .int) zc59 (55, lv, []) (xW B m) (some (.int x.1), xW B x.2)) {v2 : Int32} {v3 : Int32} {v4 : Int32} {v5 : Int32} {lv : List (Nat × Value)} {m : xS} {x : Int32 × xS} (l0 : zld lv 0 = some (.ref 2)) (l1 : zld lv 1 = some (.ref 1003)) (l2 : zld lv 2 = some (.int v2)) (l3 : zld lv 3 = some (.int v3)) (l4 : zld lv 4 = some (.int v4)) (l5 : zld lv 5 = some (.int v5)) (h : D59_2_1003_138 F g55 v2 v3 v4 v5 m = some x) : zR none e 6 (some .int) zc59 (138, lv, []) (xW B m) (some (.int x.1), xW B x.2) := by
  unfold D59_2_1003_138 at h
  refine q_inc (i := 5) (n := 1) (q := (.iinc 5 1, 3, 0, 0, .null)) rfl (fun _ => rfl) l5 (by decide) ?_
  have l0_1 : zld (zs1 lv 5 (.int (v5 + Int32.ofInt 1))) 0 = some (.ref 2) := x_o1 l0 rfl rfl
  have l1_1 : zld (zs1 lv 5 (.int (v5 + Int32.ofInt 1))) 1 = some (.ref 1003) := x_o1 l1 rfl rfl
  have l2_1 : zld (zs1 lv 5 (.int (v5 + Int32.ofInt 1))) 2 = some (.int v2) := x_o1 l2 rfl rfl
  have l3_1 : zld (zs1 lv 5 (.int (v5 + Int32.ofInt 1))) 3 = some (.int v3) := x_o1 l3 rfl rfl
  have l4_1 : zld (zs1 lv 5 (.int (v5 + Int32.ofInt 1))) 4 = some (.int v4) := x_o1 l4 rfl rfl
  have l5_1 : zld (zs1 lv 5 (.int (v5 + Int32.ofInt 1))) 5 = some (.int (v5 + Int32.ofInt 1)) := zs1_ld _ _ _
  generalize (zs1 lv 5 (.int (v5 + Int32.ofInt 1))) = lv1 at *
  refine r_s (fr' := (55, lv1, [])) (hp' := xW B m) (q := (.goto (-86), 3, 55, 0, .null)) rfl (fun _ => rfl) (Nat.le_refl _) ?_
  exact k55 l0_1 l1_1 l2_1 l3_1 l4_1 l5_1 h
def D59_2_1003_111 (F : Nat) (g55 : Int32 → Int32 → Int32 → Int32 → xS → Option (Int32 × xS)) (v2 : Int32) (v3 : Int32) (v4 : Int32) (v5 : Int32) (w0 : Int32) (m : xS) : Option (Int32 × xS) :=
  D59_2_1003_138 F g55 v2 v3 w0 v5 m
set_option maxRecDepth 20000 in
theorem T59_2_1003_111 {B : zHp} (H : yH0 B) (X : yTx B) {e : Nat} (he : 6 ≤ e + 1) (F : Nat) (g55 : Int32 → Int32 → Int32 → Int32 → xS → Option (Int32 × xS)) (k55 : ∀ {v2 : Int32} {v3 : Int32} {v4 : Int32} {v5 : Int32} {lv : List (Nat × Value)} {m : xS} {x : Int32 × xS}, zld lv 0 = some (.ref 2) → zld lv 1 = some (.ref 1003) → zld lv 2 = some (.int v2) → zld lv 3 = some (.int v3) → zld lv 4 = some (.int v4) → zld lv 5 = some (.int v5) → g55 v2 v3 v4 v5 m = some x → zR none e 6 (some .int) zc59 (55, lv, []) (xW B m) (some (.int x.1), xW B x.2)) {v2 : Int32} {v3 : Int32} {v4 : Int32} {v5 : Int32} {w0 : Int32} {lv : List (Nat × Value)} {m : xS} {x : Int32 × xS} (l0 : zld lv 0 = some (.ref 2)) (l1 : zld lv 1 = some (.ref 1003)) (l2 : zld lv 2 = some (.int v2)) (l3 : zld lv 3 = some (.int v3)) (l4 : zld lv 4 = some (.int v4)) (l5 : zld lv 5 = some (.int v5)) (h : D59_2_1003_111 F g55 v2 v3 v4 v5 w0 m = some x) : zR none e 6 (some .int) zc59 (111, lv, [.int w0]) (xW B m) (some (.int x.1), xW B x.2) := by
  unfold D59_2_1003_111 at h
  refine q_si (k := 2) (i := 4) (q := (.istore 4, 2, 0, 0, .null)) rfl (fun _ => rfl) (by decide) ?_
  have l0_1 : zld (zs1 lv 4 (.int w0)) 0 = some (.ref 2) := x_o1 l0 rfl rfl
  have l1_1 : zld (zs1 lv 4 (.int w0)) 1 = some (.ref 1003) := x_o1 l1 rfl rfl
  have l2_1 : zld (zs1 lv 4 (.int w0)) 2 = some (.int v2) := x_o1 l2 rfl rfl
  have l3_1 : zld (zs1 lv 4 (.int w0)) 3 = some (.int v3) := x_o1 l3 rfl rfl
  have l4_1 : zld (zs1 lv 4 (.int w0)) 4 = some (.int w0) := zs1_ld _ _ _
  have l5_1 : zld (zs1 lv 4 (.int w0)) 5 = some (.int v5) := x_o1 l5 rfl rfl
  generalize (zs1 lv 4 (.int w0)) = lv1 at *
  refine r_s (fr' := (138, lv1, [])) (hp' := xW B m) (q := (.goto 25, 3, 138, 0, .null)) rfl (fun _ => rfl) (Nat.le_refl _) ?_
  exact T59_2_1003_138 H X he F _ k55 l0_1 l1_1 l2_1 l3_1 l4_1 l5_1 h
def D59_2_1003_110 (F : Nat) (g55 : Int32 → Int32 → Int32 → Int32 → xS → Option (Int32 × xS)) (v2 : Int32) (v3 : Int32) (v4 : Int32) (v5 : Int32) (m : xS) : Option (Int32 × xS) :=
  D59_2_1003_111 F g55 v2 v3 v4 v5 (-1) m
set_option maxRecDepth 20000 in
theorem T59_2_1003_110 {B : zHp} (H : yH0 B) (X : yTx B) {e : Nat} (he : 6 ≤ e + 1) (F : Nat) (g55 : Int32 → Int32 → Int32 → Int32 → xS → Option (Int32 × xS)) (k55 : ∀ {v2 : Int32} {v3 : Int32} {v4 : Int32} {v5 : Int32} {lv : List (Nat × Value)} {m : xS} {x : Int32 × xS}, zld lv 0 = some (.ref 2) → zld lv 1 = some (.ref 1003) → zld lv 2 = some (.int v2) → zld lv 3 = some (.int v3) → zld lv 4 = some (.int v4) → zld lv 5 = some (.int v5) → g55 v2 v3 v4 v5 m = some x → zR none e 6 (some .int) zc59 (55, lv, []) (xW B m) (some (.int x.1), xW B x.2)) {v2 : Int32} {v3 : Int32} {v4 : Int32} {v5 : Int32} {lv : List (Nat × Value)} {m : xS} {x : Int32 × xS} (l0 : zld lv 0 = some (.ref 2)) (l1 : zld lv 1 = some (.ref 1003)) (l2 : zld lv 2 = some (.int v2)) (l3 : zld lv 3 = some (.int v3)) (l4 : zld lv 4 = some (.int v4)) (l5 : zld lv 5 = some (.int v5)) (h : D59_2_1003_110 F g55 v2 v3 v4 v5 m = some x) : zR none e 6 (some .int) zc59 (110, lv, []) (xW B m) (some (.int x.1), xW B x.2) := by
  unfold D59_2_1003_110 at h
  refine r_s (fr' := (111, lv, [.int (-1)])) (hp' := xW B m) (q := (.iconst (-1), 1, 0, 0, .null)) rfl (fun _ => rfl) (Nat.le_refl _) ?_
  exact T59_2_1003_111 H X he F _ k55 l0 l1 l2 l3 l4 l5 h
def D59_2_1003_55 (F : Nat) : Nat → Int32 → Int32 → Int32 → Int32 → xS → Option (Int32 × xS)
  | 0, _, _, _, _, _ => none
  | f + 1, v2, v3, v4, v5, m =>
    (D281_1003 F m).bind fun q58 =>
      if zcmp .ge v5 q58.1 = true then
        some ((-1), q58.2)
      else
        (D282_1003 F v5 q58.2).bind fun q67 =>
          if zcmp .eq q67.1 32 = true then
            if zcmp .ne v4 v2 = true then
              D59_2_1003_138 F (D59_2_1003_55 F f) v2 (v3 + Int32.ofInt 1) (q67.2.1 2 3) v5 q67.2
            else
              some (v3, (xu q67.2 2 2 v2))
          else
            if zcmp .eq v4 (-1) = true then
              D59_2_1003_110 F (D59_2_1003_55 F f) v2 v3 v4 v5 q67.2
            else
              if zcmp .ge v4 v2 = true then
                D59_2_1003_110 F (D59_2_1003_55 F f) v2 v3 v4 v5 q67.2
              else
                if xib v4 400 = true then
                  (D282_1003 F v5 q67.2).bind fun q97 =>
                    if zcmp .ne (q67.2.1 1 (v4 : Int32).toNatClampNeg) q97.1 = true then
                      D59_2_1003_110 F (D59_2_1003_55 F f) v2 v3 v4 v5 q97.2
                    else
                      D59_2_1003_111 F (D59_2_1003_55 F f) v2 v3 v4 v5 (v4 + 1) q97.2
                else none
set_option maxRecDepth 20000 in
theorem T59_2_1003_55 {B : zHp} (H : yH0 B) (X : yTx B) {e : Nat} (he : 6 ≤ e + 1) (F : Nat) : ∀ (f : Nat) {v2 : Int32} {v3 : Int32} {v4 : Int32} {v5 : Int32} {lv : List (Nat × Value)} {m : xS} {x : Int32 × xS}, zld lv 0 = some (.ref 2) → zld lv 1 = some (.ref 1003) → zld lv 2 = some (.int v2) → zld lv 3 = some (.int v3) → zld lv 4 = some (.int v4) → zld lv 5 = some (.int v5) → D59_2_1003_55 F f v2 v3 v4 v5 m = some x → zR none e 6 (some .int) zc59 (55, lv, []) (xW B m) (some (.int x.1), xW B x.2) := by
  intro f
  induction f with
  | zero => intro v2 v3 v4 v5 lv m x l0 l1 l2 l3 l4 l5 h; cases h
  | succ f ih =>
    intro v2 v3 v4 v5 lv m x l0 l1 l2 l3 l4 l5 h
    unfold D59_2_1003_55 at h
    refine q_li (k := 2) (i := 5) (q := (.iload 5, 2, 0, 0, .null)) rfl (fun _ => rfl) l5 ?_
    refine q_lr (k := 1) (i := 1) (q := (.aload_n 1, 1, 0, 0, .null)) rfl (fun _ => rfl) l1 ?_
    obtain ⟨q58, h58, h⟩ := xbind h
    refine r_call (ix := 1003) (as := []) (rest := [.int v5]) (rv := some (.int q58.1)) (hp' := xW B q58.2) (pc := 58) rfl xr281 rfl rfl rfl rfl (Nat.le_of_ble_eq_true rfl) (Z281_1003 H X h58 (by omega)) (Nat.le_refl _) ?_
    refine r_ifc (len := 3) (a := 144) (b := 0) (v0 := .null) (cn := .ge) (off := 83) rfl (fun c => ?_) (fun c => ?_)
    · rw [if_pos c] at h
      refine r_s (fr' := (145, lv, [.int (-1)])) (hp' := xW B q58.2) (q := (.iconst (-1), 1, 0, 0, .null)) rfl (fun _ => rfl) (Nat.le_refl _) ?_
      obtain rfl := Option.some.inj h
      exact q_ri (q := (.ireturn, 1, 0, 0, .null)) rfl (fun _ => rfl) rfl rfl
    · rw [if_neg (by rw [c]; decide)] at h
      refine q_lr (k := 1) (i := 1) (q := (.aload_n 1, 1, 0, 0, .null)) rfl (fun _ => rfl) l1 ?_
      refine q_li (k := 2) (i := 5) (q := (.iload 5, 2, 0, 0, .null)) rfl (fun _ => rfl) l5 ?_
      obtain ⟨q67, h67, h⟩ := xbind h
      refine r_call (ix := 1003) (as := [.int v5]) (rest := []) (rv := some (.int q67.1)) (hp' := xW B q67.2) (pc := 67) rfl xr282 rfl rfl rfl rfl (Nat.le_of_ble_eq_true rfl) (Z282_1003 H X h67 (by omega)) (Nat.le_refl _) ?_
      refine r_s (fr' := (72, lv, [.int 32, .int q67.1])) (hp' := xW B q67.2) (q := (.bipush 32, 2, 0, 0, .null)) rfl (fun _ => rfl) (Nat.le_refl _) ?_
      refine r_ifc (len := 3) (a := 116) (b := 0) (v0 := .null) (cn := .eq) (off := 44) rfl (fun c => ?_) (fun c => ?_)
      · rw [if_pos c] at h
        refine q_li (k := 2) (i := 4) (q := (.iload 4, 2, 0, 0, .null)) rfl (fun _ => rfl) l4 ?_
        refine q_li (k := 1) (i := 2) (q := (.iload_n 2, 1, 0, 0, .null)) rfl (fun _ => rfl) l2 ?_
        refine r_ifc (len := 3) (a := 129) (b := 0) (v0 := .null) (cn := .ne) (off := 10) rfl (fun c => ?_) (fun c => ?_)
        · rw [if_pos c] at h
          refine q_inc (i := 3) (n := 1) (q := (.iinc 3 1, 3, 0, 0, .null)) rfl (fun _ => rfl) l3 (by decide) ?_
          have l0_1 : zld (zs1 lv 3 (.int (v3 + Int32.ofInt 1))) 0 = some (.ref 2) := x_o1 l0 rfl rfl
          have l1_1 : zld (zs1 lv 3 (.int (v3 + Int32.ofInt 1))) 1 = some (.ref 1003) := x_o1 l1 rfl rfl
          have l2_1 : zld (zs1 lv 3 (.int (v3 + Int32.ofInt 1))) 2 = some (.int v2) := x_o1 l2 rfl rfl
          have l3_1 : zld (zs1 lv 3 (.int (v3 + Int32.ofInt 1))) 3 = some (.int (v3 + Int32.ofInt 1)) := zs1_ld _ _ _
          have l4_1 : zld (zs1 lv 3 (.int (v3 + Int32.ofInt 1))) 4 = some (.int v4) := x_o1 l4 rfl rfl
          have l5_1 : zld (zs1 lv 3 (.int (v3 + Int32.ofInt 1))) 5 = some (.int v5) := x_o1 l5 rfl rfl
          generalize (zs1 lv 3 (.int (v3 + Int32.ofInt 1))) = lv1 at *
          refine q_lr (k := 1) (i := 0) (q := (.aload_n 0, 1, 0, 0, .null)) rfl (fun _ => rfl) l0_1 ?_
          refine r_gi (v := (q67.2.1 2 3)) H (pc := 133) (i := _) rfl (by decide) (by decide) rfl ?_
          refine q_si (k := 2) (i := 4) (q := (.istore 4, 2, 0, 0, .null)) rfl (fun _ => rfl) (by decide) ?_
          have l0_2 : zld (zs1 lv1 4 (.int (q67.2.1 2 3))) 0 = some (.ref 2) := x_o1 l0_1 rfl rfl
          have l1_2 : zld (zs1 lv1 4 (.int (q67.2.1 2 3))) 1 = some (.ref 1003) := x_o1 l1_1 rfl rfl
          have l2_2 : zld (zs1 lv1 4 (.int (q67.2.1 2 3))) 2 = some (.int v2) := x_o1 l2_1 rfl rfl
          have l3_2 : zld (zs1 lv1 4 (.int (q67.2.1 2 3))) 3 = some (.int (v3 + Int32.ofInt 1)) := x_o1 l3_1 rfl rfl
          have l4_2 : zld (zs1 lv1 4 (.int (q67.2.1 2 3))) 4 = some (.int (q67.2.1 2 3)) := zs1_ld _ _ _
          have l5_2 : zld (zs1 lv1 4 (.int (q67.2.1 2 3))) 5 = some (.int v5) := x_o1 l5_1 rfl rfl
          generalize (zs1 lv1 4 (.int (q67.2.1 2 3))) = lv2 at *
          exact T59_2_1003_138 H X he F _ ih l0_2 l1_2 l2_2 l3_2 l4_2 l5_2 h
        · rw [if_neg (by rw [c]; decide)] at h
          refine q_lr (k := 1) (i := 0) (q := (.aload_n 0, 1, 0, 0, .null)) rfl (fun _ => rfl) l0 ?_
          refine q_li (k := 1) (i := 2) (q := (.iload_n 2, 1, 0, 0, .null)) rfl (fun _ => rfl) l2 ?_
          refine r_pi (s2 := (xu q67.2 2 2 v2)) H (pc := 124) rfl (by decide) rfl rfl ?_
          refine q_li (k := 1) (i := 3) (q := (.iload_n 3, 1, 0, 0, .null)) rfl (fun _ => rfl) l3 ?_
          obtain rfl := Option.some.inj h
          exact q_ri (q := (.ireturn, 1, 0, 0, .null)) rfl (fun _ => rfl) rfl rfl
      · rw [if_neg (by rw [c]; decide)] at h
        refine q_li (k := 2) (i := 4) (q := (.iload 4, 2, 0, 0, .null)) rfl (fun _ => rfl) l4 ?_
        refine r_s (fr' := (78, lv, [.int (-1), .int v4])) (hp' := xW B q67.2) (q := (.iconst (-1), 1, 0, 0, .null)) rfl (fun _ => rfl) (Nat.le_refl _) ?_
        refine r_ifc (len := 3) (a := 110) (b := 0) (v0 := .null) (cn := .eq) (off := 32) rfl (fun c => ?_) (fun c => ?_)
        · rw [if_pos c] at h
          exact T59_2_1003_110 H X he F _ ih l0 l1 l2 l3 l4 l5 h
        · rw [if_neg (by rw [c]; decide)] at h
          refine q_li (k := 2) (i := 4) (q := (.iload 4, 2, 0, 0, .null)) rfl (fun _ => rfl) l4 ?_
          refine q_li (k := 1) (i := 2) (q := (.iload_n 2, 1, 0, 0, .null)) rfl (fun _ => rfl) l2 ?_
          refine r_ifc (len := 3) (a := 110) (b := 0) (v0 := .null) (cn := .ge) (off := 26) rfl (fun c => ?_) (fun c => ?_)
          · rw [if_pos c] at h
            exact T59_2_1003_110 H X he F _ ih l0 l1 l2 l3 l4 l5 h
          · rw [if_neg (by rw [c]; decide)] at h
            refine q_lr (k := 1) (i := 0) (q := (.aload_n 0, 1, 0, 0, .null)) rfl (fun _ => rfl) l0 ?_
            refine r_grx H X (pc := 88) rfl ?_
            refine q_li (k := 2) (i := 4) (q := (.iload 4, 2, 0, 0, .null)) rfl (fun _ => rfl) l4 ?_
            obtain ⟨c3, h⟩ := xif h
            refine q_al (n := 400) (v := (q67.2.1 1 (v4 : Int32).toNatClampNeg)) H (pc := 93) rfl (by decide) c3 rfl ?_
            refine q_lr (k := 1) (i := 1) (q := (.aload_n 1, 1, 0, 0, .null)) rfl (fun _ => rfl) l1 ?_
            refine q_li (k := 2) (i := 5) (q := (.iload 5, 2, 0, 0, .null)) rfl (fun _ => rfl) l5 ?_
            obtain ⟨q97, h97, h⟩ := xbind h
            refine r_call (ix := 1003) (as := [.int v5]) (rest := [.int (q67.2.1 1 (v4 : Int32).toNatClampNeg)]) (rv := some (.int q97.1)) (hp' := xW B q97.2) (pc := 97) rfl xr282 rfl rfl rfl rfl (Nat.le_of_ble_eq_true rfl) (Z282_1003 H X h97 (by omega)) (Nat.le_refl _) ?_
            refine r_ifc (len := 3) (a := 110) (b := 0) (v0 := .null) (cn := .ne) (off := 10) rfl (fun c => ?_) (fun c => ?_)
            · rw [if_pos c] at h
              exact T59_2_1003_110 H X he F _ ih l0 l1 l2 l3 l4 l5 h
            · rw [if_neg (by rw [c]; decide)] at h
              refine q_li (k := 2) (i := 4) (q := (.iload 4, 2, 0, 0, .null)) rfl (fun _ => rfl) l4 ?_
              refine r_s (fr' := (106, lv, [.int 1, .int v4])) (hp' := xW B q97.2) (q := (.iconst 1, 1, 0, 0, .null)) rfl (fun _ => rfl) (Nat.le_refl _) ?_
              refine r_s (fr' := (107, lv, [.int (v4 + 1)])) (hp' := xW B q97.2) (q := (.iadd, 1, 0, 0, .null)) rfl (fun _ => rfl) (Nat.le_refl _) ?_
              refine r_s (fr' := (111, lv, [.int (v4 + 1)])) (hp' := xW B q97.2) (q := (.goto 4, 3, 111, 0, .null)) rfl (fun _ => rfl) (Nat.le_refl _) ?_
              exact T59_2_1003_111 H X he F _ ih l0 l1 l2 l3 l4 l5 h
def D59_2_1003_44 (F : Nat) (v2 : Int32) (m : xS) : Option (Int32 × xS) :=
  D59_2_1003_55 F F v2 0 (m.1 2 3) 0 m
set_option maxRecDepth 20000 in
theorem T59_2_1003_44 {B : zHp} (H : yH0 B) (X : yTx B) {e : Nat} (he : 6 ≤ e + 1) (F : Nat) {v2 : Int32} {lv : List (Nat × Value)} {m : xS} {x : Int32 × xS} (l0 : zld lv 0 = some (.ref 2)) (l1 : zld lv 1 = some (.ref 1003)) (l2 : zld lv 2 = some (.int v2)) (h : D59_2_1003_44 F v2 m = some x) : zR none e 6 (some .int) zc59 (44, lv, []) (xW B m) (some (.int x.1), xW B x.2) := by
  unfold D59_2_1003_44 at h
  refine r_s (fr' := (45, lv, [.int 0])) (hp' := xW B m) (q := (.iconst 0, 1, 0, 0, .null)) rfl (fun _ => rfl) (Nat.le_refl _) ?_
  refine q_si (k := 1) (i := 3) (q := (.istore_n 3, 1, 0, 0, .null)) rfl (fun _ => rfl) (by decide) ?_
  have l0_1 : zld (zs1 lv 3 (.int 0)) 0 = some (.ref 2) := x_o1 l0 rfl rfl
  have l1_1 : zld (zs1 lv 3 (.int 0)) 1 = some (.ref 1003) := x_o1 l1 rfl rfl
  have l2_1 : zld (zs1 lv 3 (.int 0)) 2 = some (.int v2) := x_o1 l2 rfl rfl
  have l3_1 : zld (zs1 lv 3 (.int 0)) 3 = some (.int 0) := zs1_ld _ _ _
  generalize (zs1 lv 3 (.int 0)) = lv1 at *
  refine q_lr (k := 1) (i := 0) (q := (.aload_n 0, 1, 0, 0, .null)) rfl (fun _ => rfl) l0_1 ?_
  refine r_gi (v := (m.1 2 3)) H (pc := 47) (i := _) rfl (by decide) (by decide) rfl ?_
  refine q_si (k := 2) (i := 4) (q := (.istore 4, 2, 0, 0, .null)) rfl (fun _ => rfl) (by decide) ?_
  have l0_2 : zld (zs1 lv1 4 (.int (m.1 2 3))) 0 = some (.ref 2) := x_o1 l0_1 rfl rfl
  have l1_2 : zld (zs1 lv1 4 (.int (m.1 2 3))) 1 = some (.ref 1003) := x_o1 l1_1 rfl rfl
  have l2_2 : zld (zs1 lv1 4 (.int (m.1 2 3))) 2 = some (.int v2) := x_o1 l2_1 rfl rfl
  have l3_2 : zld (zs1 lv1 4 (.int (m.1 2 3))) 3 = some (.int 0) := x_o1 l3_1 rfl rfl
  have l4_2 : zld (zs1 lv1 4 (.int (m.1 2 3))) 4 = some (.int (m.1 2 3)) := zs1_ld _ _ _
  generalize (zs1 lv1 4 (.int (m.1 2 3))) = lv2 at *
  refine r_s (fr' := (53, lv2, [.int 0])) (hp' := xW B m) (q := (.iconst 0, 1, 0, 0, .null)) rfl (fun _ => rfl) (Nat.le_refl _) ?_
  refine q_si (k := 2) (i := 5) (q := (.istore 5, 2, 0, 0, .null)) rfl (fun _ => rfl) (by decide) ?_
  have l0_3 : zld (zs1 lv2 5 (.int 0)) 0 = some (.ref 2) := x_o1 l0_2 rfl rfl
  have l1_3 : zld (zs1 lv2 5 (.int 0)) 1 = some (.ref 1003) := x_o1 l1_2 rfl rfl
  have l2_3 : zld (zs1 lv2 5 (.int 0)) 2 = some (.int v2) := x_o1 l2_2 rfl rfl
  have l3_3 : zld (zs1 lv2 5 (.int 0)) 3 = some (.int 0) := x_o1 l3_2 rfl rfl
  have l4_3 : zld (zs1 lv2 5 (.int 0)) 4 = some (.int (m.1 2 3)) := x_o1 l4_2 rfl rfl
  have l5_3 : zld (zs1 lv2 5 (.int 0)) 5 = some (.int 0) := zs1_ld _ _ _
  generalize (zs1 lv2 5 (.int 0)) = lv3 at *
  exact T59_2_1003_55 H X he F F l0_3 l1_3 l2_3 l3_3 l4_3 l5_3 h
def D59_2_1003_18 (F : Nat) : Nat → Int32 → xS → Option (Int32 × xS)
  | 0, _, _ => none
  | f + 1, v2, m =>
    if zcmp .ge v2 (m.1 2 1) = true then
      D59_2_1003_44 F v2 m
    else
      if xib v2 400 = true then
        (D57 F (m.1 1 (v2 : Int32).toNatClampNeg) m).bind fun q32 =>
          if zcmp .eq q32.1 0 = true then
            D59_2_1003_44 F v2 q32.2
          else
            D59_2_1003_18 F f (v2 + Int32.ofInt 1) q32.2
      else none
set_option maxRecDepth 20000 in
theorem T59_2_1003_18 {B : zHp} (H : yH0 B) (X : yTx B) {e : Nat} (he : 6 ≤ e + 1) (F : Nat) : ∀ (f : Nat) {v2 : Int32} {lv : List (Nat × Value)} {m : xS} {x : Int32 × xS}, zld lv 0 = some (.ref 2) → zld lv 1 = some (.ref 1003) → zld lv 2 = some (.int v2) → D59_2_1003_18 F f v2 m = some x → zR none e 6 (some .int) zc59 (18, lv, []) (xW B m) (some (.int x.1), xW B x.2) := by
  intro f
  induction f with
  | zero => intro v2 lv m x l0 l1 l2 h; cases h
  | succ f ih =>
    intro v2 lv m x l0 l1 l2 h
    unfold D59_2_1003_18 at h
    refine q_li (k := 1) (i := 2) (q := (.iload_n 2, 1, 0, 0, .null)) rfl (fun _ => rfl) l2 ?_
    refine q_lr (k := 1) (i := 0) (q := (.aload_n 0, 1, 0, 0, .null)) rfl (fun _ => rfl) l0 ?_
    refine r_gi (v := (m.1 2 1)) H (pc := 20) (i := _) rfl (by decide) (by decide) rfl ?_
    refine r_ifc (len := 3) (a := 44) (b := 0) (v0 := .null) (cn := .ge) (off := 21) rfl (fun c => ?_) (fun c => ?_)
    · rw [if_pos c] at h
      exact T59_2_1003_44 H X he F l0 l1 l2 h
    · rw [if_neg (by rw [c]; decide)] at h
      refine q_lr (k := 1) (i := 0) (q := (.aload_n 0, 1, 0, 0, .null)) rfl (fun _ => rfl) l0 ?_
      refine r_grx H X (pc := 27) rfl ?_
      refine q_li (k := 1) (i := 2) (q := (.iload_n 2, 1, 0, 0, .null)) rfl (fun _ => rfl) l2 ?_
      obtain ⟨c1, h⟩ := xif h
      refine q_al (n := 400) (v := (m.1 1 (v2 : Int32).toNatClampNeg)) H (pc := 31) rfl (by decide) c1 rfl ?_
      obtain ⟨q32, h32, h⟩ := xbind h
      refine r_callS (as := [.int (m.1 1 (v2 : Int32).toNatClampNeg)]) (rest := []) (rv := some (.int q32.1)) (hp' := xW B q32.2) (pc := 32) rfl xr57 rfl rfl rfl (Nat.le_of_ble_eq_true rfl) (Z57 H X h32 (by omega)) (Nat.le_refl _) ?_
      refine r_if (len := 3) (a := 44) (b := 0) (v0 := .null) (cn := .eq) (off := 9) rfl (fun c => ?_) (fun c => ?_)
      · rw [if_pos c] at h
        exact T59_2_1003_44 H X he F l0 l1 l2 h
      · rw [if_neg (by rw [c]; decide)] at h
        refine q_inc (i := 2) (n := 1) (q := (.iinc 2 1, 3, 0, 0, .null)) rfl (fun _ => rfl) l2 (by decide) ?_
        have l0_2 : zld (zs1 lv 2 (.int (v2 + Int32.ofInt 1))) 0 = some (.ref 2) := x_o1 l0 rfl rfl
        have l1_2 : zld (zs1 lv 2 (.int (v2 + Int32.ofInt 1))) 1 = some (.ref 1003) := x_o1 l1 rfl rfl
        have l2_2 : zld (zs1 lv 2 (.int (v2 + Int32.ofInt 1))) 2 = some (.int (v2 + Int32.ofInt 1)) := zs1_ld _ _ _
        generalize (zs1 lv 2 (.int (v2 + Int32.ofInt 1))) = lv2 at *
        refine r_s (fr' := (18, lv2, [])) (hp' := xW B q32.2) (q := (.goto (-23), 3, 18, 0, .null)) rfl (fun _ => rfl) (Nat.le_refl _) ?_
        exact ih l0_2 l1_2 l2_2 h
def D59_2_1003 (F : Nat) (m : xS) : Option (Int32 × xS) :=
  (D53_2 F m).bind fun q1 =>
    D59_2_1003_18 F F (q1.2.1 2 2) (xu q1.2 2 3 (q1.2.1 2 2))
set_option maxRecDepth 20000 in
theorem T59_2_1003 {B : zHp} (H : yH0 B) (X : yTx B) {e : Nat} (he : 6 ≤ e + 1) (F : Nat) {lv : List (Nat × Value)} {m : xS} {x : Int32 × xS} (l0 : zld lv 0 = some (.ref 2)) (l1 : zld lv 1 = some (.ref 1003)) (h : D59_2_1003 F m = some x) : zR none e 6 (some .int) zc59 (0, lv, []) (xW B m) (some (.int x.1), xW B x.2) := by
  unfold D59_2_1003 at h
  refine q_lr (k := 1) (i := 0) (q := (.aload_n 0, 1, 0, 0, .null)) rfl (fun _ => rfl) l0 ?_
  obtain ⟨q1, h1, h⟩ := xbind h
  refine r_call (ix := 2) (as := []) (rest := []) (rv := some (.int q1.1)) (hp' := xW B q1.2) (pc := 1) rfl xr53 rfl rfl rfl (xkd H (by decide)) (Nat.le_of_ble_eq_true rfl) (Z53_2 H X h1 (by omega)) (Nat.le_refl _) ?_
  refine r_s (fr' := (5, lv, [])) (hp' := xW B q1.2) (q := (.pop, 1, 0, 0, .null)) rfl (fun _ => rfl) (Nat.le_refl _) ?_
  refine q_lr (k := 1) (i := 0) (q := (.aload_n 0, 1, 0, 0, .null)) rfl (fun _ => rfl) l0 ?_
  refine q_lr (k := 1) (i := 0) (q := (.aload_n 0, 1, 0, 0, .null)) rfl (fun _ => rfl) l0 ?_
  refine r_gi (v := (q1.2.1 2 2)) H (pc := 7) (i := _) rfl (by decide) (by decide) rfl ?_
  refine r_pi (s2 := (xu q1.2 2 3 (q1.2.1 2 2))) H (pc := 10) rfl (by decide) rfl rfl ?_
  refine q_lr (k := 1) (i := 0) (q := (.aload_n 0, 1, 0, 0, .null)) rfl (fun _ => rfl) l0 ?_
  refine r_gi (v := (q1.2.1 2 2)) H (pc := 14) (i := _) rfl (by decide) (by decide) rfl ?_
  refine q_si (k := 1) (i := 2) (q := (.istore_n 2, 1, 0, 0, .null)) rfl (fun _ => rfl) (by decide) ?_
  have l0_1 : zld (zs1 lv 2 (.int (q1.2.1 2 2))) 0 = some (.ref 2) := x_o1 l0 rfl rfl
  have l1_1 : zld (zs1 lv 2 (.int (q1.2.1 2 2))) 1 = some (.ref 1003) := x_o1 l1 rfl rfl
  have l2_1 : zld (zs1 lv 2 (.int (q1.2.1 2 2))) 2 = some (.int (q1.2.1 2 2)) := zs1_ld _ _ _
  generalize (zs1 lv 2 (.int (q1.2.1 2 2))) = lv1 at *
  exact T59_2_1003_18 H X he F F l0_1 l1_1 l2_1 h
set_option maxRecDepth 20000 in
theorem Z59_2_1003 {B : zHp} (H : yH0 B) (X : yTx B) {F : Nat} {m : xS} {x : Int32 × xS} (h : D59_2_1003 F m = some x) {d : Nat} (hd : 6 ≤ d) : zCan d 59 [.ref 2, .ref 1003] (xW B m) (some (.int x.1), xW B x.2) := by
  obtain ⟨e, rfl⟩ : ∃ e, d = e + 1 := ⟨d - 1, by omega⟩
  refine zCan_body (nL := 6) (rt := (some .int)) (cd := zc59) (xg59) ⟨Nat.le_of_ble_eq_true rfl, by decide⟩ (Nat.le_refl _) ?_
  exact T59_2_1003 H X hd F rfl rfl h
/-- LentTools$Text.isDigit -/
def D56_16 (F : Nat) (v0 : Int32) (m : xS) : Option (Int32 × xS) :=
  some (0, m)
set_option maxRecDepth 20000 in
theorem T56_16 {B : zHp} (H : yH0 B) (X : yTx B) {e : Nat} (he : 1 ≤ e + 1) (F : Nat) {v0 : Int32} {lv : List (Nat × Value)} {m : xS} {x : Int32 × xS} (l0 : zld lv 0 = some (.int v0)) (h : D56_16 F v0 m = some x) : zR none e 1 (some .boolean) zc56 (16, lv, []) (xW B m) (some (.int x.1), xW B x.2) := by
  unfold D56_16 at h
  refine r_s (fr' := (17, lv, [.int 0])) (hp' := xW B m) (q := (.iconst 0, 1, 0, 0, .null)) rfl (fun _ => rfl) (Nat.le_refl _) ?_
  obtain rfl := Option.some.inj h
  exact q_ri (q := (.ireturn, 1, 0, 0, .null)) rfl (fun _ => rfl) rfl rfl
def D56 (F : Nat) (v0 : Int32) (m : xS) : Option (Int32 × xS) :=
  if zcmp .lt v0 48 = true then
    D56_16 F v0 m
  else
    if zcmp .gt v0 57 = true then
      D56_16 F v0 m
    else
      some (1, m)
set_option maxRecDepth 20000 in
theorem T56 {B : zHp} (H : yH0 B) (X : yTx B) {e : Nat} (he : 1 ≤ e + 1) (F : Nat) {v0 : Int32} {lv : List (Nat × Value)} {m : xS} {x : Int32 × xS} (l0 : zld lv 0 = some (.int v0)) (h : D56 F v0 m = some x) : zR none e 1 (some .boolean) zc56 (0, lv, []) (xW B m) (some (.int x.1), xW B x.2) := by
  unfold D56 at h
  refine q_li (k := 1) (i := 0) (q := (.iload_n 0, 1, 0, 0, .null)) rfl (fun _ => rfl) l0 ?_
  refine r_s (fr' := (3, lv, [.int 48, .int v0])) (hp' := xW B m) (q := (.bipush 48, 2, 0, 0, .null)) rfl (fun _ => rfl) (Nat.le_refl _) ?_
  refine r_ifc (len := 3) (a := 16) (b := 0) (v0 := .null) (cn := .lt) (off := 13) rfl (fun c => ?_) (fun c => ?_)
  · rw [if_pos c] at h
    exact T56_16 H X he F l0 h
  · rw [if_neg (by rw [c]; decide)] at h
    refine q_li (k := 1) (i := 0) (q := (.iload_n 0, 1, 0, 0, .null)) rfl (fun _ => rfl) l0 ?_
    refine r_s (fr' := (9, lv, [.int 57, .int v0])) (hp' := xW B m) (q := (.bipush 57, 2, 0, 0, .null)) rfl (fun _ => rfl) (Nat.le_refl _) ?_
    refine r_ifc (len := 3) (a := 16) (b := 0) (v0 := .null) (cn := .gt) (off := 7) rfl (fun c => ?_) (fun c => ?_)
    · rw [if_pos c] at h
      exact T56_16 H X he F l0 h
    · rw [if_neg (by rw [c]; decide)] at h
      refine r_s (fr' := (13, lv, [.int 1])) (hp' := xW B m) (q := (.iconst 1, 1, 0, 0, .null)) rfl (fun _ => rfl) (Nat.le_refl _) ?_
      refine r_s (fr' := (17, lv, [.int 1])) (hp' := xW B m) (q := (.goto 4, 3, 17, 0, .null)) rfl (fun _ => rfl) (Nat.le_refl _) ?_
      obtain rfl := Option.some.inj h
      exact q_ri (q := (.ireturn, 1, 0, 0, .null)) rfl (fun _ => rfl) rfl rfl
set_option maxRecDepth 20000 in
theorem Z56 {B : zHp} (H : yH0 B) (X : yTx B) {F : Nat} {a0 : Int32} {m : xS} {x : Int32 × xS} (h : D56 F a0 m = some x) {d : Nat} (hd : 1 ≤ d) : zCan d 56 [.int a0] (xW B m) (some (.int x.1), xW B x.2) := by
  obtain ⟨e, rfl⟩ : ∃ e, d = e + 1 := ⟨d - 1, by omega⟩
  refine zCan_body (nL := 1) (rt := (some .boolean)) (cd := zc56) (xg56) ⟨Nat.le_of_ble_eq_true rfl, by decide⟩ (Nat.le_refl _) ?_
  exact T56 H X hd F rfl h
/-- LentTools$Text.numeral -/
def D58_2_72 (F : Nat) (g15 : Int32 → Int32 → Int32 → xS → Option (Int32 × xS)) (v1 : Int32) (v2 : Int32) (v3 : Int32) (m : xS) : Option (Int32 × xS) :=
  g15 v1 v2 v3 (xu m 2 2 ((m.1 2 2) + 1))
set_option maxRecDepth 20000 in
theorem T58_2_72 {B : zHp} (H : yH0 B) (X : yTx B) {e : Nat} (he : 2 ≤ e + 1) (F : Nat) (g15 : Int32 → Int32 → Int32 → xS → Option (Int32 × xS)) (k15 : ∀ {v1 : Int32} {v2 : Int32} {v3 : Int32} {lv : List (Nat × Value)} {m : xS} {x : Int32 × xS}, zld lv 0 = some (.ref 2) → zld lv 1 = some (.int v1) → zld lv 2 = some (.int v2) → zld lv 3 = some (.int v3) → g15 v1 v2 v3 m = some x → zR none e 4 (some .int) zc58 (15, lv, []) (xW B m) (some (.int x.1), xW B x.2)) {v1 : Int32} {v2 : Int32} {v3 : Int32} {lv : List (Nat × Value)} {m : xS} {x : Int32 × xS} (l0 : zld lv 0 = some (.ref 2)) (l1 : zld lv 1 = some (.int v1)) (l2 : zld lv 2 = some (.int v2)) (l3 : zld lv 3 = some (.int v3)) (h : D58_2_72 F g15 v1 v2 v3 m = some x) : zR none e 4 (some .int) zc58 (72, lv, []) (xW B m) (some (.int x.1), xW B x.2) := by
  unfold D58_2_72 at h
  refine q_lr (k := 1) (i := 0) (q := (.aload_n 0, 1, 0, 0, .null)) rfl (fun _ => rfl) l0 ?_
  refine r_s (fr' := (74, lv, [.ref 2, .ref 2])) (hp' := xW B m) (q := (.dup, 1, 0, 0, .null)) rfl (fun _ => rfl) (Nat.le_refl _) ?_
  refine r_gi (v := (m.1 2 2)) H (pc := 74) (i := _) rfl (by decide) (by decide) rfl ?_
  refine r_s (fr' := (78, lv, [.int 1, .int (m.1 2 2), .ref 2])) (hp' := xW B m) (q := (.iconst 1, 1, 0, 0, .null)) rfl (fun _ => rfl) (Nat.le_refl _) ?_
  refine r_s (fr' := (79, lv, [.int ((m.1 2 2) + 1), .ref 2])) (hp' := xW B m) (q := (.iadd, 1, 0, 0, .null)) rfl (fun _ => rfl) (Nat.le_refl _) ?_
  refine r_pi (s2 := (xu m 2 2 ((m.1 2 2) + 1))) H (pc := 79) rfl (by decide) rfl rfl ?_
  refine r_s (fr' := (15, lv, [])) (hp' := xW B (xu m 2 2 ((m.1 2 2) + 1))) (q := (.goto (-67), 3, 15, 0, .null)) rfl (fun _ => rfl) (Nat.le_refl _) ?_
  exact k15 l0 l1 l2 l3 h
def D58_2_140 (F : Nat) (v1 : Int32) (v2 : Int32) (v3 : Int32) (m : xS) : Option (Int32 × xS) :=
  some (v3, m)
set_option maxRecDepth 20000 in
theorem T58_2_140 {B : zHp} (H : yH0 B) (X : yTx B) {e : Nat} (he : 2 ≤ e + 1) (F : Nat) {v1 : Int32} {v2 : Int32} {v3 : Int32} {lv : List (Nat × Value)} {m : xS} {x : Int32 × xS} (l0 : zld lv 0 = some (.ref 2)) (l1 : zld lv 1 = some (.int v1)) (l2 : zld lv 2 = some (.int v2)) (l3 : zld lv 3 = some (.int v3)) (h : D58_2_140 F v1 v2 v3 m = some x) : zR none e 4 (some .int) zc58 (140, lv, []) (xW B m) (some (.int x.1), xW B x.2) := by
  unfold D58_2_140 at h
  refine q_li (k := 1) (i := 3) (q := (.iload_n 3, 1, 0, 0, .null)) rfl (fun _ => rfl) l3 ?_
  obtain rfl := Option.some.inj h
  exact q_ri (q := (.ireturn, 1, 0, 0, .null)) rfl (fun _ => rfl) rfl rfl
def D58_2_131 (F : Nat) (v1 : Int32) (v2 : Int32) (v3 : Int32) (m : xS) : Option (Int32 × xS) :=
  (D52_2 F (m.1 2 3) 1 m).bind fun q137 =>
    D58_2_140 F v1 v2 v3 q137.2
set_option maxRecDepth 20000 in
theorem T58_2_131 {B : zHp} (H : yH0 B) (X : yTx B) {e : Nat} (he : 2 ≤ e + 1) (F : Nat) {v1 : Int32} {v2 : Int32} {v3 : Int32} {lv : List (Nat × Value)} {m : xS} {x : Int32 × xS} (l0 : zld lv 0 = some (.ref 2)) (l1 : zld lv 1 = some (.int v1)) (l2 : zld lv 2 = some (.int v2)) (l3 : zld lv 3 = some (.int v3)) (h : D58_2_131 F v1 v2 v3 m = some x) : zR none e 4 (some .int) zc58 (131, lv, []) (xW B m) (some (.int x.1), xW B x.2) := by
  unfold D58_2_131 at h
  refine q_lr (k := 1) (i := 0) (q := (.aload_n 0, 1, 0, 0, .null)) rfl (fun _ => rfl) l0 ?_
  refine q_lr (k := 1) (i := 0) (q := (.aload_n 0, 1, 0, 0, .null)) rfl (fun _ => rfl) l0 ?_
  refine r_gi (v := (m.1 2 3)) H (pc := 133) (i := _) rfl (by decide) (by decide) rfl ?_
  refine r_s (fr' := (137, lv, [.int 1, .int (m.1 2 3), .ref 2])) (hp' := xW B m) (q := (.iconst 1, 1, 0, 0, .null)) rfl (fun _ => rfl) (Nat.le_refl _) ?_
  obtain ⟨q137, h137, h⟩ := xbind h
  refine r_call (ix := 2) (as := [.int (m.1 2 3), .int 1]) (rest := []) (rv := none) (hp' := xW B q137.2) (pc := 137) rfl xr52 rfl rfl rfl (xkd H (by decide)) (Nat.le_of_ble_eq_true rfl) (Z52_2 H X h137 (by omega)) (Nat.le_refl _) ?_
  exact T58_2_140 H X he F l0 l1 l2 l3 h
def D58_2_85 (F : Nat) (v1 : Int32) (v2 : Int32) (v3 : Int32) (m : xS) : Option (Int32 × xS) :=
  if zcmp .ne (m.1 2 2) (m.1 2 3) = true then
    if zcmp .gt ((m.1 2 2) - (m.1 2 3)) 5 = true then
      D58_2_131 F v1 v2 v3 m
    else
      if zcmp .lt v3 v1 = true then
        D58_2_131 F v1 v2 v3 m
      else
        if zcmp .le v3 v2 = true then
          D58_2_140 F v1 v2 v3 m
        else
          D58_2_131 F v1 v2 v3 m
  else
    (D52_2 F (m.1 2 3) 0 m).bind fun q102 =>
      D58_2_140 F v1 v2 v3 q102.2
set_option maxRecDepth 20000 in
theorem T58_2_85 {B : zHp} (H : yH0 B) (X : yTx B) {e : Nat} (he : 2 ≤ e + 1) (F : Nat) {v1 : Int32} {v2 : Int32} {v3 : Int32} {lv : List (Nat × Value)} {m : xS} {x : Int32 × xS} (l0 : zld lv 0 = some (.ref 2)) (l1 : zld lv 1 = some (.int v1)) (l2 : zld lv 2 = some (.int v2)) (l3 : zld lv 3 = some (.int v3)) (h : D58_2_85 F v1 v2 v3 m = some x) : zR none e 4 (some .int) zc58 (85, lv, []) (xW B m) (some (.int x.1), xW B x.2) := by
  unfold D58_2_85 at h
  refine q_lr (k := 1) (i := 0) (q := (.aload_n 0, 1, 0, 0, .null)) rfl (fun _ => rfl) l0 ?_
  refine r_gi (v := (m.1 2 2)) H (pc := 86) (i := _) rfl (by decide) (by decide) rfl ?_
  refine q_lr (k := 1) (i := 0) (q := (.aload_n 0, 1, 0, 0, .null)) rfl (fun _ => rfl) l0 ?_
  refine r_gi (v := (m.1 2 3)) H (pc := 90) (i := _) rfl (by decide) (by decide) rfl ?_
  refine r_ifc (len := 3) (a := 108) (b := 0) (v0 := .null) (cn := .ne) (off := 15) rfl (fun c => ?_) (fun c => ?_)
  · rw [if_pos c] at h
    refine q_lr (k := 1) (i := 0) (q := (.aload_n 0, 1, 0, 0, .null)) rfl (fun _ => rfl) l0 ?_
    refine r_gi (v := (m.1 2 2)) H (pc := 109) (i := _) rfl (by decide) (by decide) rfl ?_
    refine q_lr (k := 1) (i := 0) (q := (.aload_n 0, 1, 0, 0, .null)) rfl (fun _ => rfl) l0 ?_
    refine r_gi (v := (m.1 2 3)) H (pc := 113) (i := _) rfl (by decide) (by decide) rfl ?_
    refine r_s (fr' := (117, lv, [.int ((m.1 2 2) - (m.1 2 3))])) (hp' := xW B m) (q := (.isub, 1, 0, 0, .null)) rfl (fun _ => rfl) (Nat.le_refl _) ?_
    refine r_s (fr' := (118, lv, [.int 5, .int ((m.1 2 2) - (m.1 2 3))])) (hp' := xW B m) (q := (.iconst 5, 1, 0, 0, .null)) rfl (fun _ => rfl) (Nat.le_refl _) ?_
    refine r_ifc (len := 3) (a := 131) (b := 0) (v0 := .null) (cn := .gt) (off := 13) rfl (fun c => ?_) (fun c => ?_)
    · rw [if_pos c] at h
      exact T58_2_131 H X he F l0 l1 l2 l3 h
    · rw [if_neg (by rw [c]; decide)] at h
      refine q_li (k := 1) (i := 3) (q := (.iload_n 3, 1, 0, 0, .null)) rfl (fun _ => rfl) l3 ?_
      refine q_li (k := 1) (i := 1) (q := (.iload_n 1, 1, 0, 0, .null)) rfl (fun _ => rfl) l1 ?_
      refine r_ifc (len := 3) (a := 131) (b := 0) (v0 := .null) (cn := .lt) (off := 8) rfl (fun c => ?_) (fun c => ?_)
      · rw [if_pos c] at h
        exact T58_2_131 H X he F l0 l1 l2 l3 h
      · rw [if_neg (by rw [c]; decide)] at h
        refine q_li (k := 1) (i := 3) (q := (.iload_n 3, 1, 0, 0, .null)) rfl (fun _ => rfl) l3 ?_
        refine q_li (k := 1) (i := 2) (q := (.iload_n 2, 1, 0, 0, .null)) rfl (fun _ => rfl) l2 ?_
        refine r_ifc (len := 3) (a := 140) (b := 0) (v0 := .null) (cn := .le) (off := 12) rfl (fun c => ?_) (fun c => ?_)
        · rw [if_pos c] at h
          exact T58_2_140 H X he F l0 l1 l2 l3 h
        · rw [if_neg (by rw [c]; decide)] at h
          exact T58_2_131 H X he F l0 l1 l2 l3 h
  · rw [if_neg (by rw [c]; decide)] at h
    refine q_lr (k := 1) (i := 0) (q := (.aload_n 0, 1, 0, 0, .null)) rfl (fun _ => rfl) l0 ?_
    refine q_lr (k := 1) (i := 0) (q := (.aload_n 0, 1, 0, 0, .null)) rfl (fun _ => rfl) l0 ?_
    refine r_gi (v := (m.1 2 3)) H (pc := 98) (i := _) rfl (by decide) (by decide) rfl ?_
    refine r_s (fr' := (102, lv, [.int 0, .int (m.1 2 3), .ref 2])) (hp' := xW B m) (q := (.iconst 0, 1, 0, 0, .null)) rfl (fun _ => rfl) (Nat.le_refl _) ?_
    obtain ⟨q102, h102, h⟩ := xbind h
    refine r_call (ix := 2) (as := [.int (m.1 2 3), .int 0]) (rest := []) (rv := none) (hp' := xW B q102.2) (pc := 102) rfl xr52 rfl rfl rfl (xkd H (by decide)) (Nat.le_of_ble_eq_true rfl) (Z52_2 H X h102 (by omega)) (Nat.le_refl _) ?_
    refine r_s (fr' := (140, lv, [])) (hp' := xW B q102.2) (q := (.goto 35, 3, 140, 0, .null)) rfl (fun _ => rfl) (Nat.le_refl _) ?_
    exact T58_2_140 H X he F l0 l1 l2 l3 h
def D58_2_15 (F : Nat) : Nat → Int32 → Int32 → Int32 → xS → Option (Int32 × xS)
  | 0, _, _, _, _ => none
  | f + 1, v1, v2, v3, m =>
    if zcmp .ge (m.1 2 2) (m.1 2 1) = true then
      D58_2_85 F v1 v2 v3 m
    else
      if xib (m.1 2 2) 400 = true then
        (D56 F (m.1 1 ((m.1 2 2) : Int32).toNatClampNeg) m).bind fun q35 =>
          if zcmp .eq q35.1 0 = true then
            D58_2_85 F v1 v2 v3 q35.2
          else
            if zcmp .ge ((q35.2.1 2 2) - (q35.2.1 2 3)) 5 = true then
              D58_2_72 F (D58_2_15 F f) v1 v2 v3 q35.2
            else
              if xib (q35.2.1 2 2) 400 = true then
                D58_2_72 F (D58_2_15 F f) v1 v2 (((10 * v3) + (q35.2.1 1 ((q35.2.1 2 2) : Int32).toNatClampNeg)) - 48) q35.2
              else none
      else none
set_option maxRecDepth 20000 in
theorem T58_2_15 {B : zHp} (H : yH0 B) (X : yTx B) {e : Nat} (he : 2 ≤ e + 1) (F : Nat) : ∀ (f : Nat) {v1 : Int32} {v2 : Int32} {v3 : Int32} {lv : List (Nat × Value)} {m : xS} {x : Int32 × xS}, zld lv 0 = some (.ref 2) → zld lv 1 = some (.int v1) → zld lv 2 = some (.int v2) → zld lv 3 = some (.int v3) → D58_2_15 F f v1 v2 v3 m = some x → zR none e 4 (some .int) zc58 (15, lv, []) (xW B m) (some (.int x.1), xW B x.2) := by
  intro f
  induction f with
  | zero => intro v1 v2 v3 lv m x l0 l1 l2 l3 h; cases h
  | succ f ih =>
    intro v1 v2 v3 lv m x l0 l1 l2 l3 h
    unfold D58_2_15 at h
    refine q_lr (k := 1) (i := 0) (q := (.aload_n 0, 1, 0, 0, .null)) rfl (fun _ => rfl) l0 ?_
    refine r_gi (v := (m.1 2 2)) H (pc := 16) (i := _) rfl (by decide) (by decide) rfl ?_
    refine q_lr (k := 1) (i := 0) (q := (.aload_n 0, 1, 0, 0, .null)) rfl (fun _ => rfl) l0 ?_
    refine r_gi (v := (m.1 2 1)) H (pc := 20) (i := _) rfl (by decide) (by decide) rfl ?_
    refine r_ifc (len := 3) (a := 85) (b := 0) (v0 := .null) (cn := .ge) (off := 62) rfl (fun c => ?_) (fun c => ?_)
    · rw [if_pos c] at h
      exact T58_2_85 H X he F l0 l1 l2 l3 h
    · rw [if_neg (by rw [c]; decide)] at h
      refine q_lr (k := 1) (i := 0) (q := (.aload_n 0, 1, 0, 0, .null)) rfl (fun _ => rfl) l0 ?_
      refine r_grx H X (pc := 27) rfl ?_
      refine q_lr (k := 1) (i := 0) (q := (.aload_n 0, 1, 0, 0, .null)) rfl (fun _ => rfl) l0 ?_
      refine r_gi (v := (m.1 2 2)) H (pc := 31) (i := _) rfl (by decide) (by decide) rfl ?_
      obtain ⟨c1, h⟩ := xif h
      refine q_al (n := 400) (v := (m.1 1 ((m.1 2 2) : Int32).toNatClampNeg)) H (pc := 34) rfl (by decide) c1 rfl ?_
      obtain ⟨q35, h35, h⟩ := xbind h
      refine r_callS (as := [.int (m.1 1 ((m.1 2 2) : Int32).toNatClampNeg)]) (rest := []) (rv := some (.int q35.1)) (hp' := xW B q35.2) (pc := 35) rfl xr56 rfl rfl rfl (Nat.le_of_ble_eq_true rfl) (Z56 H X h35 (by omega)) (Nat.le_refl _) ?_
      refine r_if (len := 3) (a := 85) (b := 0) (v0 := .null) (cn := .eq) (off := 47) rfl (fun c => ?_) (fun c => ?_)
      · rw [if_pos c] at h
        exact T58_2_85 H X he F l0 l1 l2 l3 h
      · rw [if_neg (by rw [c]; decide)] at h
        refine q_lr (k := 1) (i := 0) (q := (.aload_n 0, 1, 0, 0, .null)) rfl (fun _ => rfl) l0 ?_
        refine r_gi (v := (q35.2.1 2 2)) H (pc := 42) (i := _) rfl (by decide) (by decide) rfl ?_
        refine q_lr (k := 1) (i := 0) (q := (.aload_n 0, 1, 0, 0, .null)) rfl (fun _ => rfl) l0 ?_
        refine r_gi (v := (q35.2.1 2 3)) H (pc := 46) (i := _) rfl (by decide) (by decide) rfl ?_
        refine r_s (fr' := (50, lv, [.int ((q35.2.1 2 2) - (q35.2.1 2 3))])) (hp' := xW B q35.2) (q := (.isub, 1, 0, 0, .null)) rfl (fun _ => rfl) (Nat.le_refl _) ?_
        refine r_s (fr' := (51, lv, [.int 5, .int ((q35.2.1 2 2) - (q35.2.1 2 3))])) (hp' := xW B q35.2) (q := (.iconst 5, 1, 0, 0, .null)) rfl (fun _ => rfl) (Nat.le_refl _) ?_
        refine r_ifc (len := 3) (a := 72) (b := 0) (v0 := .null) (cn := .ge) (off := 21) rfl (fun c => ?_) (fun c => ?_)
        · rw [if_pos c] at h
          exact T58_2_72 H X he F _ ih l0 l1 l2 l3 h
        · rw [if_neg (by rw [c]; decide)] at h
          refine r_s (fr' := (56, lv, [.int 10])) (hp' := xW B q35.2) (q := (.bipush 10, 2, 0, 0, .null)) rfl (fun _ => rfl) (Nat.le_refl _) ?_
          refine q_li (k := 1) (i := 3) (q := (.iload_n 3, 1, 0, 0, .null)) rfl (fun _ => rfl) l3 ?_
          refine r_s (fr' := (58, lv, [.int (10 * v3)])) (hp' := xW B q35.2) (q := (.imul, 1, 0, 0, .null)) rfl (fun _ => rfl) (Nat.le_refl _) ?_
          refine q_lr (k := 1) (i := 0) (q := (.aload_n 0, 1, 0, 0, .null)) rfl (fun _ => rfl) l0 ?_
          refine r_grx H X (pc := 59) rfl ?_
          refine q_lr (k := 1) (i := 0) (q := (.aload_n 0, 1, 0, 0, .null)) rfl (fun _ => rfl) l0 ?_
          refine r_gi (v := (q35.2.1 2 2)) H (pc := 63) (i := _) rfl (by decide) (by decide) rfl ?_
          obtain ⟨c2, h⟩ := xif h
          refine q_al (n := 400) (v := (q35.2.1 1 ((q35.2.1 2 2) : Int32).toNatClampNeg)) H (pc := 66) rfl (by decide) c2 rfl ?_
          refine r_s (fr' := (68, lv, [.int ((10 * v3) + (q35.2.1 1 ((q35.2.1 2 2) : Int32).toNatClampNeg))])) (hp' := xW B q35.2) (q := (.iadd, 1, 0, 0, .null)) rfl (fun _ => rfl) (Nat.le_refl _) ?_
          refine r_s (fr' := (70, lv, [.int 48, .int ((10 * v3) + (q35.2.1 1 ((q35.2.1 2 2) : Int32).toNatClampNeg))])) (hp' := xW B q35.2) (q := (.bipush 48, 2, 0, 0, .null)) rfl (fun _ => rfl) (Nat.le_refl _) ?_
          refine r_s (fr' := (71, lv, [.int (((10 * v3) + (q35.2.1 1 ((q35.2.1 2 2) : Int32).toNatClampNeg)) - 48)])) (hp' := xW B q35.2) (q := (.isub, 1, 0, 0, .null)) rfl (fun _ => rfl) (Nat.le_refl _) ?_
          refine q_si (k := 1) (i := 3) (q := (.istore_n 3, 1, 0, 0, .null)) rfl (fun _ => rfl) (by decide) ?_
          have l0_3 : zld (zs1 lv 3 (.int (((10 * v3) + (q35.2.1 1 ((q35.2.1 2 2) : Int32).toNatClampNeg)) - 48))) 0 = some (.ref 2) := x_o1 l0 rfl rfl
          have l1_3 : zld (zs1 lv 3 (.int (((10 * v3) + (q35.2.1 1 ((q35.2.1 2 2) : Int32).toNatClampNeg)) - 48))) 1 = some (.int v1) := x_o1 l1 rfl rfl
          have l2_3 : zld (zs1 lv 3 (.int (((10 * v3) + (q35.2.1 1 ((q35.2.1 2 2) : Int32).toNatClampNeg)) - 48))) 2 = some (.int v2) := x_o1 l2 rfl rfl
          have l3_3 : zld (zs1 lv 3 (.int (((10 * v3) + (q35.2.1 1 ((q35.2.1 2 2) : Int32).toNatClampNeg)) - 48))) 3 = some (.int (((10 * v3) + (q35.2.1 1 ((q35.2.1 2 2) : Int32).toNatClampNeg)) - 48)) := zs1_ld _ _ _
          generalize (zs1 lv 3 (.int (((10 * v3) + (q35.2.1 1 ((q35.2.1 2 2) : Int32).toNatClampNeg)) - 48))) = lv3 at *
          exact T58_2_72 H X he F _ ih l0_3 l1_3 l2_3 l3_3 h
def D58_2 (F : Nat) (v1 : Int32) (v2 : Int32) (m : xS) : Option (Int32 × xS) :=
  (D53_2 F m).bind fun q1 =>
    D58_2_15 F F v1 v2 0 (xu q1.2 2 3 (q1.2.1 2 2))
set_option maxRecDepth 20000 in
theorem T58_2 {B : zHp} (H : yH0 B) (X : yTx B) {e : Nat} (he : 2 ≤ e + 1) (F : Nat) {v1 : Int32} {v2 : Int32} {lv : List (Nat × Value)} {m : xS} {x : Int32 × xS} (l0 : zld lv 0 = some (.ref 2)) (l1 : zld lv 1 = some (.int v1)) (l2 : zld lv 2 = some (.int v2)) (h : D58_2 F v1 v2 m = some x) : zR none e 4 (some .int) zc58 (0, lv, []) (xW B m) (some (.int x.1), xW B x.2) := by
  unfold D58_2 at h
  refine q_lr (k := 1) (i := 0) (q := (.aload_n 0, 1, 0, 0, .null)) rfl (fun _ => rfl) l0 ?_
  obtain ⟨q1, h1, h⟩ := xbind h
  refine r_call (ix := 2) (as := []) (rest := []) (rv := some (.int q1.1)) (hp' := xW B q1.2) (pc := 1) rfl xr53 rfl rfl rfl (xkd H (by decide)) (Nat.le_of_ble_eq_true rfl) (Z53_2 H X h1 (by omega)) (Nat.le_refl _) ?_
  refine r_s (fr' := (5, lv, [])) (hp' := xW B q1.2) (q := (.pop, 1, 0, 0, .null)) rfl (fun _ => rfl) (Nat.le_refl _) ?_
  refine q_lr (k := 1) (i := 0) (q := (.aload_n 0, 1, 0, 0, .null)) rfl (fun _ => rfl) l0 ?_
  refine q_lr (k := 1) (i := 0) (q := (.aload_n 0, 1, 0, 0, .null)) rfl (fun _ => rfl) l0 ?_
  refine r_gi (v := (q1.2.1 2 2)) H (pc := 7) (i := _) rfl (by decide) (by decide) rfl ?_
  refine r_pi (s2 := (xu q1.2 2 3 (q1.2.1 2 2))) H (pc := 10) rfl (by decide) rfl rfl ?_
  refine r_s (fr' := (14, lv, [.int 0])) (hp' := xW B (xu q1.2 2 3 (q1.2.1 2 2))) (q := (.iconst 0, 1, 0, 0, .null)) rfl (fun _ => rfl) (Nat.le_refl _) ?_
  refine q_si (k := 1) (i := 3) (q := (.istore_n 3, 1, 0, 0, .null)) rfl (fun _ => rfl) (by decide) ?_
  have l0_1 : zld (zs1 lv 3 (.int 0)) 0 = some (.ref 2) := x_o1 l0 rfl rfl
  have l1_1 : zld (zs1 lv 3 (.int 0)) 1 = some (.int v1) := x_o1 l1 rfl rfl
  have l2_1 : zld (zs1 lv 3 (.int 0)) 2 = some (.int v2) := x_o1 l2 rfl rfl
  have l3_1 : zld (zs1 lv 3 (.int 0)) 3 = some (.int 0) := zs1_ld _ _ _
  generalize (zs1 lv 3 (.int 0)) = lv1 at *
  exact T58_2_15 H X he F F l0_1 l1_1 l2_1 l3_1 h
set_option maxRecDepth 20000 in
theorem Z58_2 {B : zHp} (H : yH0 B) (X : yTx B) {F : Nat} {a1 : Int32} {a2 : Int32} {m : xS} {x : Int32 × xS} (h : D58_2 F a1 a2 m = some x) {d : Nat} (hd : 2 ≤ d) : zCan d 58 [.ref 2, .int a1, .int a2] (xW B m) (some (.int x.1), xW B x.2) := by
  obtain ⟨e, rfl⟩ : ∃ e, d = e + 1 := ⟨d - 1, by omega⟩
  refine zCan_body (nL := 4) (rt := (some .int)) (cd := zc58) (xg58) ⟨Nat.le_of_ble_eq_true rfl, by decide⟩ (Nat.le_refl _) ?_
  exact T58_2 H X hd F rfl rfl rfl h
/-- LentTools$RuleReader.put -/
def D48_6 (F : Nat) (v1 : Int32) (m : xS) : Option (Unit × xS) :=
  if zcmp .ge (m.1 6 1) (Int32.ofNat 400) = true then
    some ((), m)
  else
    if xib (m.1 6 1) 400 = true then
      some ((), (xu (xu m 7 ((m.1 6 1) : Int32).toNatClampNeg v1) 6 1 ((m.1 6 1) + 1)))
    else none
set_option maxRecDepth 20000 in
theorem T48_6 {B : zHp} (H : yH0 B) (X : yTx B) {e : Nat} (he : 1 ≤ e + 1) (F : Nat) {v1 : Int32} {lv : List (Nat × Value)} {m : xS} {x : Unit × xS} (l0 : zld lv 0 = some (.ref 6)) (l1 : zld lv 1 = some (.int v1)) (h : D48_6 F v1 m = some x) : zR none e 2 none zc48 (0, lv, []) (xW B m) (none, xW B x.2) := by
  unfold D48_6 at h
  refine q_lr (k := 1) (i := 0) (q := (.aload_n 0, 1, 0, 0, .null)) rfl (fun _ => rfl) l0 ?_
  refine r_gi (v := (m.1 6 1)) H (pc := 1) (i := _) rfl (by decide) (by decide) rfl ?_
  refine q_lr (k := 1) (i := 0) (q := (.aload_n 0, 1, 0, 0, .null)) rfl (fun _ => rfl) l0 ?_
  refine r_gr (c := 7) H (pc := 5) rfl (by decide) (by decide) ?_
  refine q_len (n := 400) (k := 0) H (pc := 8) rfl (by decide) ?_
  refine r_ifc (len := 3) (a := 32) (b := 0) (v0 := .null) (cn := .ge) (off := 23) rfl (fun c => ?_) (fun c => ?_)
  · rw [if_pos c] at h
    obtain rfl := Option.some.inj h
    exact r_ret (q := (.return_, 1, 0, 0, .null)) rfl rfl (fun _ => rfl)
  · rw [if_neg (by rw [c]; decide)] at h
    refine q_lr (k := 1) (i := 0) (q := (.aload_n 0, 1, 0, 0, .null)) rfl (fun _ => rfl) l0 ?_
    refine r_gr (c := 7) H (pc := 13) rfl (by decide) (by decide) ?_
    refine q_lr (k := 1) (i := 0) (q := (.aload_n 0, 1, 0, 0, .null)) rfl (fun _ => rfl) l0 ?_
    refine r_gi (v := (m.1 6 1)) H (pc := 17) (i := _) rfl (by decide) (by decide) rfl ?_
    refine q_li (k := 1) (i := 1) (q := (.iload_n 1, 1, 0, 0, .null)) rfl (fun _ => rfl) l1 ?_
    obtain ⟨c1, h⟩ := xif h
    refine q_as (n := 400) (s2 := (xu m 7 ((m.1 6 1) : Int32).toNatClampNeg v1)) H (pc := 21) rfl (by decide) c1 rfl ?_
    refine q_lr (k := 1) (i := 0) (q := (.aload_n 0, 1, 0, 0, .null)) rfl (fun _ => rfl) l0 ?_
    refine r_s (fr' := (24, lv, [.ref 6, .ref 6])) (hp' := xW B (xu m 7 ((m.1 6 1) : Int32).toNatClampNeg v1)) (q := (.dup, 1, 0, 0, .null)) rfl (fun _ => rfl) (Nat.le_refl _) ?_
    refine r_gi (v := (m.1 6 1)) H (pc := 24) (i := _) rfl (by decide) (by decide) rfl ?_
    refine r_s (fr' := (28, lv, [.int 1, .int (m.1 6 1), .ref 6])) (hp' := xW B (xu m 7 ((m.1 6 1) : Int32).toNatClampNeg v1)) (q := (.iconst 1, 1, 0, 0, .null)) rfl (fun _ => rfl) (Nat.le_refl _) ?_
    refine r_s (fr' := (29, lv, [.int ((m.1 6 1) + 1), .ref 6])) (hp' := xW B (xu m 7 ((m.1 6 1) : Int32).toNatClampNeg v1)) (q := (.iadd, 1, 0, 0, .null)) rfl (fun _ => rfl) (Nat.le_refl _) ?_
    refine r_pi (s2 := (xu (xu m 7 ((m.1 6 1) : Int32).toNatClampNeg v1) 6 1 ((m.1 6 1) + 1))) H (pc := 29) rfl (by decide) rfl rfl ?_
    obtain rfl := Option.some.inj h
    exact r_ret (q := (.return_, 1, 0, 0, .null)) rfl rfl (fun _ => rfl)
set_option maxRecDepth 20000 in
theorem Z48_6 {B : zHp} (H : yH0 B) (X : yTx B) {F : Nat} {a1 : Int32} {m : xS} {x : Unit × xS} (h : D48_6 F a1 m = some x) {d : Nat} (hd : 1 ≤ d) : zCan d 48 [.ref 6, .int a1] (xW B m) (none, xW B x.2) := by
  obtain ⟨e, rfl⟩ : ∃ e, d = e + 1 := ⟨d - 1, by omega⟩
  refine zCan_body (nL := 2) (rt := none) (cd := zc48) (xg48) ⟨Nat.le_of_ble_eq_true rfl, by decide⟩ (Nat.le_refl _) ?_
  exact T48_6 H X hd F rfl rfl h
/-- java/lang/String.coder -/
def D283_1004 (F : Nat) (m : xS) : Option (Int32 × xS) :=
  if zcmp .eq 1 0 = true then
    some (1, m)
  else
    some (0, m)
set_option maxRecDepth 20000 in
theorem T283_1004 {B : zHp} (H : yH0 B) (X : yTx B) {e : Nat} (he : 1 ≤ e + 1) (F : Nat) {lv : List (Nat × Value)} {m : xS} {x : Int32 × xS} (l0 : zld lv 0 = some (.ref 1004)) (h : D283_1004 F m = some x) : zR none e 1 (some .byte) zc283 (0, lv, []) (xW B m) (some (.int x.1), xW B x.2) := by
  unfold D283_1004 at h
  refine r_s (fr' := (3, lv, [.int 1])) (hp' := xW B m) (q := (.getstatic 38, 3, 0, 0, .int 1)) rfl (fun _ => rfl) (Nat.le_refl _) ?_
  refine r_if (len := 3) (a := 13) (b := 0) (v0 := .null) (cn := .eq) (off := 10) rfl (fun c => ?_) (fun c => ?_)
  · rw [if_pos c] at h
    refine r_s (fr' := (14, lv, [.int 1])) (hp' := xW B m) (q := (.iconst 1, 1, 0, 0, .null)) rfl (fun _ => rfl) (Nat.le_refl _) ?_
    obtain rfl := Option.some.inj h
    exact q_ri (q := (.ireturn, 1, 0, 0, .null)) rfl (fun _ => rfl) rfl rfl
  · rw [if_neg (by rw [c]; decide)] at h
    refine q_lr (k := 1) (i := 0) (q := (.aload_n 0, 1, 0, 0, .null)) rfl (fun _ => rfl) l0 ?_
    refine r_s (fr' := (10, lv, [.int 0])) (hp' := xW B m) (q := (.getfield 15, 3, 100, 1, .null)) rfl (fun _ => rfl) (Nat.le_refl _) ?_
    refine r_s (fr' := (14, lv, [.int 0])) (hp' := xW B m) (q := (.goto 4, 3, 14, 0, .null)) rfl (fun _ => rfl) (Nat.le_refl _) ?_
    obtain rfl := Option.some.inj h
    exact q_ri (q := (.ireturn, 1, 0, 0, .null)) rfl (fun _ => rfl) rfl rfl
set_option maxRecDepth 20000 in
theorem Z283_1004 {B : zHp} (H : yH0 B) (X : yTx B) {F : Nat} {m : xS} {x : Int32 × xS} (h : D283_1004 F m = some x) {d : Nat} (hd : 1 ≤ d) : zCan d 283 [.ref 1004] (xW B m) (some (.int x.1), xW B x.2) := by
  obtain ⟨e, rfl⟩ : ∃ e, d = e + 1 := ⟨d - 1, by omega⟩
  refine zCan_body (nL := 1) (rt := (some .byte)) (cd := zc283) (xg283) ⟨Nat.le_of_ble_eq_true rfl, by decide⟩ (Nat.le_refl _) ?_
  exact T283_1004 H X hd F rfl h
/-- java/lang/String.length -/
def D281_1004 (F : Nat) (m : xS) : Option (Int32 × xS) :=
  (D283_1004 F m).bind fun q6 =>
    some (((Int32.ofNat 66) >>> (q6.1 &&& 31)), q6.2)
set_option maxRecDepth 20000 in
theorem T281_1004 {B : zHp} (H : yH0 B) (X : yTx B) {e : Nat} (he : 2 ≤ e + 1) (F : Nat) {lv : List (Nat × Value)} {m : xS} {x : Int32 × xS} (l0 : zld lv 0 = some (.ref 1004)) (h : D281_1004 F m = some x) : zR none e 1 (some .int) zc281 (0, lv, []) (xW B m) (some (.int x.1), xW B x.2) := by
  unfold D281_1004 at h
  refine q_lr (k := 1) (i := 0) (q := (.aload_n 0, 1, 0, 0, .null)) rfl (fun _ => rfl) l0 ?_
  refine r_s (fr' := (4, lv, [.ref 1023])) (hp' := xW B m) (q := (.getfield 9, 3, 100, 0, .null)) rfl (fun _ => rfl) (Nat.le_refl _) ?_
  refine r_s (fr' := (5, lv, [.int (Int32.ofNat 66)])) (hp' := xW B m) (q := (.arraylength, 1, 0, 0, .null)) rfl (fun _ => rfl) (Nat.le_refl _) ?_
  refine q_lr (k := 1) (i := 0) (q := (.aload_n 0, 1, 0, 0, .null)) rfl (fun _ => rfl) l0 ?_
  obtain ⟨q6, h6, h⟩ := xbind h
  refine r_call (ix := 1004) (as := []) (rest := [.int (Int32.ofNat 66)]) (rv := some (.int q6.1)) (hp' := xW B q6.2) (pc := 6) rfl xr283 rfl rfl rfl rfl (Nat.le_of_ble_eq_true rfl) (Z283_1004 H X h6 (by omega)) (Nat.le_refl _) ?_
  refine r_s (fr' := (10, lv, [.int ((Int32.ofNat 66) >>> (q6.1 &&& 31))])) (hp' := xW B q6.2) (q := (.ishr, 1, 0, 0, .null)) rfl (fun _ => rfl) (Nat.le_refl _) ?_
  obtain rfl := Option.some.inj h
  exact q_ri (q := (.ireturn, 1, 0, 0, .null)) rfl (fun _ => rfl) rfl rfl
set_option maxRecDepth 20000 in
theorem Z281_1004 {B : zHp} (H : yH0 B) (X : yTx B) {F : Nat} {m : xS} {x : Int32 × xS} (h : D281_1004 F m = some x) {d : Nat} (hd : 2 ≤ d) : zCan d 281 [.ref 1004] (xW B m) (some (.int x.1), xW B x.2) := by
  obtain ⟨e, rfl⟩ : ∃ e, d = e + 1 := ⟨d - 1, by omega⟩
  refine zCan_body (nL := 1) (rt := (some .int)) (cd := zc281) (xg281) ⟨Nat.le_of_ble_eq_true rfl, by decide⟩ (Nat.le_refl _) ?_
  exact T281_1004 H X hd F rfl h
/-- java/lang/String.isLatin1 -/
def D284_1004_17 (F : Nat) (m : xS) : Option (Int32 × xS) :=
  some (0, m)
set_option maxRecDepth 20000 in
theorem T284_1004_17 {B : zHp} (H : yH0 B) (X : yTx B) {e : Nat} (he : 1 ≤ e + 1) (F : Nat) {lv : List (Nat × Value)} {m : xS} {x : Int32 × xS} (l0 : zld lv 0 = some (.ref 1004)) (h : D284_1004_17 F m = some x) : zR none e 1 (some .boolean) zc284 (17, lv, []) (xW B m) (some (.int x.1), xW B x.2) := by
  unfold D284_1004_17 at h
  refine r_s (fr' := (18, lv, [.int 0])) (hp' := xW B m) (q := (.iconst 0, 1, 0, 0, .null)) rfl (fun _ => rfl) (Nat.le_refl _) ?_
  obtain rfl := Option.some.inj h
  exact q_ri (q := (.ireturn, 1, 0, 0, .null)) rfl (fun _ => rfl) rfl rfl
def D284_1004 (F : Nat) (m : xS) : Option (Int32 × xS) :=
  if zcmp .eq 1 0 = true then
    D284_1004_17 F m
  else
    if zcmp .ne 0 0 = true then
      D284_1004_17 F m
    else
      some (1, m)
set_option maxRecDepth 20000 in
theorem T284_1004 {B : zHp} (H : yH0 B) (X : yTx B) {e : Nat} (he : 1 ≤ e + 1) (F : Nat) {lv : List (Nat × Value)} {m : xS} {x : Int32 × xS} (l0 : zld lv 0 = some (.ref 1004)) (h : D284_1004 F m = some x) : zR none e 1 (some .boolean) zc284 (0, lv, []) (xW B m) (some (.int x.1), xW B x.2) := by
  unfold D284_1004 at h
  refine r_s (fr' := (3, lv, [.int 1])) (hp' := xW B m) (q := (.getstatic 38, 3, 0, 0, .int 1)) rfl (fun _ => rfl) (Nat.le_refl _) ?_
  refine r_if (len := 3) (a := 17) (b := 0) (v0 := .null) (cn := .eq) (off := 14) rfl (fun c => ?_) (fun c => ?_)
  · rw [if_pos c] at h
    exact T284_1004_17 H X he F l0 h
  · rw [if_neg (by rw [c]; decide)] at h
    refine q_lr (k := 1) (i := 0) (q := (.aload_n 0, 1, 0, 0, .null)) rfl (fun _ => rfl) l0 ?_
    refine r_s (fr' := (10, lv, [.int 0])) (hp' := xW B m) (q := (.getfield 15, 3, 100, 1, .null)) rfl (fun _ => rfl) (Nat.le_refl _) ?_
    refine r_if (len := 3) (a := 17) (b := 0) (v0 := .null) (cn := .ne) (off := 7) rfl (fun c => ?_) (fun c => ?_)
    · rw [if_pos c] at h
      exact T284_1004_17 H X he F l0 h
    · rw [if_neg (by rw [c]; decide)] at h
      refine r_s (fr' := (14, lv, [.int 1])) (hp' := xW B m) (q := (.iconst 1, 1, 0, 0, .null)) rfl (fun _ => rfl) (Nat.le_refl _) ?_
      refine r_s (fr' := (18, lv, [.int 1])) (hp' := xW B m) (q := (.goto 4, 3, 18, 0, .null)) rfl (fun _ => rfl) (Nat.le_refl _) ?_
      obtain rfl := Option.some.inj h
      exact q_ri (q := (.ireturn, 1, 0, 0, .null)) rfl (fun _ => rfl) rfl rfl
set_option maxRecDepth 20000 in
theorem Z284_1004 {B : zHp} (H : yH0 B) (X : yTx B) {F : Nat} {m : xS} {x : Int32 × xS} (h : D284_1004 F m = some x) {d : Nat} (hd : 1 ≤ d) : zCan d 284 [.ref 1004] (xW B m) (some (.int x.1), xW B x.2) := by
  obtain ⟨e, rfl⟩ : ∃ e, d = e + 1 := ⟨d - 1, by omega⟩
  refine zCan_body (nL := 1) (rt := (some .boolean)) (cd := zc284) (xg284) ⟨Nat.le_of_ble_eq_true rfl, by decide⟩ (Nat.le_refl _) ?_
  exact T284_1004 H X hd F rfl h
/-- java/lang/StringLatin1.charAt -/
def D286_1023 (F : Nat) (v1 : Int32) (m : xS) : Option (Int32 × xS) :=
  (D285 F v1 (Int32.ofNat 66) m).bind fun q3 =>
    if xib v1 66 = true then
      if (vp_nar .char ((((zsv 23 (v1 : Int32).toNatClampNeg) &&& 255) : Int32).toUInt32 % 65536).toInt32 == ((((zsv 23 (v1 : Int32).toNatClampNeg) &&& 255) : Int32).toUInt32 % 65536).toInt32) = true then
        some (((((zsv 23 (v1 : Int32).toNatClampNeg) &&& 255) : Int32).toUInt32 % 65536).toInt32, q3.2)
      else none
    else none
set_option maxRecDepth 20000 in
theorem T286_1023 {B : zHp} (H : yH0 B) (X : yTx B) {e : Nat} (he : 3 ≤ e + 1) (F : Nat) {v1 : Int32} {lv : List (Nat × Value)} {m : xS} {x : Int32 × xS} (l0 : zld lv 0 = some (.ref 1023)) (l1 : zld lv 1 = some (.int v1)) (h : D286_1023 F v1 m = some x) : zR none e 2 (some .char) zc286 (0, lv, []) (xW B m) (some (.int x.1), xW B x.2) := by
  unfold D286_1023 at h
  refine q_li (k := 1) (i := 1) (q := (.iload_n 1, 1, 0, 0, .null)) rfl (fun _ => rfl) l1 ?_
  refine q_lr (k := 1) (i := 0) (q := (.aload_n 0, 1, 0, 0, .null)) rfl (fun _ => rfl) l0 ?_
  refine r_s (fr' := (3, lv, [.int (Int32.ofNat 66), .int v1])) (hp' := xW B m) (q := (.arraylength, 1, 0, 0, .null)) rfl (fun _ => rfl) (Nat.le_refl _) ?_
  obtain ⟨q3, h3, h⟩ := xbind h
  refine r_callS (as := [.int v1, .int (Int32.ofNat 66)]) (rest := []) (rv := none) (hp' := xW B q3.2) (pc := 3) rfl xr285 rfl rfl rfl (Nat.le_of_ble_eq_true rfl) (Z285 H X h3 (by omega)) (Nat.le_refl _) ?_
  refine q_lr (k := 1) (i := 0) (q := (.aload_n 0, 1, 0, 0, .null)) rfl (fun _ => rfl) l0 ?_
  refine q_li (k := 1) (i := 1) (q := (.iload_n 1, 1, 0, 0, .null)) rfl (fun _ => rfl) l1 ?_
  obtain ⟨c1, h⟩ := xif h
  refine q_sbl (n := 66) (f := zsv 23) (i := 1023) (pc := 8) rfl (by decide) rfl c1 ?_
  refine r_s (fr' := (12, lv, [.int 255, .int (zsv 23 (v1 : Int32).toNatClampNeg)])) (hp' := xW B q3.2) (q := (.sipush 255, 3, 0, 0, .null)) rfl (fun _ => rfl) (Nat.le_refl _) ?_
  refine r_s (fr' := (13, lv, [.int ((zsv 23 (v1 : Int32).toNatClampNeg) &&& 255)])) (hp' := xW B q3.2) (q := (.iand, 1, 0, 0, .null)) rfl (fun _ => rfl) (Nat.le_refl _) ?_
  refine r_s (fr' := (14, lv, [.int ((((zsv 23 (v1 : Int32).toNatClampNeg) &&& 255) : Int32).toUInt32 % 65536).toInt32])) (hp' := xW B q3.2) (q := (.i2c, 1, 0, 0, .null)) rfl (fun _ => rfl) (Nat.le_refl _) ?_
  obtain ⟨c2, h⟩ := xif h
  obtain rfl := Option.some.inj h
  exact q_ri (q := (.ireturn, 1, 0, 0, .null)) rfl (fun _ => rfl) rfl (xnar_ok rfl c2)
set_option maxRecDepth 20000 in
theorem Z286_1023 {B : zHp} (H : yH0 B) (X : yTx B) {F : Nat} {a1 : Int32} {m : xS} {x : Int32 × xS} (h : D286_1023 F a1 m = some x) {d : Nat} (hd : 3 ≤ d) : zCan d 286 [.ref 1023, .int a1] (xW B m) (some (.int x.1), xW B x.2) := by
  obtain ⟨e, rfl⟩ : ∃ e, d = e + 1 := ⟨d - 1, by omega⟩
  refine zCan_body (nL := 2) (rt := (some .char)) (cd := zc286) (xg286) ⟨Nat.le_of_ble_eq_true rfl, by decide⟩ (Nat.le_refl _) ?_
  exact T286_1023 H X hd F rfl rfl h
/-- java/lang/StringUTF16.length -/
def D288_1023 (F : Nat) (m : xS) : Option (Int32 × xS) :=
  some (((Int32.ofNat 66) >>> (1 &&& 31)), m)
set_option maxRecDepth 20000 in
theorem T288_1023 {B : zHp} (H : yH0 B) (X : yTx B) {e : Nat} (he : 1 ≤ e + 1) (F : Nat) {lv : List (Nat × Value)} {m : xS} {x : Int32 × xS} (l0 : zld lv 0 = some (.ref 1023)) (h : D288_1023 F m = some x) : zR none e 1 (some .int) zc288 (0, lv, []) (xW B m) (some (.int x.1), xW B x.2) := by
  unfold D288_1023 at h
  refine q_lr (k := 1) (i := 0) (q := (.aload_n 0, 1, 0, 0, .null)) rfl (fun _ => rfl) l0 ?_
  refine r_s (fr' := (2, lv, [.int (Int32.ofNat 66)])) (hp' := xW B m) (q := (.arraylength, 1, 0, 0, .null)) rfl (fun _ => rfl) (Nat.le_refl _) ?_
  refine r_s (fr' := (3, lv, [.int 1, .int (Int32.ofNat 66)])) (hp' := xW B m) (q := (.iconst 1, 1, 0, 0, .null)) rfl (fun _ => rfl) (Nat.le_refl _) ?_
  refine r_s (fr' := (4, lv, [.int ((Int32.ofNat 66) >>> (1 &&& 31))])) (hp' := xW B m) (q := (.ishr, 1, 0, 0, .null)) rfl (fun _ => rfl) (Nat.le_refl _) ?_
  obtain rfl := Option.some.inj h
  exact q_ri (q := (.ireturn, 1, 0, 0, .null)) rfl (fun _ => rfl) rfl rfl
set_option maxRecDepth 20000 in
theorem Z288_1023 {B : zHp} (H : yH0 B) (X : yTx B) {F : Nat} {m : xS} {x : Int32 × xS} (h : D288_1023 F m = some x) {d : Nat} (hd : 1 ≤ d) : zCan d 288 [.ref 1023] (xW B m) (some (.int x.1), xW B x.2) := by
  obtain ⟨e, rfl⟩ : ∃ e, d = e + 1 := ⟨d - 1, by omega⟩
  refine zCan_body (nL := 1) (rt := (some .int)) (cd := zc288) (xg288) ⟨Nat.le_of_ble_eq_true rfl, by decide⟩ (Nat.le_refl _) ?_
  exact T288_1023 H X hd F rfl h
/-- java/lang/StringUTF16.checkIndex -/
def D290_1023 (F : Nat) (v0 : Int32) (m : xS) : Option (Unit × xS) :=
  (D288_1023 F m).bind fun q2 =>
    (D285 F v0 q2.1 q2.2).bind fun q5 =>
      some ((), q5.2)
set_option maxRecDepth 20000 in
theorem T290_1023 {B : zHp} (H : yH0 B) (X : yTx B) {e : Nat} (he : 3 ≤ e + 1) (F : Nat) {v0 : Int32} {lv : List (Nat × Value)} {m : xS} {x : Unit × xS} (l0 : zld lv 0 = some (.int v0)) (l1 : zld lv 1 = some (.ref 1023)) (h : D290_1023 F v0 m = some x) : zR none e 2 none zc290 (0, lv, []) (xW B m) (none, xW B x.2) := by
  unfold D290_1023 at h
  refine q_li (k := 1) (i := 0) (q := (.iload_n 0, 1, 0, 0, .null)) rfl (fun _ => rfl) l0 ?_
  refine q_lr (k := 1) (i := 1) (q := (.aload_n 1, 1, 0, 0, .null)) rfl (fun _ => rfl) l1 ?_
  obtain ⟨q2, h2, h⟩ := xbind h
  refine r_callS (as := [.ref 1023]) (rest := [.int v0]) (rv := some (.int q2.1)) (hp' := xW B q2.2) (pc := 2) rfl xr288 rfl rfl rfl (Nat.le_of_ble_eq_true rfl) (Z288_1023 H X h2 (by omega)) (Nat.le_refl _) ?_
  obtain ⟨q5, h5, h⟩ := xbind h
  refine r_callS (as := [.int v0, .int q2.1]) (rest := []) (rv := none) (hp' := xW B q5.2) (pc := 5) rfl xr285 rfl rfl rfl (Nat.le_of_ble_eq_true rfl) (Z285 H X h5 (by omega)) (Nat.le_refl _) ?_
  obtain rfl := Option.some.inj h
  exact r_ret (q := (.return_, 1, 0, 0, .null)) rfl rfl (fun _ => rfl)
set_option maxRecDepth 20000 in
theorem Z290_1023 {B : zHp} (H : yH0 B) (X : yTx B) {F : Nat} {a0 : Int32} {m : xS} {x : Unit × xS} (h : D290_1023 F a0 m = some x) {d : Nat} (hd : 3 ≤ d) : zCan d 290 [.int a0, .ref 1023] (xW B m) (none, xW B x.2) := by
  obtain ⟨e, rfl⟩ : ∃ e, d = e + 1 := ⟨d - 1, by omega⟩
  refine zCan_body (nL := 2) (rt := none) (cd := zc290) (xg290) ⟨Nat.le_of_ble_eq_true rfl, by decide⟩ (Nat.le_refl _) ?_
  exact T290_1023 H X hd F rfl rfl h
/-- java/lang/StringUTF16.getChar -/
def D287_1023 (F : Nat) (v1 : Int32) (m : xS) : Option (Int32 × xS) :=
  none
set_option maxRecDepth 20000 in
theorem T287_1023 {B : zHp} (H : yH0 B) (X : yTx B) {e : Nat} (he : 1 ≤ e + 1) (F : Nat) {v1 : Int32} {lv : List (Nat × Value)} {m : xS} {x : Int32 × xS} (l0 : zld lv 0 = some (.ref 1023)) (l1 : zld lv 1 = some (.int v1)) (h : D287_1023 F v1 m = some x) : zR none e 2 (some .char) zc287 (0, lv, []) (xW B m) (some (.int x.1), xW B x.2) := by
  unfold D287_1023 at h
  cases h
set_option maxRecDepth 20000 in
theorem Z287_1023 {B : zHp} (H : yH0 B) (X : yTx B) {F : Nat} {a1 : Int32} {m : xS} {x : Int32 × xS} (h : D287_1023 F a1 m = some x) {d : Nat} (hd : 1 ≤ d) : zCan d 287 [.ref 1023, .int a1] (xW B m) (some (.int x.1), xW B x.2) := by
  obtain ⟨e, rfl⟩ : ∃ e, d = e + 1 := ⟨d - 1, by omega⟩
  refine zCan_body (nL := 2) (rt := (some .char)) (cd := zc287) (xg287) ⟨Nat.le_of_ble_eq_true rfl, by decide⟩ (Nat.le_refl _) ?_
  exact T287_1023 H X hd F rfl rfl h
/-- java/lang/StringUTF16.charAt -/
def D289_1023 (F : Nat) (v1 : Int32) (m : xS) : Option (Int32 × xS) :=
  (D290_1023 F v1 m).bind fun q2 =>
    (D287_1023 F v1 q2.2).bind fun q7 =>
      if (vp_nar .char q7.1 == q7.1) = true then
        some (q7.1, q7.2)
      else none
set_option maxRecDepth 20000 in
theorem T289_1023 {B : zHp} (H : yH0 B) (X : yTx B) {e : Nat} (he : 4 ≤ e + 1) (F : Nat) {v1 : Int32} {lv : List (Nat × Value)} {m : xS} {x : Int32 × xS} (l0 : zld lv 0 = some (.ref 1023)) (l1 : zld lv 1 = some (.int v1)) (h : D289_1023 F v1 m = some x) : zR none e 2 (some .char) zc289 (0, lv, []) (xW B m) (some (.int x.1), xW B x.2) := by
  unfold D289_1023 at h
  refine q_li (k := 1) (i := 1) (q := (.iload_n 1, 1, 0, 0, .null)) rfl (fun _ => rfl) l1 ?_
  refine q_lr (k := 1) (i := 0) (q := (.aload_n 0, 1, 0, 0, .null)) rfl (fun _ => rfl) l0 ?_
  obtain ⟨q2, h2, h⟩ := xbind h
  refine r_callS (as := [.int v1, .ref 1023]) (rest := []) (rv := none) (hp' := xW B q2.2) (pc := 2) rfl xr290 rfl rfl rfl (Nat.le_of_ble_eq_true rfl) (Z290_1023 H X h2 (by omega)) (Nat.le_refl _) ?_
  refine q_lr (k := 1) (i := 0) (q := (.aload_n 0, 1, 0, 0, .null)) rfl (fun _ => rfl) l0 ?_
  refine q_li (k := 1) (i := 1) (q := (.iload_n 1, 1, 0, 0, .null)) rfl (fun _ => rfl) l1 ?_
  obtain ⟨q7, h7, h⟩ := xbind h
  refine r_callS (as := [.ref 1023, .int v1]) (rest := []) (rv := some (.int q7.1)) (hp' := xW B q7.2) (pc := 7) rfl xr287 rfl rfl rfl (Nat.le_of_ble_eq_true rfl) (Z287_1023 H X h7 (by omega)) (Nat.le_refl _) ?_
  obtain ⟨c1, h⟩ := xif h
  obtain rfl := Option.some.inj h
  exact q_ri (q := (.ireturn, 1, 0, 0, .null)) rfl (fun _ => rfl) rfl (xnar_ok rfl c1)
set_option maxRecDepth 20000 in
theorem Z289_1023 {B : zHp} (H : yH0 B) (X : yTx B) {F : Nat} {a1 : Int32} {m : xS} {x : Int32 × xS} (h : D289_1023 F a1 m = some x) {d : Nat} (hd : 4 ≤ d) : zCan d 289 [.ref 1023, .int a1] (xW B m) (some (.int x.1), xW B x.2) := by
  obtain ⟨e, rfl⟩ : ∃ e, d = e + 1 := ⟨d - 1, by omega⟩
  refine zCan_body (nL := 2) (rt := (some .char)) (cd := zc289) (xg289) ⟨Nat.le_of_ble_eq_true rfl, by decide⟩ (Nat.le_refl _) ?_
  exact T289_1023 H X hd F rfl rfl h
/-- java/lang/String.charAt -/
def D282_1004 (F : Nat) (v1 : Int32) (m : xS) : Option (Int32 × xS) :=
  (D284_1004 F m).bind fun q1 =>
    if zcmp .eq q1.1 0 = true then
      (D289_1023 F v1 q1.2).bind fun q21 =>
        if (vp_nar .char q21.1 == q21.1) = true then
          some (q21.1, q21.2)
        else none
    else
      (D286_1023 F v1 q1.2).bind fun q12 =>
        if (vp_nar .char q12.1 == q12.1) = true then
          some (q12.1, q12.2)
        else none
set_option maxRecDepth 20000 in
theorem T282_1004 {B : zHp} (H : yH0 B) (X : yTx B) {e : Nat} (he : 5 ≤ e + 1) (F : Nat) {v1 : Int32} {lv : List (Nat × Value)} {m : xS} {x : Int32 × xS} (l0 : zld lv 0 = some (.ref 1004)) (l1 : zld lv 1 = some (.int v1)) (h : D282_1004 F v1 m = some x) : zR none e 2 (some .char) zc282 (0, lv, []) (xW B m) (some (.int x.1), xW B x.2) := by
  unfold D282_1004 at h
  refine q_lr (k := 1) (i := 0) (q := (.aload_n 0, 1, 0, 0, .null)) rfl (fun _ => rfl) l0 ?_
  obtain ⟨q1, h1, h⟩ := xbind h
  refine r_call (ix := 1004) (as := []) (rest := []) (rv := some (.int q1.1)) (hp' := xW B q1.2) (pc := 1) rfl xr284 rfl rfl rfl rfl (Nat.le_of_ble_eq_true rfl) (Z284_1004 H X h1 (by omega)) (Nat.le_refl _) ?_
  refine r_if (len := 3) (a := 16) (b := 0) (v0 := .null) (cn := .eq) (off := 12) rfl (fun c => ?_) (fun c => ?_)
  · rw [if_pos c] at h
    refine q_lr (k := 1) (i := 0) (q := (.aload_n 0, 1, 0, 0, .null)) rfl (fun _ => rfl) l0 ?_
    refine r_s (fr' := (20, lv, [.ref 1023])) (hp' := xW B q1.2) (q := (.getfield 9, 3, 100, 0, .null)) rfl (fun _ => rfl) (Nat.le_refl _) ?_
    refine q_li (k := 1) (i := 1) (q := (.iload_n 1, 1, 0, 0, .null)) rfl (fun _ => rfl) l1 ?_
    obtain ⟨q21, h21, h⟩ := xbind h
    refine r_callS (as := [.ref 1023, .int v1]) (rest := []) (rv := some (.int q21.1)) (hp' := xW B q21.2) (pc := 21) rfl xr289 rfl rfl rfl (Nat.le_of_ble_eq_true rfl) (Z289_1023 H X h21 (by omega)) (Nat.le_refl _) ?_
    obtain ⟨c1, h⟩ := xif h
    obtain rfl := Option.some.inj h
    exact q_ri (q := (.ireturn, 1, 0, 0, .null)) rfl (fun _ => rfl) rfl (xnar_ok rfl c1)
  · rw [if_neg (by rw [c]; decide)] at h
    refine q_lr (k := 1) (i := 0) (q := (.aload_n 0, 1, 0, 0, .null)) rfl (fun _ => rfl) l0 ?_
    refine r_s (fr' := (11, lv, [.ref 1023])) (hp' := xW B q1.2) (q := (.getfield 9, 3, 100, 0, .null)) rfl (fun _ => rfl) (Nat.le_refl _) ?_
    refine q_li (k := 1) (i := 1) (q := (.iload_n 1, 1, 0, 0, .null)) rfl (fun _ => rfl) l1 ?_
    obtain ⟨q12, h12, h⟩ := xbind h
    refine r_callS (as := [.ref 1023, .int v1]) (rest := []) (rv := some (.int q12.1)) (hp' := xW B q12.2) (pc := 12) rfl xr286 rfl rfl rfl (Nat.le_of_ble_eq_true rfl) (Z286_1023 H X h12 (by omega)) (Nat.le_refl _) ?_
    obtain ⟨c2, h⟩ := xif h
    obtain rfl := Option.some.inj h
    exact q_ri (q := (.ireturn, 1, 0, 0, .null)) rfl (fun _ => rfl) rfl (xnar_ok rfl c2)
set_option maxRecDepth 20000 in
theorem Z282_1004 {B : zHp} (H : yH0 B) (X : yTx B) {F : Nat} {a1 : Int32} {m : xS} {x : Int32 × xS} (h : D282_1004 F a1 m = some x) {d : Nat} (hd : 5 ≤ d) : zCan d 282 [.ref 1004, .int a1] (xW B m) (some (.int x.1), xW B x.2) := by
  obtain ⟨e, rfl⟩ : ∃ e, d = e + 1 := ⟨d - 1, by omega⟩
  refine zCan_body (nL := 2) (rt := (some .char)) (cd := zc282) (xg282) ⟨Nat.le_of_ble_eq_true rfl, by decide⟩ (Nat.le_refl _) ?_
  exact T282_1004 H X hd F rfl rfl h
/-- LentTools$Text.passWord -/
def D59_2_1004_138 (F : Nat) (g55 : Int32 → Int32 → Int32 → Int32 → xS → Option (Int32 × xS)) (v2 : Int32) (v3 : Int32) (v4 : Int32) (v5 : Int32) (m : xS) : Option (Int32 × xS) :=
  g55 v2 v3 v4 (v5 + Int32.ofInt 1) m
set_option maxRecDepth 20000 in
theorem T59_2_1004_138 {B : zHp} (H : yH0 B) (X : yTx B) {e : Nat} (he : 6 ≤ e + 1) (F : Nat) (g55 : Int32 → Int32 → Int32 → Int32 → xS → Option (Int32 × xS)) (k55 : ∀ {v2 : Int32} {v3 : Int32} {v4 : Int32} {v5 : Int32} {lv : List (Nat × Value)} {m : xS} {x : Int32 × xS}, zld lv 0 = some (.ref 2) → zld lv 1 = some (.ref 1004) → zld lv 2 = some (.int v2) → zld lv 3 = some (.int v3) → zld lv 4 = some (.int v4) → zld lv 5 = some (.int v5) → g55 v2 v3 v4 v5 m = some x → zR none e 6 (some .int) zc59 (55, lv, []) (xW B m) (some (.int x.1), xW B x.2)) {v2 : Int32} {v3 : Int32} {v4 : Int32} {v5 : Int32} {lv : List (Nat × Value)} {m : xS} {x : Int32 × xS} (l0 : zld lv 0 = some (.ref 2)) (l1 : zld lv 1 = some (.ref 1004)) (l2 : zld lv 2 = some (.int v2)) (l3 : zld lv 3 = some (.int v3)) (l4 : zld lv 4 = some (.int v4)) (l5 : zld lv 5 = some (.int v5)) (h : D59_2_1004_138 F g55 v2 v3 v4 v5 m = some x) : zR none e 6 (some .int) zc59 (138, lv, []) (xW B m) (some (.int x.1), xW B x.2) := by
  unfold D59_2_1004_138 at h
  refine q_inc (i := 5) (n := 1) (q := (.iinc 5 1, 3, 0, 0, .null)) rfl (fun _ => rfl) l5 (by decide) ?_
  have l0_1 : zld (zs1 lv 5 (.int (v5 + Int32.ofInt 1))) 0 = some (.ref 2) := x_o1 l0 rfl rfl
  have l1_1 : zld (zs1 lv 5 (.int (v5 + Int32.ofInt 1))) 1 = some (.ref 1004) := x_o1 l1 rfl rfl
  have l2_1 : zld (zs1 lv 5 (.int (v5 + Int32.ofInt 1))) 2 = some (.int v2) := x_o1 l2 rfl rfl
  have l3_1 : zld (zs1 lv 5 (.int (v5 + Int32.ofInt 1))) 3 = some (.int v3) := x_o1 l3 rfl rfl
  have l4_1 : zld (zs1 lv 5 (.int (v5 + Int32.ofInt 1))) 4 = some (.int v4) := x_o1 l4 rfl rfl
  have l5_1 : zld (zs1 lv 5 (.int (v5 + Int32.ofInt 1))) 5 = some (.int (v5 + Int32.ofInt 1)) := zs1_ld _ _ _
  generalize (zs1 lv 5 (.int (v5 + Int32.ofInt 1))) = lv1 at *
  refine r_s (fr' := (55, lv1, [])) (hp' := xW B m) (q := (.goto (-86), 3, 55, 0, .null)) rfl (fun _ => rfl) (Nat.le_refl _) ?_
  exact k55 l0_1 l1_1 l2_1 l3_1 l4_1 l5_1 h
def D59_2_1004_111 (F : Nat) (g55 : Int32 → Int32 → Int32 → Int32 → xS → Option (Int32 × xS)) (v2 : Int32) (v3 : Int32) (v4 : Int32) (v5 : Int32) (w0 : Int32) (m : xS) : Option (Int32 × xS) :=
  D59_2_1004_138 F g55 v2 v3 w0 v5 m
set_option maxRecDepth 20000 in
theorem T59_2_1004_111 {B : zHp} (H : yH0 B) (X : yTx B) {e : Nat} (he : 6 ≤ e + 1) (F : Nat) (g55 : Int32 → Int32 → Int32 → Int32 → xS → Option (Int32 × xS)) (k55 : ∀ {v2 : Int32} {v3 : Int32} {v4 : Int32} {v5 : Int32} {lv : List (Nat × Value)} {m : xS} {x : Int32 × xS}, zld lv 0 = some (.ref 2) → zld lv 1 = some (.ref 1004) → zld lv 2 = some (.int v2) → zld lv 3 = some (.int v3) → zld lv 4 = some (.int v4) → zld lv 5 = some (.int v5) → g55 v2 v3 v4 v5 m = some x → zR none e 6 (some .int) zc59 (55, lv, []) (xW B m) (some (.int x.1), xW B x.2)) {v2 : Int32} {v3 : Int32} {v4 : Int32} {v5 : Int32} {w0 : Int32} {lv : List (Nat × Value)} {m : xS} {x : Int32 × xS} (l0 : zld lv 0 = some (.ref 2)) (l1 : zld lv 1 = some (.ref 1004)) (l2 : zld lv 2 = some (.int v2)) (l3 : zld lv 3 = some (.int v3)) (l4 : zld lv 4 = some (.int v4)) (l5 : zld lv 5 = some (.int v5)) (h : D59_2_1004_111 F g55 v2 v3 v4 v5 w0 m = some x) : zR none e 6 (some .int) zc59 (111, lv, [.int w0]) (xW B m) (some (.int x.1), xW B x.2) := by
  unfold D59_2_1004_111 at h
  refine q_si (k := 2) (i := 4) (q := (.istore 4, 2, 0, 0, .null)) rfl (fun _ => rfl) (by decide) ?_
  have l0_1 : zld (zs1 lv 4 (.int w0)) 0 = some (.ref 2) := x_o1 l0 rfl rfl
  have l1_1 : zld (zs1 lv 4 (.int w0)) 1 = some (.ref 1004) := x_o1 l1 rfl rfl
  have l2_1 : zld (zs1 lv 4 (.int w0)) 2 = some (.int v2) := x_o1 l2 rfl rfl
  have l3_1 : zld (zs1 lv 4 (.int w0)) 3 = some (.int v3) := x_o1 l3 rfl rfl
  have l4_1 : zld (zs1 lv 4 (.int w0)) 4 = some (.int w0) := zs1_ld _ _ _
  have l5_1 : zld (zs1 lv 4 (.int w0)) 5 = some (.int v5) := x_o1 l5 rfl rfl
  generalize (zs1 lv 4 (.int w0)) = lv1 at *
  refine r_s (fr' := (138, lv1, [])) (hp' := xW B m) (q := (.goto 25, 3, 138, 0, .null)) rfl (fun _ => rfl) (Nat.le_refl _) ?_
  exact T59_2_1004_138 H X he F _ k55 l0_1 l1_1 l2_1 l3_1 l4_1 l5_1 h
def D59_2_1004_110 (F : Nat) (g55 : Int32 → Int32 → Int32 → Int32 → xS → Option (Int32 × xS)) (v2 : Int32) (v3 : Int32) (v4 : Int32) (v5 : Int32) (m : xS) : Option (Int32 × xS) :=
  D59_2_1004_111 F g55 v2 v3 v4 v5 (-1) m
set_option maxRecDepth 20000 in
theorem T59_2_1004_110 {B : zHp} (H : yH0 B) (X : yTx B) {e : Nat} (he : 6 ≤ e + 1) (F : Nat) (g55 : Int32 → Int32 → Int32 → Int32 → xS → Option (Int32 × xS)) (k55 : ∀ {v2 : Int32} {v3 : Int32} {v4 : Int32} {v5 : Int32} {lv : List (Nat × Value)} {m : xS} {x : Int32 × xS}, zld lv 0 = some (.ref 2) → zld lv 1 = some (.ref 1004) → zld lv 2 = some (.int v2) → zld lv 3 = some (.int v3) → zld lv 4 = some (.int v4) → zld lv 5 = some (.int v5) → g55 v2 v3 v4 v5 m = some x → zR none e 6 (some .int) zc59 (55, lv, []) (xW B m) (some (.int x.1), xW B x.2)) {v2 : Int32} {v3 : Int32} {v4 : Int32} {v5 : Int32} {lv : List (Nat × Value)} {m : xS} {x : Int32 × xS} (l0 : zld lv 0 = some (.ref 2)) (l1 : zld lv 1 = some (.ref 1004)) (l2 : zld lv 2 = some (.int v2)) (l3 : zld lv 3 = some (.int v3)) (l4 : zld lv 4 = some (.int v4)) (l5 : zld lv 5 = some (.int v5)) (h : D59_2_1004_110 F g55 v2 v3 v4 v5 m = some x) : zR none e 6 (some .int) zc59 (110, lv, []) (xW B m) (some (.int x.1), xW B x.2) := by
  unfold D59_2_1004_110 at h
  refine r_s (fr' := (111, lv, [.int (-1)])) (hp' := xW B m) (q := (.iconst (-1), 1, 0, 0, .null)) rfl (fun _ => rfl) (Nat.le_refl _) ?_
  exact T59_2_1004_111 H X he F _ k55 l0 l1 l2 l3 l4 l5 h
def D59_2_1004_55 (F : Nat) : Nat → Int32 → Int32 → Int32 → Int32 → xS → Option (Int32 × xS)
  | 0, _, _, _, _, _ => none
  | f + 1, v2, v3, v4, v5, m =>
    (D281_1004 F m).bind fun q58 =>
      if zcmp .ge v5 q58.1 = true then
        some ((-1), q58.2)
      else
        (D282_1004 F v5 q58.2).bind fun q67 =>
          if zcmp .eq q67.1 32 = true then
            if zcmp .ne v4 v2 = true then
              D59_2_1004_138 F (D59_2_1004_55 F f) v2 (v3 + Int32.ofInt 1) (q67.2.1 2 3) v5 q67.2
            else
              some (v3, (xu q67.2 2 2 v2))
          else
            if zcmp .eq v4 (-1) = true then
              D59_2_1004_110 F (D59_2_1004_55 F f) v2 v3 v4 v5 q67.2
            else
              if zcmp .ge v4 v2 = true then
                D59_2_1004_110 F (D59_2_1004_55 F f) v2 v3 v4 v5 q67.2
              else
                if xib v4 400 = true then
                  (D282_1004 F v5 q67.2).bind fun q97 =>
                    if zcmp .ne (q67.2.1 1 (v4 : Int32).toNatClampNeg) q97.1 = true then
                      D59_2_1004_110 F (D59_2_1004_55 F f) v2 v3 v4 v5 q97.2
                    else
                      D59_2_1004_111 F (D59_2_1004_55 F f) v2 v3 v4 v5 (v4 + 1) q97.2
                else none
set_option maxRecDepth 20000 in
theorem T59_2_1004_55 {B : zHp} (H : yH0 B) (X : yTx B) {e : Nat} (he : 6 ≤ e + 1) (F : Nat) : ∀ (f : Nat) {v2 : Int32} {v3 : Int32} {v4 : Int32} {v5 : Int32} {lv : List (Nat × Value)} {m : xS} {x : Int32 × xS}, zld lv 0 = some (.ref 2) → zld lv 1 = some (.ref 1004) → zld lv 2 = some (.int v2) → zld lv 3 = some (.int v3) → zld lv 4 = some (.int v4) → zld lv 5 = some (.int v5) → D59_2_1004_55 F f v2 v3 v4 v5 m = some x → zR none e 6 (some .int) zc59 (55, lv, []) (xW B m) (some (.int x.1), xW B x.2) := by
  intro f
  induction f with
  | zero => intro v2 v3 v4 v5 lv m x l0 l1 l2 l3 l4 l5 h; cases h
  | succ f ih =>
    intro v2 v3 v4 v5 lv m x l0 l1 l2 l3 l4 l5 h
    unfold D59_2_1004_55 at h
    refine q_li (k := 2) (i := 5) (q := (.iload 5, 2, 0, 0, .null)) rfl (fun _ => rfl) l5 ?_
    refine q_lr (k := 1) (i := 1) (q := (.aload_n 1, 1, 0, 0, .null)) rfl (fun _ => rfl) l1 ?_
    obtain ⟨q58, h58, h⟩ := xbind h
    refine r_call (ix := 1004) (as := []) (rest := [.int v5]) (rv := some (.int q58.1)) (hp' := xW B q58.2) (pc := 58) rfl xr281 rfl rfl rfl rfl (Nat.le_of_ble_eq_true rfl) (Z281_1004 H X h58 (by omega)) (Nat.le_refl _) ?_
    refine r_ifc (len := 3) (a := 144) (b := 0) (v0 := .null) (cn := .ge) (off := 83) rfl (fun c => ?_) (fun c => ?_)
    · rw [if_pos c] at h
      refine r_s (fr' := (145, lv, [.int (-1)])) (hp' := xW B q58.2) (q := (.iconst (-1), 1, 0, 0, .null)) rfl (fun _ => rfl) (Nat.le_refl _) ?_
      obtain rfl := Option.some.inj h
      exact q_ri (q := (.ireturn, 1, 0, 0, .null)) rfl (fun _ => rfl) rfl rfl
    · rw [if_neg (by rw [c]; decide)] at h
      refine q_lr (k := 1) (i := 1) (q := (.aload_n 1, 1, 0, 0, .null)) rfl (fun _ => rfl) l1 ?_
      refine q_li (k := 2) (i := 5) (q := (.iload 5, 2, 0, 0, .null)) rfl (fun _ => rfl) l5 ?_
      obtain ⟨q67, h67, h⟩ := xbind h
      refine r_call (ix := 1004) (as := [.int v5]) (rest := []) (rv := some (.int q67.1)) (hp' := xW B q67.2) (pc := 67) rfl xr282 rfl rfl rfl rfl (Nat.le_of_ble_eq_true rfl) (Z282_1004 H X h67 (by omega)) (Nat.le_refl _) ?_
      refine r_s (fr' := (72, lv, [.int 32, .int q67.1])) (hp' := xW B q67.2) (q := (.bipush 32, 2, 0, 0, .null)) rfl (fun _ => rfl) (Nat.le_refl _) ?_
      refine r_ifc (len := 3) (a := 116) (b := 0) (v0 := .null) (cn := .eq) (off := 44) rfl (fun c => ?_) (fun c => ?_)
      · rw [if_pos c] at h
        refine q_li (k := 2) (i := 4) (q := (.iload 4, 2, 0, 0, .null)) rfl (fun _ => rfl) l4 ?_
        refine q_li (k := 1) (i := 2) (q := (.iload_n 2, 1, 0, 0, .null)) rfl (fun _ => rfl) l2 ?_
        refine r_ifc (len := 3) (a := 129) (b := 0) (v0 := .null) (cn := .ne) (off := 10) rfl (fun c => ?_) (fun c => ?_)
        · rw [if_pos c] at h
          refine q_inc (i := 3) (n := 1) (q := (.iinc 3 1, 3, 0, 0, .null)) rfl (fun _ => rfl) l3 (by decide) ?_
          have l0_1 : zld (zs1 lv 3 (.int (v3 + Int32.ofInt 1))) 0 = some (.ref 2) := x_o1 l0 rfl rfl
          have l1_1 : zld (zs1 lv 3 (.int (v3 + Int32.ofInt 1))) 1 = some (.ref 1004) := x_o1 l1 rfl rfl
          have l2_1 : zld (zs1 lv 3 (.int (v3 + Int32.ofInt 1))) 2 = some (.int v2) := x_o1 l2 rfl rfl
          have l3_1 : zld (zs1 lv 3 (.int (v3 + Int32.ofInt 1))) 3 = some (.int (v3 + Int32.ofInt 1)) := zs1_ld _ _ _
          have l4_1 : zld (zs1 lv 3 (.int (v3 + Int32.ofInt 1))) 4 = some (.int v4) := x_o1 l4 rfl rfl
          have l5_1 : zld (zs1 lv 3 (.int (v3 + Int32.ofInt 1))) 5 = some (.int v5) := x_o1 l5 rfl rfl
          generalize (zs1 lv 3 (.int (v3 + Int32.ofInt 1))) = lv1 at *
          refine q_lr (k := 1) (i := 0) (q := (.aload_n 0, 1, 0, 0, .null)) rfl (fun _ => rfl) l0_1 ?_
          refine r_gi (v := (q67.2.1 2 3)) H (pc := 133) (i := _) rfl (by decide) (by decide) rfl ?_
          refine q_si (k := 2) (i := 4) (q := (.istore 4, 2, 0, 0, .null)) rfl (fun _ => rfl) (by decide) ?_
          have l0_2 : zld (zs1 lv1 4 (.int (q67.2.1 2 3))) 0 = some (.ref 2) := x_o1 l0_1 rfl rfl
          have l1_2 : zld (zs1 lv1 4 (.int (q67.2.1 2 3))) 1 = some (.ref 1004) := x_o1 l1_1 rfl rfl
          have l2_2 : zld (zs1 lv1 4 (.int (q67.2.1 2 3))) 2 = some (.int v2) := x_o1 l2_1 rfl rfl
          have l3_2 : zld (zs1 lv1 4 (.int (q67.2.1 2 3))) 3 = some (.int (v3 + Int32.ofInt 1)) := x_o1 l3_1 rfl rfl
          have l4_2 : zld (zs1 lv1 4 (.int (q67.2.1 2 3))) 4 = some (.int (q67.2.1 2 3)) := zs1_ld _ _ _
          have l5_2 : zld (zs1 lv1 4 (.int (q67.2.1 2 3))) 5 = some (.int v5) := x_o1 l5_1 rfl rfl
          generalize (zs1 lv1 4 (.int (q67.2.1 2 3))) = lv2 at *
          exact T59_2_1004_138 H X he F _ ih l0_2 l1_2 l2_2 l3_2 l4_2 l5_2 h
        · rw [if_neg (by rw [c]; decide)] at h
          refine q_lr (k := 1) (i := 0) (q := (.aload_n 0, 1, 0, 0, .null)) rfl (fun _ => rfl) l0 ?_
          refine q_li (k := 1) (i := 2) (q := (.iload_n 2, 1, 0, 0, .null)) rfl (fun _ => rfl) l2 ?_
          refine r_pi (s2 := (xu q67.2 2 2 v2)) H (pc := 124) rfl (by decide) rfl rfl ?_
          refine q_li (k := 1) (i := 3) (q := (.iload_n 3, 1, 0, 0, .null)) rfl (fun _ => rfl) l3 ?_
          obtain rfl := Option.some.inj h
          exact q_ri (q := (.ireturn, 1, 0, 0, .null)) rfl (fun _ => rfl) rfl rfl
      · rw [if_neg (by rw [c]; decide)] at h
        refine q_li (k := 2) (i := 4) (q := (.iload 4, 2, 0, 0, .null)) rfl (fun _ => rfl) l4 ?_
        refine r_s (fr' := (78, lv, [.int (-1), .int v4])) (hp' := xW B q67.2) (q := (.iconst (-1), 1, 0, 0, .null)) rfl (fun _ => rfl) (Nat.le_refl _) ?_
        refine r_ifc (len := 3) (a := 110) (b := 0) (v0 := .null) (cn := .eq) (off := 32) rfl (fun c => ?_) (fun c => ?_)
        · rw [if_pos c] at h
          exact T59_2_1004_110 H X he F _ ih l0 l1 l2 l3 l4 l5 h
        · rw [if_neg (by rw [c]; decide)] at h
          refine q_li (k := 2) (i := 4) (q := (.iload 4, 2, 0, 0, .null)) rfl (fun _ => rfl) l4 ?_
          refine q_li (k := 1) (i := 2) (q := (.iload_n 2, 1, 0, 0, .null)) rfl (fun _ => rfl) l2 ?_
          refine r_ifc (len := 3) (a := 110) (b := 0) (v0 := .null) (cn := .ge) (off := 26) rfl (fun c => ?_) (fun c => ?_)
          · rw [if_pos c] at h
            exact T59_2_1004_110 H X he F _ ih l0 l1 l2 l3 l4 l5 h
          · rw [if_neg (by rw [c]; decide)] at h
            refine q_lr (k := 1) (i := 0) (q := (.aload_n 0, 1, 0, 0, .null)) rfl (fun _ => rfl) l0 ?_
            refine r_grx H X (pc := 88) rfl ?_
            refine q_li (k := 2) (i := 4) (q := (.iload 4, 2, 0, 0, .null)) rfl (fun _ => rfl) l4 ?_
            obtain ⟨c3, h⟩ := xif h
            refine q_al (n := 400) (v := (q67.2.1 1 (v4 : Int32).toNatClampNeg)) H (pc := 93) rfl (by decide) c3 rfl ?_
            refine q_lr (k := 1) (i := 1) (q := (.aload_n 1, 1, 0, 0, .null)) rfl (fun _ => rfl) l1 ?_
            refine q_li (k := 2) (i := 5) (q := (.iload 5, 2, 0, 0, .null)) rfl (fun _ => rfl) l5 ?_
            obtain ⟨q97, h97, h⟩ := xbind h
            refine r_call (ix := 1004) (as := [.int v5]) (rest := [.int (q67.2.1 1 (v4 : Int32).toNatClampNeg)]) (rv := some (.int q97.1)) (hp' := xW B q97.2) (pc := 97) rfl xr282 rfl rfl rfl rfl (Nat.le_of_ble_eq_true rfl) (Z282_1004 H X h97 (by omega)) (Nat.le_refl _) ?_
            refine r_ifc (len := 3) (a := 110) (b := 0) (v0 := .null) (cn := .ne) (off := 10) rfl (fun c => ?_) (fun c => ?_)
            · rw [if_pos c] at h
              exact T59_2_1004_110 H X he F _ ih l0 l1 l2 l3 l4 l5 h
            · rw [if_neg (by rw [c]; decide)] at h
              refine q_li (k := 2) (i := 4) (q := (.iload 4, 2, 0, 0, .null)) rfl (fun _ => rfl) l4 ?_
              refine r_s (fr' := (106, lv, [.int 1, .int v4])) (hp' := xW B q97.2) (q := (.iconst 1, 1, 0, 0, .null)) rfl (fun _ => rfl) (Nat.le_refl _) ?_
              refine r_s (fr' := (107, lv, [.int (v4 + 1)])) (hp' := xW B q97.2) (q := (.iadd, 1, 0, 0, .null)) rfl (fun _ => rfl) (Nat.le_refl _) ?_
              refine r_s (fr' := (111, lv, [.int (v4 + 1)])) (hp' := xW B q97.2) (q := (.goto 4, 3, 111, 0, .null)) rfl (fun _ => rfl) (Nat.le_refl _) ?_
              exact T59_2_1004_111 H X he F _ ih l0 l1 l2 l3 l4 l5 h
def D59_2_1004_44 (F : Nat) (v2 : Int32) (m : xS) : Option (Int32 × xS) :=
  D59_2_1004_55 F F v2 0 (m.1 2 3) 0 m
set_option maxRecDepth 20000 in
theorem T59_2_1004_44 {B : zHp} (H : yH0 B) (X : yTx B) {e : Nat} (he : 6 ≤ e + 1) (F : Nat) {v2 : Int32} {lv : List (Nat × Value)} {m : xS} {x : Int32 × xS} (l0 : zld lv 0 = some (.ref 2)) (l1 : zld lv 1 = some (.ref 1004)) (l2 : zld lv 2 = some (.int v2)) (h : D59_2_1004_44 F v2 m = some x) : zR none e 6 (some .int) zc59 (44, lv, []) (xW B m) (some (.int x.1), xW B x.2) := by
  unfold D59_2_1004_44 at h
  refine r_s (fr' := (45, lv, [.int 0])) (hp' := xW B m) (q := (.iconst 0, 1, 0, 0, .null)) rfl (fun _ => rfl) (Nat.le_refl _) ?_
  refine q_si (k := 1) (i := 3) (q := (.istore_n 3, 1, 0, 0, .null)) rfl (fun _ => rfl) (by decide) ?_
  have l0_1 : zld (zs1 lv 3 (.int 0)) 0 = some (.ref 2) := x_o1 l0 rfl rfl
  have l1_1 : zld (zs1 lv 3 (.int 0)) 1 = some (.ref 1004) := x_o1 l1 rfl rfl
  have l2_1 : zld (zs1 lv 3 (.int 0)) 2 = some (.int v2) := x_o1 l2 rfl rfl
  have l3_1 : zld (zs1 lv 3 (.int 0)) 3 = some (.int 0) := zs1_ld _ _ _
  generalize (zs1 lv 3 (.int 0)) = lv1 at *
  refine q_lr (k := 1) (i := 0) (q := (.aload_n 0, 1, 0, 0, .null)) rfl (fun _ => rfl) l0_1 ?_
  refine r_gi (v := (m.1 2 3)) H (pc := 47) (i := _) rfl (by decide) (by decide) rfl ?_
  refine q_si (k := 2) (i := 4) (q := (.istore 4, 2, 0, 0, .null)) rfl (fun _ => rfl) (by decide) ?_
  have l0_2 : zld (zs1 lv1 4 (.int (m.1 2 3))) 0 = some (.ref 2) := x_o1 l0_1 rfl rfl
  have l1_2 : zld (zs1 lv1 4 (.int (m.1 2 3))) 1 = some (.ref 1004) := x_o1 l1_1 rfl rfl
  have l2_2 : zld (zs1 lv1 4 (.int (m.1 2 3))) 2 = some (.int v2) := x_o1 l2_1 rfl rfl
  have l3_2 : zld (zs1 lv1 4 (.int (m.1 2 3))) 3 = some (.int 0) := x_o1 l3_1 rfl rfl
  have l4_2 : zld (zs1 lv1 4 (.int (m.1 2 3))) 4 = some (.int (m.1 2 3)) := zs1_ld _ _ _
  generalize (zs1 lv1 4 (.int (m.1 2 3))) = lv2 at *
  refine r_s (fr' := (53, lv2, [.int 0])) (hp' := xW B m) (q := (.iconst 0, 1, 0, 0, .null)) rfl (fun _ => rfl) (Nat.le_refl _) ?_
  refine q_si (k := 2) (i := 5) (q := (.istore 5, 2, 0, 0, .null)) rfl (fun _ => rfl) (by decide) ?_
  have l0_3 : zld (zs1 lv2 5 (.int 0)) 0 = some (.ref 2) := x_o1 l0_2 rfl rfl
  have l1_3 : zld (zs1 lv2 5 (.int 0)) 1 = some (.ref 1004) := x_o1 l1_2 rfl rfl
  have l2_3 : zld (zs1 lv2 5 (.int 0)) 2 = some (.int v2) := x_o1 l2_2 rfl rfl
  have l3_3 : zld (zs1 lv2 5 (.int 0)) 3 = some (.int 0) := x_o1 l3_2 rfl rfl
  have l4_3 : zld (zs1 lv2 5 (.int 0)) 4 = some (.int (m.1 2 3)) := x_o1 l4_2 rfl rfl
  have l5_3 : zld (zs1 lv2 5 (.int 0)) 5 = some (.int 0) := zs1_ld _ _ _
  generalize (zs1 lv2 5 (.int 0)) = lv3 at *
  exact T59_2_1004_55 H X he F F l0_3 l1_3 l2_3 l3_3 l4_3 l5_3 h
def D59_2_1004_18 (F : Nat) : Nat → Int32 → xS → Option (Int32 × xS)
  | 0, _, _ => none
  | f + 1, v2, m =>
    if zcmp .ge v2 (m.1 2 1) = true then
      D59_2_1004_44 F v2 m
    else
      if xib v2 400 = true then
        (D57 F (m.1 1 (v2 : Int32).toNatClampNeg) m).bind fun q32 =>
          if zcmp .eq q32.1 0 = true then
            D59_2_1004_44 F v2 q32.2
          else
            D59_2_1004_18 F f (v2 + Int32.ofInt 1) q32.2
      else none
set_option maxRecDepth 20000 in
theorem T59_2_1004_18 {B : zHp} (H : yH0 B) (X : yTx B) {e : Nat} (he : 6 ≤ e + 1) (F : Nat) : ∀ (f : Nat) {v2 : Int32} {lv : List (Nat × Value)} {m : xS} {x : Int32 × xS}, zld lv 0 = some (.ref 2) → zld lv 1 = some (.ref 1004) → zld lv 2 = some (.int v2) → D59_2_1004_18 F f v2 m = some x → zR none e 6 (some .int) zc59 (18, lv, []) (xW B m) (some (.int x.1), xW B x.2) := by
  intro f
  induction f with
  | zero => intro v2 lv m x l0 l1 l2 h; cases h
  | succ f ih =>
    intro v2 lv m x l0 l1 l2 h
    unfold D59_2_1004_18 at h
    refine q_li (k := 1) (i := 2) (q := (.iload_n 2, 1, 0, 0, .null)) rfl (fun _ => rfl) l2 ?_
    refine q_lr (k := 1) (i := 0) (q := (.aload_n 0, 1, 0, 0, .null)) rfl (fun _ => rfl) l0 ?_
    refine r_gi (v := (m.1 2 1)) H (pc := 20) (i := _) rfl (by decide) (by decide) rfl ?_
    refine r_ifc (len := 3) (a := 44) (b := 0) (v0 := .null) (cn := .ge) (off := 21) rfl (fun c => ?_) (fun c => ?_)
    · rw [if_pos c] at h
      exact T59_2_1004_44 H X he F l0 l1 l2 h
    · rw [if_neg (by rw [c]; decide)] at h
      refine q_lr (k := 1) (i := 0) (q := (.aload_n 0, 1, 0, 0, .null)) rfl (fun _ => rfl) l0 ?_
      refine r_grx H X (pc := 27) rfl ?_
      refine q_li (k := 1) (i := 2) (q := (.iload_n 2, 1, 0, 0, .null)) rfl (fun _ => rfl) l2 ?_
      obtain ⟨c1, h⟩ := xif h
      refine q_al (n := 400) (v := (m.1 1 (v2 : Int32).toNatClampNeg)) H (pc := 31) rfl (by decide) c1 rfl ?_
      obtain ⟨q32, h32, h⟩ := xbind h
      refine r_callS (as := [.int (m.1 1 (v2 : Int32).toNatClampNeg)]) (rest := []) (rv := some (.int q32.1)) (hp' := xW B q32.2) (pc := 32) rfl xr57 rfl rfl rfl (Nat.le_of_ble_eq_true rfl) (Z57 H X h32 (by omega)) (Nat.le_refl _) ?_
      refine r_if (len := 3) (a := 44) (b := 0) (v0 := .null) (cn := .eq) (off := 9) rfl (fun c => ?_) (fun c => ?_)
      · rw [if_pos c] at h
        exact T59_2_1004_44 H X he F l0 l1 l2 h
      · rw [if_neg (by rw [c]; decide)] at h
        refine q_inc (i := 2) (n := 1) (q := (.iinc 2 1, 3, 0, 0, .null)) rfl (fun _ => rfl) l2 (by decide) ?_
        have l0_2 : zld (zs1 lv 2 (.int (v2 + Int32.ofInt 1))) 0 = some (.ref 2) := x_o1 l0 rfl rfl
        have l1_2 : zld (zs1 lv 2 (.int (v2 + Int32.ofInt 1))) 1 = some (.ref 1004) := x_o1 l1 rfl rfl
        have l2_2 : zld (zs1 lv 2 (.int (v2 + Int32.ofInt 1))) 2 = some (.int (v2 + Int32.ofInt 1)) := zs1_ld _ _ _
        generalize (zs1 lv 2 (.int (v2 + Int32.ofInt 1))) = lv2 at *
        refine r_s (fr' := (18, lv2, [])) (hp' := xW B q32.2) (q := (.goto (-23), 3, 18, 0, .null)) rfl (fun _ => rfl) (Nat.le_refl _) ?_
        exact ih l0_2 l1_2 l2_2 h
def D59_2_1004 (F : Nat) (m : xS) : Option (Int32 × xS) :=
  (D53_2 F m).bind fun q1 =>
    D59_2_1004_18 F F (q1.2.1 2 2) (xu q1.2 2 3 (q1.2.1 2 2))
set_option maxRecDepth 20000 in
theorem T59_2_1004 {B : zHp} (H : yH0 B) (X : yTx B) {e : Nat} (he : 6 ≤ e + 1) (F : Nat) {lv : List (Nat × Value)} {m : xS} {x : Int32 × xS} (l0 : zld lv 0 = some (.ref 2)) (l1 : zld lv 1 = some (.ref 1004)) (h : D59_2_1004 F m = some x) : zR none e 6 (some .int) zc59 (0, lv, []) (xW B m) (some (.int x.1), xW B x.2) := by
  unfold D59_2_1004 at h
  refine q_lr (k := 1) (i := 0) (q := (.aload_n 0, 1, 0, 0, .null)) rfl (fun _ => rfl) l0 ?_
  obtain ⟨q1, h1, h⟩ := xbind h
  refine r_call (ix := 2) (as := []) (rest := []) (rv := some (.int q1.1)) (hp' := xW B q1.2) (pc := 1) rfl xr53 rfl rfl rfl (xkd H (by decide)) (Nat.le_of_ble_eq_true rfl) (Z53_2 H X h1 (by omega)) (Nat.le_refl _) ?_
  refine r_s (fr' := (5, lv, [])) (hp' := xW B q1.2) (q := (.pop, 1, 0, 0, .null)) rfl (fun _ => rfl) (Nat.le_refl _) ?_
  refine q_lr (k := 1) (i := 0) (q := (.aload_n 0, 1, 0, 0, .null)) rfl (fun _ => rfl) l0 ?_
  refine q_lr (k := 1) (i := 0) (q := (.aload_n 0, 1, 0, 0, .null)) rfl (fun _ => rfl) l0 ?_
  refine r_gi (v := (q1.2.1 2 2)) H (pc := 7) (i := _) rfl (by decide) (by decide) rfl ?_
  refine r_pi (s2 := (xu q1.2 2 3 (q1.2.1 2 2))) H (pc := 10) rfl (by decide) rfl rfl ?_
  refine q_lr (k := 1) (i := 0) (q := (.aload_n 0, 1, 0, 0, .null)) rfl (fun _ => rfl) l0 ?_
  refine r_gi (v := (q1.2.1 2 2)) H (pc := 14) (i := _) rfl (by decide) (by decide) rfl ?_
  refine q_si (k := 1) (i := 2) (q := (.istore_n 2, 1, 0, 0, .null)) rfl (fun _ => rfl) (by decide) ?_
  have l0_1 : zld (zs1 lv 2 (.int (q1.2.1 2 2))) 0 = some (.ref 2) := x_o1 l0 rfl rfl
  have l1_1 : zld (zs1 lv 2 (.int (q1.2.1 2 2))) 1 = some (.ref 1004) := x_o1 l1 rfl rfl
  have l2_1 : zld (zs1 lv 2 (.int (q1.2.1 2 2))) 2 = some (.int (q1.2.1 2 2)) := zs1_ld _ _ _
  generalize (zs1 lv 2 (.int (q1.2.1 2 2))) = lv1 at *
  exact T59_2_1004_18 H X he F F l0_1 l1_1 l2_1 h
set_option maxRecDepth 20000 in
theorem Z59_2_1004 {B : zHp} (H : yH0 B) (X : yTx B) {F : Nat} {m : xS} {x : Int32 × xS} (h : D59_2_1004 F m = some x) {d : Nat} (hd : 6 ≤ d) : zCan d 59 [.ref 2, .ref 1004] (xW B m) (some (.int x.1), xW B x.2) := by
  obtain ⟨e, rfl⟩ : ∃ e, d = e + 1 := ⟨d - 1, by omega⟩
  refine zCan_body (nL := 6) (rt := (some .int)) (cd := zc59) (xg59) ⟨Nat.le_of_ble_eq_true rfl, by decide⟩ (Nat.le_refl _) ?_
  exact T59_2_1004 H X hd F rfl rfl h
/-- LentTools$Text.expectWord -/
def D60_2_1004_20 (F : Nat) (v2 : Int32) (m : xS) : Option (Int32 × xS) :=
  some (v2, m)
set_option maxRecDepth 20000 in
theorem T60_2_1004_20 {B : zHp} (H : yH0 B) (X : yTx B) {e : Nat} (he : 7 ≤ e + 1) (F : Nat) {v2 : Int32} {lv : List (Nat × Value)} {m : xS} {x : Int32 × xS} (l0 : zld lv 0 = some (.ref 2)) (l1 : zld lv 1 = some (.ref 1004)) (l2 : zld lv 2 = some (.int v2)) (h : D60_2_1004_20 F v2 m = some x) : zR none e 3 (some .int) zc60 (20, lv, []) (xW B m) (some (.int x.1), xW B x.2) := by
  unfold D60_2_1004_20 at h
  refine q_li (k := 1) (i := 2) (q := (.iload_n 2, 1, 0, 0, .null)) rfl (fun _ => rfl) l2 ?_
  obtain rfl := Option.some.inj h
  exact q_ri (q := (.ireturn, 1, 0, 0, .null)) rfl (fun _ => rfl) rfl rfl
def D60_2_1004 (F : Nat) (m : xS) : Option (Int32 × xS) :=
  (D59_2_1004 F m).bind fun q2 =>
    if zcmp .ne q2.1 (-1) = true then
      D60_2_1004_20 F q2.1 q2.2
    else
      (D52_2 F (q2.2.1 2 3) 0 q2.2).bind fun q17 =>
        D60_2_1004_20 F q2.1 q17.2
set_option maxRecDepth 20000 in
theorem T60_2_1004 {B : zHp} (H : yH0 B) (X : yTx B) {e : Nat} (he : 7 ≤ e + 1) (F : Nat) {lv : List (Nat × Value)} {m : xS} {x : Int32 × xS} (l0 : zld lv 0 = some (.ref 2)) (l1 : zld lv 1 = some (.ref 1004)) (h : D60_2_1004 F m = some x) : zR none e 3 (some .int) zc60 (0, lv, []) (xW B m) (some (.int x.1), xW B x.2) := by
  unfold D60_2_1004 at h
  refine q_lr (k := 1) (i := 0) (q := (.aload_n 0, 1, 0, 0, .null)) rfl (fun _ => rfl) l0 ?_
  refine q_lr (k := 1) (i := 1) (q := (.aload_n 1, 1, 0, 0, .null)) rfl (fun _ => rfl) l1 ?_
  obtain ⟨q2, h2, h⟩ := xbind h
  refine r_call (ix := 2) (as := [.ref 1004]) (rest := []) (rv := some (.int q2.1)) (hp' := xW B q2.2) (pc := 2) rfl xr59 rfl rfl rfl (xkd H (by decide)) (Nat.le_of_ble_eq_true rfl) (Z59_2_1004 H X h2 (by omega)) (Nat.le_refl _) ?_
  refine q_si (k := 1) (i := 2) (q := (.istore_n 2, 1, 0, 0, .null)) rfl (fun _ => rfl) (by decide) ?_
  have l0_1 : zld (zs1 lv 2 (.int q2.1)) 0 = some (.ref 2) := x_o1 l0 rfl rfl
  have l1_1 : zld (zs1 lv 2 (.int q2.1)) 1 = some (.ref 1004) := x_o1 l1 rfl rfl
  have l2_1 : zld (zs1 lv 2 (.int q2.1)) 2 = some (.int q2.1) := zs1_ld _ _ _
  generalize (zs1 lv 2 (.int q2.1)) = lv1 at *
  refine q_li (k := 1) (i := 2) (q := (.iload_n 2, 1, 0, 0, .null)) rfl (fun _ => rfl) l2_1 ?_
  refine r_s (fr' := (8, lv1, [.int (-1), .int q2.1])) (hp' := xW B q2.2) (q := (.iconst (-1), 1, 0, 0, .null)) rfl (fun _ => rfl) (Nat.le_refl _) ?_
  refine r_ifc (len := 3) (a := 20) (b := 0) (v0 := .null) (cn := .ne) (off := 12) rfl (fun c => ?_) (fun c => ?_)
  · rw [if_pos c] at h
    exact T60_2_1004_20 H X he F l0_1 l1_1 l2_1 h
  · rw [if_neg (by rw [c]; decide)] at h
    refine q_lr (k := 1) (i := 0) (q := (.aload_n 0, 1, 0, 0, .null)) rfl (fun _ => rfl) l0_1 ?_
    refine q_lr (k := 1) (i := 0) (q := (.aload_n 0, 1, 0, 0, .null)) rfl (fun _ => rfl) l0_1 ?_
    refine r_gi (v := (q2.2.1 2 3)) H (pc := 13) (i := _) rfl (by decide) (by decide) rfl ?_
    refine r_s (fr' := (17, lv1, [.int 0, .int (q2.2.1 2 3), .ref 2])) (hp' := xW B q2.2) (q := (.iconst 0, 1, 0, 0, .null)) rfl (fun _ => rfl) (Nat.le_refl _) ?_
    obtain ⟨q17, h17, h⟩ := xbind h
    refine r_call (ix := 2) (as := [.int (q2.2.1 2 3), .int 0]) (rest := []) (rv := none) (hp' := xW B q17.2) (pc := 17) rfl xr52 rfl rfl rfl (xkd H (by decide)) (Nat.le_of_ble_eq_true rfl) (Z52_2 H X h17 (by omega)) (Nat.le_refl _) ?_
    exact T60_2_1004_20 H X he F l0_1 l1_1 l2_1 h
set_option maxRecDepth 20000 in
theorem Z60_2_1004 {B : zHp} (H : yH0 B) (X : yTx B) {F : Nat} {m : xS} {x : Int32 × xS} (h : D60_2_1004 F m = some x) {d : Nat} (hd : 7 ≤ d) : zCan d 60 [.ref 2, .ref 1004] (xW B m) (some (.int x.1), xW B x.2) := by
  obtain ⟨e, rfl⟩ : ∃ e, d = e + 1 := ⟨d - 1, by omega⟩
  refine zCan_body (nL := 3) (rt := (some .int)) (cd := zc60) (xg60) ⟨Nat.le_of_ble_eq_true rfl, by decide⟩ (Nat.le_refl _) ?_
  exact T60_2_1004 H X hd F rfl rfl h
/-- LentTools$RuleReader.countOne -/
def D37_6_2_15 (F : Nat) (v2 : Int32) (m : xS) : Option (Unit × xS) :=
  some ((), (xu m 6 5 ((m.1 6 5) + 1)))
set_option maxRecDepth 20000 in
theorem T37_6_2_15 {B : zHp} (H : yH0 B) (X : yTx B) {e : Nat} (he : 2 ≤ e + 1) (F : Nat) {v2 : Int32} {lv : List (Nat × Value)} {m : xS} {x : Unit × xS} (l0 : zld lv 0 = some (.ref 6)) (l1 : zld lv 1 = some (.ref 2)) (l2 : zld lv 2 = some (.int v2)) (h : D37_6_2_15 F v2 m = some x) : zR none e 3 none zc37 (15, lv, []) (xW B m) (none, xW B x.2) := by
  unfold D37_6_2_15 at h
  refine q_lr (k := 1) (i := 0) (q := (.aload_n 0, 1, 0, 0, .null)) rfl (fun _ => rfl) l0 ?_
  refine r_s (fr' := (17, lv, [.ref 6, .ref 6])) (hp' := xW B m) (q := (.dup, 1, 0, 0, .null)) rfl (fun _ => rfl) (Nat.le_refl _) ?_
  refine r_gi (v := (m.1 6 5)) H (pc := 17) (i := _) rfl (by decide) (by decide) rfl ?_
  refine r_s (fr' := (21, lv, [.int 1, .int (m.1 6 5), .ref 6])) (hp' := xW B m) (q := (.iconst 1, 1, 0, 0, .null)) rfl (fun _ => rfl) (Nat.le_refl _) ?_
  refine r_s (fr' := (22, lv, [.int ((m.1 6 5) + 1), .ref 6])) (hp' := xW B m) (q := (.iadd, 1, 0, 0, .null)) rfl (fun _ => rfl) (Nat.le_refl _) ?_
  refine r_pi (s2 := (xu m 6 5 ((m.1 6 5) + 1))) H (pc := 22) rfl (by decide) rfl rfl ?_
  obtain rfl := Option.some.inj h
  exact r_ret (q := (.return_, 1, 0, 0, .null)) rfl rfl (fun _ => rfl)
def D37_6_2 (F : Nat) (v2 : Int32) (m : xS) : Option (Unit × xS) :=
  if zcmp .lt (m.1 6 5) 60 = true then
    D37_6_2_15 F v2 m
  else
    (D52_2 F v2 3 m).bind fun q12 =>
      D37_6_2_15 F v2 q12.2
set_option maxRecDepth 20000 in
theorem T37_6_2 {B : zHp} (H : yH0 B) (X : yTx B) {e : Nat} (he : 2 ≤ e + 1) (F : Nat) {v2 : Int32} {lv : List (Nat × Value)} {m : xS} {x : Unit × xS} (l0 : zld lv 0 = some (.ref 6)) (l1 : zld lv 1 = some (.ref 2)) (l2 : zld lv 2 = some (.int v2)) (h : D37_6_2 F v2 m = some x) : zR none e 3 none zc37 (0, lv, []) (xW B m) (none, xW B x.2) := by
  unfold D37_6_2 at h
  refine q_lr (k := 1) (i := 0) (q := (.aload_n 0, 1, 0, 0, .null)) rfl (fun _ => rfl) l0 ?_
  refine r_gi (v := (m.1 6 5)) H (pc := 1) (i := _) rfl (by decide) (by decide) rfl ?_
  refine r_s (fr' := (6, lv, [.int 60, .int (m.1 6 5)])) (hp' := xW B m) (q := (.bipush 60, 2, 0, 0, .null)) rfl (fun _ => rfl) (Nat.le_refl _) ?_
  refine r_ifc (len := 3) (a := 15) (b := 0) (v0 := .null) (cn := .lt) (off := 9) rfl (fun c => ?_) (fun c => ?_)
  · rw [if_pos c] at h
    exact T37_6_2_15 H X he F l0 l1 l2 h
  · rw [if_neg (by rw [c]; decide)] at h
    refine q_lr (k := 1) (i := 1) (q := (.aload_n 1, 1, 0, 0, .null)) rfl (fun _ => rfl) l1 ?_
    refine q_li (k := 1) (i := 2) (q := (.iload_n 2, 1, 0, 0, .null)) rfl (fun _ => rfl) l2 ?_
    refine r_s (fr' := (12, lv, [.int 3, .int v2, .ref 2])) (hp' := xW B m) (q := (.iconst 3, 1, 0, 0, .null)) rfl (fun _ => rfl) (Nat.le_refl _) ?_
    obtain ⟨q12, h12, h⟩ := xbind h
    refine r_call (ix := 2) (as := [.int v2, .int 3]) (rest := []) (rv := none) (hp' := xW B q12.2) (pc := 12) rfl xr52 rfl rfl rfl (xkd H (by decide)) (Nat.le_of_ble_eq_true rfl) (Z52_2 H X h12 (by omega)) (Nat.le_refl _) ?_
    exact T37_6_2_15 H X he F l0 l1 l2 h
set_option maxRecDepth 20000 in
theorem Z37_6_2 {B : zHp} (H : yH0 B) (X : yTx B) {F : Nat} {a2 : Int32} {m : xS} {x : Unit × xS} (h : D37_6_2 F a2 m = some x) {d : Nat} (hd : 2 ≤ d) : zCan d 37 [.ref 6, .ref 2, .int a2] (xW B m) (none, xW B x.2) := by
  obtain ⟨e, rfl⟩ : ∃ e, d = e + 1 := ⟨d - 1, by omega⟩
  refine zCan_body (nL := 3) (rt := none) (cd := zc37) (xg37) ⟨Nat.le_of_ble_eq_true rfl, by decide⟩ (Nat.le_refl _) ?_
  exact T37_6_2 H X hd F rfl rfl rfl h
/-- LentTools$RuleReader.readValue -/
def D36_6_2_40 (F : Nat) (m : xS) : Option (Unit × xS) :=
  (D37_6_2 F (m.1 2 3) m).bind fun q46 =>
    some ((), (xu q46.2 6 8 3))
set_option maxRecDepth 20000 in
theorem T36_6_2_40 {B : zHp} (H : yH0 B) (X : yTx B) {e : Nat} (he : 8 ≤ e + 1) (F : Nat) {lv : List (Nat × Value)} {m : xS} {x : Unit × xS} (l0 : zld lv 0 = some (.ref 6)) (l1 : zld lv 1 = some (.ref 2)) (h : D36_6_2_40 F m = some x) : zR none e 2 none zc36 (40, lv, []) (xW B m) (none, xW B x.2) := by
  unfold D36_6_2_40 at h
  refine q_lr (k := 1) (i := 0) (q := (.aload_n 0, 1, 0, 0, .null)) rfl (fun _ => rfl) l0 ?_
  refine q_lr (k := 1) (i := 1) (q := (.aload_n 1, 1, 0, 0, .null)) rfl (fun _ => rfl) l1 ?_
  refine q_lr (k := 1) (i := 1) (q := (.aload_n 1, 1, 0, 0, .null)) rfl (fun _ => rfl) l1 ?_
  refine r_gi (v := (m.1 2 3)) H (pc := 43) (i := _) rfl (by decide) (by decide) rfl ?_
  obtain ⟨q46, h46, h⟩ := xbind h
  refine r_call (ix := 6) (as := [.ref 2, .int (m.1 2 3)]) (rest := []) (rv := none) (hp' := xW B q46.2) (pc := 46) rfl xr37 rfl rfl rfl (xkd H (by decide)) (Nat.le_of_ble_eq_true rfl) (Z37_6_2 H X h46 (by omega)) (Nat.le_refl _) ?_
  refine q_lr (k := 1) (i := 0) (q := (.aload_n 0, 1, 0, 0, .null)) rfl (fun _ => rfl) l0 ?_
  refine r_s (fr' := (51, lv, [.int 3, .ref 6])) (hp' := xW B q46.2) (q := (.iconst 3, 1, 0, 0, .null)) rfl (fun _ => rfl) (Nat.le_refl _) ?_
  refine r_pi (s2 := (xu q46.2 6 8 3)) H (pc := 51) rfl (by decide) rfl rfl ?_
  obtain rfl := Option.some.inj h
  exact r_ret (q := (.return_, 1, 0, 0, .null)) rfl rfl (fun _ => rfl)
def D36_6_2 (F : Nat) (m : xS) : Option (Unit × xS) :=
  (D53_2 F m).bind fun q1 =>
    (D56 F q1.1 q1.2).bind fun q4 =>
      if zcmp .eq q4.1 0 = true then
        (D60_2_1004 F q4.2).bind fun q33 =>
          (D48_6 F (20 + q33.1) q33.2).bind fun q37 =>
            D36_6_2_40 F q37.2
      else
        (D58_2 F 0 99999 q4.2).bind fun q17 =>
          (D48_6 F (40 + q17.1) q17.2).bind fun q21 =>
            D36_6_2_40 F q21.2
set_option maxRecDepth 20000 in
theorem T36_6_2 {B : zHp} (H : yH0 B) (X : yTx B) {e : Nat} (he : 8 ≤ e + 1) (F : Nat) {lv : List (Nat × Value)} {m : xS} {x : Unit × xS} (l0 : zld lv 0 = some (.ref 6)) (l1 : zld lv 1 = some (.ref 2)) (h : D36_6_2 F m = some x) : zR none e 2 none zc36 (0, lv, []) (xW B m) (none, xW B x.2) := by
  unfold D36_6_2 at h
  refine q_lr (k := 1) (i := 1) (q := (.aload_n 1, 1, 0, 0, .null)) rfl (fun _ => rfl) l1 ?_
  obtain ⟨q1, h1, h⟩ := xbind h
  refine r_call (ix := 2) (as := []) (rest := []) (rv := some (.int q1.1)) (hp' := xW B q1.2) (pc := 1) rfl xr53 rfl rfl rfl (xkd H (by decide)) (Nat.le_of_ble_eq_true rfl) (Z53_2 H X h1 (by omega)) (Nat.le_refl _) ?_
  obtain ⟨q4, h4, h⟩ := xbind h
  refine r_callS (as := [.int q1.1]) (rest := []) (rv := some (.int q4.1)) (hp' := xW B q4.2) (pc := 4) rfl xr56 rfl rfl rfl (Nat.le_of_ble_eq_true rfl) (Z56 H X h4 (by omega)) (Nat.le_refl _) ?_
  refine r_if (len := 3) (a := 27) (b := 0) (v0 := .null) (cn := .eq) (off := 20) rfl (fun c => ?_) (fun c => ?_)
  · rw [if_pos c] at h
    refine q_lr (k := 1) (i := 0) (q := (.aload_n 0, 1, 0, 0, .null)) rfl (fun _ => rfl) l0 ?_
    refine r_s (fr' := (30, lv, [.int 20, .ref 6])) (hp' := xW B q4.2) (q := (.bipush 20, 2, 0, 0, .null)) rfl (fun _ => rfl) (Nat.le_refl _) ?_
    refine q_lr (k := 1) (i := 1) (q := (.aload_n 1, 1, 0, 0, .null)) rfl (fun _ => rfl) l1 ?_
    refine r_s (fr' := (33, lv, [.ref 1004, .ref 2, .int 20, .ref 6])) (hp' := xW B q4.2) (q := (.ldc 117, 2, 4, 0, .ref 1004)) rfl (fun _ => rfl) (Nat.le_refl _) ?_
    obtain ⟨q33, h33, h⟩ := xbind h
    refine r_call (ix := 2) (as := [.ref 1004]) (rest := [.int 20, .ref 6]) (rv := some (.int q33.1)) (hp' := xW B q33.2) (pc := 33) rfl xr60 rfl rfl rfl (xkd H (by decide)) (Nat.le_of_ble_eq_true rfl) (Z60_2_1004 H X h33 (by omega)) (Nat.le_refl _) ?_
    refine r_s (fr' := (37, lv, [.int (20 + q33.1), .ref 6])) (hp' := xW B q33.2) (q := (.iadd, 1, 0, 0, .null)) rfl (fun _ => rfl) (Nat.le_refl _) ?_
    obtain ⟨q37, h37, h⟩ := xbind h
    refine r_call (ix := 6) (as := [.int (20 + q33.1)]) (rest := []) (rv := none) (hp' := xW B q37.2) (pc := 37) rfl xr48 rfl rfl rfl (xkd H (by decide)) (Nat.le_of_ble_eq_true rfl) (Z48_6 H X h37 (by omega)) (Nat.le_refl _) ?_
    exact T36_6_2_40 H X he F l0 l1 h
  · rw [if_neg (by rw [c]; decide)] at h
    refine q_lr (k := 1) (i := 0) (q := (.aload_n 0, 1, 0, 0, .null)) rfl (fun _ => rfl) l0 ?_
    refine r_s (fr' := (13, lv, [.int 40, .ref 6])) (hp' := xW B q4.2) (q := (.bipush 40, 2, 0, 0, .null)) rfl (fun _ => rfl) (Nat.le_refl _) ?_
    refine q_lr (k := 1) (i := 1) (q := (.aload_n 1, 1, 0, 0, .null)) rfl (fun _ => rfl) l1 ?_
    refine r_s (fr' := (15, lv, [.int 0, .ref 2, .int 40, .ref 6])) (hp' := xW B q4.2) (q := (.iconst 0, 1, 0, 0, .null)) rfl (fun _ => rfl) (Nat.le_refl _) ?_
    refine r_s (fr' := (17, lv, [.int 99999, .int 0, .ref 2, .int 40, .ref 6])) (hp' := xW B q4.2) (q := (.ldc 109, 2, 0, 0, .int 99999)) rfl (fun _ => rfl) (Nat.le_refl _) ?_
    obtain ⟨q17, h17, h⟩ := xbind h
    refine r_call (ix := 2) (as := [.int 0, .int 99999]) (rest := [.int 40, .ref 6]) (rv := some (.int q17.1)) (hp' := xW B q17.2) (pc := 17) rfl xr58 rfl rfl rfl (xkd H (by decide)) (Nat.le_of_ble_eq_true rfl) (Z58_2 H X h17 (by omega)) (Nat.le_refl _) ?_
    refine r_s (fr' := (21, lv, [.int (40 + q17.1), .ref 6])) (hp' := xW B q17.2) (q := (.iadd, 1, 0, 0, .null)) rfl (fun _ => rfl) (Nat.le_refl _) ?_
    obtain ⟨q21, h21, h⟩ := xbind h
    refine r_call (ix := 6) (as := [.int (40 + q17.1)]) (rest := []) (rv := none) (hp' := xW B q21.2) (pc := 21) rfl xr48 rfl rfl rfl (xkd H (by decide)) (Nat.le_of_ble_eq_true rfl) (Z48_6 H X h21 (by omega)) (Nat.le_refl _) ?_
    refine r_s (fr' := (40, lv, [])) (hp' := xW B q21.2) (q := (.goto 16, 3, 40, 0, .null)) rfl (fun _ => rfl) (Nat.le_refl _) ?_
    exact T36_6_2_40 H X he F l0 l1 h
set_option maxRecDepth 20000 in
theorem Z36_6_2 {B : zHp} (H : yH0 B) (X : yTx B) {F : Nat} {m : xS} {x : Unit × xS} (h : D36_6_2 F m = some x) {d : Nat} (hd : 8 ≤ d) : zCan d 36 [.ref 6, .ref 2] (xW B m) (none, xW B x.2) := by
  obtain ⟨e, rfl⟩ : ∃ e, d = e + 1 := ⟨d - 1, by omega⟩
  refine zCan_body (nL := 2) (rt := none) (cd := zc36) (xg36) ⟨Nat.le_of_ble_eq_true rfl, by decide⟩ (Nat.le_refl _) ?_
  exact T36_6_2 H X hd F rfl rfl h
/-- LentTools$Text.pass -/
def D54_2 (F : Nat) (m : xS) : Option (Unit × xS) :=
  some ((), (xu m 2 2 ((m.1 2 2) + 1)))
set_option maxRecDepth 20000 in
theorem T54_2 {B : zHp} (H : yH0 B) (X : yTx B) {e : Nat} (he : 1 ≤ e + 1) (F : Nat) {lv : List (Nat × Value)} {m : xS} {x : Unit × xS} (l0 : zld lv 0 = some (.ref 2)) (h : D54_2 F m = some x) : zR none e 1 none zc54 (0, lv, []) (xW B m) (none, xW B x.2) := by
  unfold D54_2 at h
  refine q_lr (k := 1) (i := 0) (q := (.aload_n 0, 1, 0, 0, .null)) rfl (fun _ => rfl) l0 ?_
  refine r_s (fr' := (2, lv, [.ref 2, .ref 2])) (hp' := xW B m) (q := (.dup, 1, 0, 0, .null)) rfl (fun _ => rfl) (Nat.le_refl _) ?_
  refine r_gi (v := (m.1 2 2)) H (pc := 2) (i := _) rfl (by decide) (by decide) rfl ?_
  refine r_s (fr' := (6, lv, [.int 1, .int (m.1 2 2), .ref 2])) (hp' := xW B m) (q := (.iconst 1, 1, 0, 0, .null)) rfl (fun _ => rfl) (Nat.le_refl _) ?_
  refine r_s (fr' := (7, lv, [.int ((m.1 2 2) + 1), .ref 2])) (hp' := xW B m) (q := (.iadd, 1, 0, 0, .null)) rfl (fun _ => rfl) (Nat.le_refl _) ?_
  refine r_pi (s2 := (xu m 2 2 ((m.1 2 2) + 1))) H (pc := 7) rfl (by decide) rfl rfl ?_
  obtain rfl := Option.some.inj h
  exact r_ret (q := (.return_, 1, 0, 0, .null)) rfl rfl (fun _ => rfl)
set_option maxRecDepth 20000 in
theorem Z54_2 {B : zHp} (H : yH0 B) (X : yTx B) {F : Nat} {m : xS} {x : Unit × xS} (h : D54_2 F m = some x) {d : Nat} (hd : 1 ≤ d) : zCan d 54 [.ref 2] (xW B m) (none, xW B x.2) := by
  obtain ⟨e, rfl⟩ : ∃ e, d = e + 1 := ⟨d - 1, by omega⟩
  refine zCan_body (nL := 1) (rt := none) (cd := zc54) (xg54) ⟨Nat.le_of_ble_eq_true rfl, by decide⟩ (Nat.le_refl _) ?_
  exact T54_2 H X hd F rfl h
/-- LentTools$RuleReader.letWait -/
def D47_6 (F : Nat) (v1 : Int32) (m : xS) : Option (Unit × xS) :=
  if zcmp .ge (m.1 6 3) (Int32.ofNat 400) = true then
    some ((), m)
  else
    if xib (m.1 6 3) 400 = true then
      some ((), (xu (xu m 8 ((m.1 6 3) : Int32).toNatClampNeg v1) 6 3 ((m.1 6 3) + 1)))
    else none
set_option maxRecDepth 20000 in
theorem T47_6 {B : zHp} (H : yH0 B) (X : yTx B) {e : Nat} (he : 1 ≤ e + 1) (F : Nat) {v1 : Int32} {lv : List (Nat × Value)} {m : xS} {x : Unit × xS} (l0 : zld lv 0 = some (.ref 6)) (l1 : zld lv 1 = some (.int v1)) (h : D47_6 F v1 m = some x) : zR none e 2 none zc47 (0, lv, []) (xW B m) (none, xW B x.2) := by
  unfold D47_6 at h
  refine q_lr (k := 1) (i := 0) (q := (.aload_n 0, 1, 0, 0, .null)) rfl (fun _ => rfl) l0 ?_
  refine r_gi (v := (m.1 6 3)) H (pc := 1) (i := _) rfl (by decide) (by decide) rfl ?_
  refine q_lr (k := 1) (i := 0) (q := (.aload_n 0, 1, 0, 0, .null)) rfl (fun _ => rfl) l0 ?_
  refine r_gr (c := 8) H (pc := 5) rfl (by decide) (by decide) ?_
  refine q_len (n := 400) (k := 0) H (pc := 8) rfl (by decide) ?_
  refine r_ifc (len := 3) (a := 32) (b := 0) (v0 := .null) (cn := .ge) (off := 23) rfl (fun c => ?_) (fun c => ?_)
  · rw [if_pos c] at h
    obtain rfl := Option.some.inj h
    exact r_ret (q := (.return_, 1, 0, 0, .null)) rfl rfl (fun _ => rfl)
  · rw [if_neg (by rw [c]; decide)] at h
    refine q_lr (k := 1) (i := 0) (q := (.aload_n 0, 1, 0, 0, .null)) rfl (fun _ => rfl) l0 ?_
    refine r_gr (c := 8) H (pc := 13) rfl (by decide) (by decide) ?_
    refine q_lr (k := 1) (i := 0) (q := (.aload_n 0, 1, 0, 0, .null)) rfl (fun _ => rfl) l0 ?_
    refine r_gi (v := (m.1 6 3)) H (pc := 17) (i := _) rfl (by decide) (by decide) rfl ?_
    refine q_li (k := 1) (i := 1) (q := (.iload_n 1, 1, 0, 0, .null)) rfl (fun _ => rfl) l1 ?_
    obtain ⟨c1, h⟩ := xif h
    refine q_as (n := 400) (s2 := (xu m 8 ((m.1 6 3) : Int32).toNatClampNeg v1)) H (pc := 21) rfl (by decide) c1 rfl ?_
    refine q_lr (k := 1) (i := 0) (q := (.aload_n 0, 1, 0, 0, .null)) rfl (fun _ => rfl) l0 ?_
    refine r_s (fr' := (24, lv, [.ref 6, .ref 6])) (hp' := xW B (xu m 8 ((m.1 6 3) : Int32).toNatClampNeg v1)) (q := (.dup, 1, 0, 0, .null)) rfl (fun _ => rfl) (Nat.le_refl _) ?_
    refine r_gi (v := (m.1 6 3)) H (pc := 24) (i := _) rfl (by decide) (by decide) rfl ?_
    refine r_s (fr' := (28, lv, [.int 1, .int (m.1 6 3), .ref 6])) (hp' := xW B (xu m 8 ((m.1 6 3) : Int32).toNatClampNeg v1)) (q := (.iconst 1, 1, 0, 0, .null)) rfl (fun _ => rfl) (Nat.le_refl _) ?_
    refine r_s (fr' := (29, lv, [.int ((m.1 6 3) + 1), .ref 6])) (hp' := xW B (xu m 8 ((m.1 6 3) : Int32).toNatClampNeg v1)) (q := (.iadd, 1, 0, 0, .null)) rfl (fun _ => rfl) (Nat.le_refl _) ?_
    refine r_pi (s2 := (xu (xu m 8 ((m.1 6 3) : Int32).toNatClampNeg v1) 6 3 ((m.1 6 3) + 1))) H (pc := 29) rfl (by decide) rfl rfl ?_
    obtain rfl := Option.some.inj h
    exact r_ret (q := (.return_, 1, 0, 0, .null)) rfl rfl (fun _ => rfl)
set_option maxRecDepth 20000 in
theorem Z47_6 {B : zHp} (H : yH0 B) (X : yTx B) {F : Nat} {a1 : Int32} {m : xS} {x : Unit × xS} (h : D47_6 F a1 m = some x) {d : Nat} (hd : 1 ≤ d) : zCan d 47 [.ref 6, .int a1] (xW B m) (none, xW B x.2) := by
  obtain ⟨e, rfl⟩ : ∃ e, d = e + 1 := ⟨d - 1, by omega⟩
  refine zCan_body (nL := 2) (rt := none) (cd := zc47) (xg47) ⟨Nat.le_of_ble_eq_true rfl, by decide⟩ (Nat.le_refl _) ?_
  exact T47_6 H X hd F rfl rfl h
/-- LentTools$RuleReader.readFact -/
def D35_6_2_98 (F : Nat) (v2 : Int32) (v3 : Int32) (w0 : Int32) (m : xS) : Option (Unit × xS) :=
  (D47_6 F w0 m).bind fun q98 =>
    some ((), q98.2)
set_option maxRecDepth 20000 in
theorem T35_6_2_98 {B : zHp} (H : yH0 B) (X : yTx B) {e : Nat} (he : 9 ≤ e + 1) (F : Nat) {v2 : Int32} {v3 : Int32} {w0 : Int32} {lv : List (Nat × Value)} {m : xS} {x : Unit × xS} (l0 : zld lv 0 = some (.ref 6)) (l1 : zld lv 1 = some (.ref 2)) (l2 : zld lv 2 = some (.int v2)) (l3 : zld lv 3 = some (.int v3)) (h : D35_6_2_98 F v2 v3 w0 m = some x) : zR none e 4 none zc35 (98, lv, [.int w0, .ref 6]) (xW B m) (none, xW B x.2) := by
  unfold D35_6_2_98 at h
  obtain ⟨q98, h98, h⟩ := xbind h
  refine r_call (ix := 6) (as := [.int w0]) (rest := []) (rv := none) (hp' := xW B q98.2) (pc := 98) rfl xr47 rfl rfl rfl (xkd H (by decide)) (Nat.le_of_ble_eq_true rfl) (Z47_6 H X h98 (by omega)) (Nat.le_refl _) ?_
  obtain rfl := Option.some.inj h
  exact r_ret (q := (.return_, 1, 0, 0, .null)) rfl rfl (fun _ => rfl)
def D35_6_2_88 (F : Nat) (v2 : Int32) (v3 : Int32) (m : xS) : Option (Unit × xS) :=
  if zcmp .eq v2 0 = true then
    D35_6_2_98 F v2 v3 3 m
  else
    D35_6_2_98 F v2 v3 0 m
set_option maxRecDepth 20000 in
theorem T35_6_2_88 {B : zHp} (H : yH0 B) (X : yTx B) {e : Nat} (he : 9 ≤ e + 1) (F : Nat) {v2 : Int32} {v3 : Int32} {lv : List (Nat × Value)} {m : xS} {x : Unit × xS} (l0 : zld lv 0 = some (.ref 6)) (l1 : zld lv 1 = some (.ref 2)) (l2 : zld lv 2 = some (.int v2)) (l3 : zld lv 3 = some (.int v3)) (h : D35_6_2_88 F v2 v3 m = some x) : zR none e 4 none zc35 (88, lv, []) (xW B m) (none, xW B x.2) := by
  unfold D35_6_2_88 at h
  refine q_lr (k := 1) (i := 0) (q := (.aload_n 0, 1, 0, 0, .null)) rfl (fun _ => rfl) l0 ?_
  refine q_li (k := 1) (i := 2) (q := (.iload_n 2, 1, 0, 0, .null)) rfl (fun _ => rfl) l2 ?_
  refine r_if (len := 3) (a := 97) (b := 0) (v0 := .null) (cn := .eq) (off := 7) rfl (fun c => ?_) (fun c => ?_)
  · rw [if_pos c] at h
    refine r_s (fr' := (98, lv, [.int 3, .ref 6])) (hp' := xW B m) (q := (.iconst 3, 1, 0, 0, .null)) rfl (fun _ => rfl) (Nat.le_refl _) ?_
    exact T35_6_2_98 H X he F l0 l1 l2 l3 h
  · rw [if_neg (by rw [c]; decide)] at h
    refine r_s (fr' := (94, lv, [.int 0, .ref 6])) (hp' := xW B m) (q := (.iconst 0, 1, 0, 0, .null)) rfl (fun _ => rfl) (Nat.le_refl _) ?_
    refine r_s (fr' := (98, lv, [.int 0, .ref 6])) (hp' := xW B m) (q := (.goto 4, 3, 98, 0, .null)) rfl (fun _ => rfl) (Nat.le_refl _) ?_
    exact T35_6_2_98 H X he F l0 l1 l2 l3 h
def D35_6_2_60 (F : Nat) (v2 : Int32) (v3 : Int32) (m : xS) : Option (Unit × xS) :=
  if zcmp .eq v2 0 = true then
    D35_6_2_88 F v2 v3 (xu m 6 6 ((m.1 6 6) + 1))
  else
    (D54_2 F (xu m 6 6 ((m.1 6 6) + 1))).bind fun q75 =>
      D35_6_2_88 F v2 v3 (xu q75.2 6 7 ((q75.2.1 6 7) + 1))
set_option maxRecDepth 20000 in
theorem T35_6_2_60 {B : zHp} (H : yH0 B) (X : yTx B) {e : Nat} (he : 9 ≤ e + 1) (F : Nat) {v2 : Int32} {v3 : Int32} {lv : List (Nat × Value)} {m : xS} {x : Unit × xS} (l0 : zld lv 0 = some (.ref 6)) (l1 : zld lv 1 = some (.ref 2)) (l2 : zld lv 2 = some (.int v2)) (l3 : zld lv 3 = some (.int v3)) (h : D35_6_2_60 F v2 v3 m = some x) : zR none e 4 none zc35 (60, lv, []) (xW B m) (none, xW B x.2) := by
  unfold D35_6_2_60 at h
  refine q_lr (k := 1) (i := 0) (q := (.aload_n 0, 1, 0, 0, .null)) rfl (fun _ => rfl) l0 ?_
  refine r_s (fr' := (62, lv, [.ref 6, .ref 6])) (hp' := xW B m) (q := (.dup, 1, 0, 0, .null)) rfl (fun _ => rfl) (Nat.le_refl _) ?_
  refine r_gi (v := (m.1 6 6)) H (pc := 62) (i := _) rfl (by decide) (by decide) rfl ?_
  refine r_s (fr' := (66, lv, [.int 1, .int (m.1 6 6), .ref 6])) (hp' := xW B m) (q := (.iconst 1, 1, 0, 0, .null)) rfl (fun _ => rfl) (Nat.le_refl _) ?_
  refine r_s (fr' := (67, lv, [.int ((m.1 6 6) + 1), .ref 6])) (hp' := xW B m) (q := (.iadd, 1, 0, 0, .null)) rfl (fun _ => rfl) (Nat.le_refl _) ?_
  refine r_pi (s2 := (xu m 6 6 ((m.1 6 6) + 1))) H (pc := 67) rfl (by decide) rfl rfl ?_
  refine q_li (k := 1) (i := 2) (q := (.iload_n 2, 1, 0, 0, .null)) rfl (fun _ => rfl) l2 ?_
  refine r_if (len := 3) (a := 88) (b := 0) (v0 := .null) (cn := .eq) (off := 17) rfl (fun c => ?_) (fun c => ?_)
  · rw [if_pos c] at h
    exact T35_6_2_88 H X he F l0 l1 l2 l3 h
  · rw [if_neg (by rw [c]; decide)] at h
    refine q_lr (k := 1) (i := 1) (q := (.aload_n 1, 1, 0, 0, .null)) rfl (fun _ => rfl) l1 ?_
    obtain ⟨q75, h75, h⟩ := xbind h
    refine r_call (ix := 2) (as := []) (rest := []) (rv := none) (hp' := xW B q75.2) (pc := 75) rfl xr54 rfl rfl rfl (xkd H (by decide)) (Nat.le_of_ble_eq_true rfl) (Z54_2 H X h75 (by omega)) (Nat.le_refl _) ?_
    refine q_lr (k := 1) (i := 0) (q := (.aload_n 0, 1, 0, 0, .null)) rfl (fun _ => rfl) l0 ?_
    refine r_s (fr' := (80, lv, [.ref 6, .ref 6])) (hp' := xW B q75.2) (q := (.dup, 1, 0, 0, .null)) rfl (fun _ => rfl) (Nat.le_refl _) ?_
    refine r_gi (v := (q75.2.1 6 7)) H (pc := 80) (i := _) rfl (by decide) (by decide) rfl ?_
    refine r_s (fr' := (84, lv, [.int 1, .int (q75.2.1 6 7), .ref 6])) (hp' := xW B q75.2) (q := (.iconst 1, 1, 0, 0, .null)) rfl (fun _ => rfl) (Nat.le_refl _) ?_
    refine r_s (fr' := (85, lv, [.int ((q75.2.1 6 7) + 1), .ref 6])) (hp' := xW B q75.2) (q := (.iadd, 1, 0, 0, .null)) rfl (fun _ => rfl) (Nat.le_refl _) ?_
    refine r_pi (s2 := (xu q75.2 6 7 ((q75.2.1 6 7) + 1))) H (pc := 85) rfl (by decide) rfl rfl ?_
    exact T35_6_2_88 H X he F l0 l1 l2 l3 h
def D35_6_2_45 (F : Nat) (v2 : Int32) (v3 : Int32) (m : xS) : Option (Unit × xS) :=
  if zcmp .lt (m.1 6 6) 10 = true then
    D35_6_2_60 F v2 v3 m
  else
    (D52_2 F v3 2 m).bind fun q57 =>
      D35_6_2_60 F v2 v3 q57.2
set_option maxRecDepth 20000 in
theorem T35_6_2_45 {B : zHp} (H : yH0 B) (X : yTx B) {e : Nat} (he : 9 ≤ e + 1) (F : Nat) {v2 : Int32} {v3 : Int32} {lv : List (Nat × Value)} {m : xS} {x : Unit × xS} (l0 : zld lv 0 = some (.ref 6)) (l1 : zld lv 1 = some (.ref 2)) (l2 : zld lv 2 = some (.int v2)) (l3 : zld lv 3 = some (.int v3)) (h : D35_6_2_45 F v2 v3 m = some x) : zR none e 4 none zc35 (45, lv, []) (xW B m) (none, xW B x.2) := by
  unfold D35_6_2_45 at h
  refine q_lr (k := 1) (i := 0) (q := (.aload_n 0, 1, 0, 0, .null)) rfl (fun _ => rfl) l0 ?_
  refine r_gi (v := (m.1 6 6)) H (pc := 46) (i := _) rfl (by decide) (by decide) rfl ?_
  refine r_s (fr' := (51, lv, [.int 10, .int (m.1 6 6)])) (hp' := xW B m) (q := (.bipush 10, 2, 0, 0, .null)) rfl (fun _ => rfl) (Nat.le_refl _) ?_
  refine r_ifc (len := 3) (a := 60) (b := 0) (v0 := .null) (cn := .lt) (off := 9) rfl (fun c => ?_) (fun c => ?_)
  · rw [if_pos c] at h
    exact T35_6_2_60 H X he F l0 l1 l2 l3 h
  · rw [if_neg (by rw [c]; decide)] at h
    refine q_lr (k := 1) (i := 1) (q := (.aload_n 1, 1, 0, 0, .null)) rfl (fun _ => rfl) l1 ?_
    refine q_li (k := 1) (i := 3) (q := (.iload_n 3, 1, 0, 0, .null)) rfl (fun _ => rfl) l3 ?_
    refine r_s (fr' := (57, lv, [.int 2, .int v3, .ref 2])) (hp' := xW B m) (q := (.iconst 2, 1, 0, 0, .null)) rfl (fun _ => rfl) (Nat.le_refl _) ?_
    obtain ⟨q57, h57, h⟩ := xbind h
    refine r_call (ix := 2) (as := [.int v3, .int 2]) (rest := []) (rv := none) (hp' := xW B q57.2) (pc := 57) rfl xr52 rfl rfl rfl (xkd H (by decide)) (Nat.le_of_ble_eq_true rfl) (Z52_2 H X h57 (by omega)) (Nat.le_refl _) ?_
    exact T35_6_2_60 H X he F l0 l1 l2 l3 h
def D35_6_2_14 (F : Nat) (w0 : Int32) (m : xS) : Option (Unit × xS) :=
  if zcmp .ne w0 0 = true then
    D35_6_2_45 F w0 (m.1 2 2) m
  else
    (D59_2_1003 F m).bind fun q27 =>
      if zcmp .ne q27.1 (-1) = true then
        D35_6_2_45 F w0 (m.1 2 2) q27.2
      else
        (D36_6_2 F (xu q27.2 6 9 1)).bind fun q41 =>
          some ((), q41.2)
set_option maxRecDepth 20000 in
theorem T35_6_2_14 {B : zHp} (H : yH0 B) (X : yTx B) {e : Nat} (he : 9 ≤ e + 1) (F : Nat) {w0 : Int32} {lv : List (Nat × Value)} {m : xS} {x : Unit × xS} (l0 : zld lv 0 = some (.ref 6)) (l1 : zld lv 1 = some (.ref 2)) (h : D35_6_2_14 F w0 m = some x) : zR none e 4 none zc35 (14, lv, [.int w0]) (xW B m) (none, xW B x.2) := by
  unfold D35_6_2_14 at h
  refine q_si (k := 1) (i := 2) (q := (.istore_n 2, 1, 0, 0, .null)) rfl (fun _ => rfl) (by decide) ?_
  have l0_1 : zld (zs1 lv 2 (.int w0)) 0 = some (.ref 6) := x_o1 l0 rfl rfl
  have l1_1 : zld (zs1 lv 2 (.int w0)) 1 = some (.ref 2) := x_o1 l1 rfl rfl
  have l2_1 : zld (zs1 lv 2 (.int w0)) 2 = some (.int w0) := zs1_ld _ _ _
  generalize (zs1 lv 2 (.int w0)) = lv1 at *
  refine q_lr (k := 1) (i := 1) (q := (.aload_n 1, 1, 0, 0, .null)) rfl (fun _ => rfl) l1_1 ?_
  refine r_gi (v := (m.1 2 2)) H (pc := 16) (i := _) rfl (by decide) (by decide) rfl ?_
  refine q_si (k := 1) (i := 3) (q := (.istore_n 3, 1, 0, 0, .null)) rfl (fun _ => rfl) (by decide) ?_
  have l0_2 : zld (zs1 lv1 3 (.int (m.1 2 2))) 0 = some (.ref 6) := x_o1 l0_1 rfl rfl
  have l1_2 : zld (zs1 lv1 3 (.int (m.1 2 2))) 1 = some (.ref 2) := x_o1 l1_1 rfl rfl
  have l2_2 : zld (zs1 lv1 3 (.int (m.1 2 2))) 2 = some (.int w0) := x_o1 l2_1 rfl rfl
  have l3_2 : zld (zs1 lv1 3 (.int (m.1 2 2))) 3 = some (.int (m.1 2 2)) := zs1_ld _ _ _
  generalize (zs1 lv1 3 (.int (m.1 2 2))) = lv2 at *
  refine q_li (k := 1) (i := 2) (q := (.iload_n 2, 1, 0, 0, .null)) rfl (fun _ => rfl) l2_2 ?_
  refine r_if (len := 3) (a := 45) (b := 0) (v0 := .null) (cn := .ne) (off := 24) rfl (fun c => ?_) (fun c => ?_)
  · rw [if_pos c] at h
    exact T35_6_2_45 H X he F l0_2 l1_2 l2_2 l3_2 h
  · rw [if_neg (by rw [c]; decide)] at h
    refine q_lr (k := 1) (i := 1) (q := (.aload_n 1, 1, 0, 0, .null)) rfl (fun _ => rfl) l1_2 ?_
    refine r_s (fr' := (27, lv2, [.ref 1003, .ref 2])) (hp' := xW B m) (q := (.ldc 93, 2, 3, 0, .ref 1003)) rfl (fun _ => rfl) (Nat.le_refl _) ?_
    obtain ⟨q27, h27, h⟩ := xbind h
    refine r_call (ix := 2) (as := [.ref 1003]) (rest := []) (rv := some (.int q27.1)) (hp' := xW B q27.2) (pc := 27) rfl xr59 rfl rfl rfl (xkd H (by decide)) (Nat.le_of_ble_eq_true rfl) (Z59_2_1003 H X h27 (by omega)) (Nat.le_refl _) ?_
    refine r_s (fr' := (31, lv2, [.int (-1), .int q27.1])) (hp' := xW B q27.2) (q := (.iconst (-1), 1, 0, 0, .null)) rfl (fun _ => rfl) (Nat.le_refl _) ?_
    refine r_ifc (len := 3) (a := 45) (b := 0) (v0 := .null) (cn := .ne) (off := 14) rfl (fun c => ?_) (fun c => ?_)
    · rw [if_pos c] at h
      exact T35_6_2_45 H X he F l0_2 l1_2 l2_2 l3_2 h
    · rw [if_neg (by rw [c]; decide)] at h
      refine q_lr (k := 1) (i := 0) (q := (.aload_n 0, 1, 0, 0, .null)) rfl (fun _ => rfl) l0_2 ?_
      refine r_s (fr' := (36, lv2, [.int 1, .ref 6])) (hp' := xW B q27.2) (q := (.iconst 1, 1, 0, 0, .null)) rfl (fun _ => rfl) (Nat.le_refl _) ?_
      refine r_pi (s2 := (xu q27.2 6 9 1)) H (pc := 36) rfl (by decide) rfl rfl ?_
      refine q_lr (k := 1) (i := 0) (q := (.aload_n 0, 1, 0, 0, .null)) rfl (fun _ => rfl) l0_2 ?_
      refine q_lr (k := 1) (i := 1) (q := (.aload_n 1, 1, 0, 0, .null)) rfl (fun _ => rfl) l1_2 ?_
      obtain ⟨q41, h41, h⟩ := xbind h
      refine r_call (ix := 6) (as := [.ref 2]) (rest := []) (rv := none) (hp' := xW B q41.2) (pc := 41) rfl xr36 rfl rfl rfl (xkd H (by decide)) (Nat.le_of_ble_eq_true rfl) (Z36_6_2 H X h41 (by omega)) (Nat.le_refl _) ?_
      obtain rfl := Option.some.inj h
      exact r_ret (q := (.return_, 1, 0, 0, .null)) rfl rfl (fun _ => rfl)
def D35_6_2 (F : Nat) (m : xS) : Option (Unit × xS) :=
  (D53_2 F m).bind fun q1 =>
    if zcmp .ne q1.1 91 = true then
      D35_6_2_14 F 0 q1.2
    else
      D35_6_2_14 F 1 q1.2
set_option maxRecDepth 20000 in
theorem T35_6_2 {B : zHp} (H : yH0 B) (X : yTx B) {e : Nat} (he : 9 ≤ e + 1) (F : Nat) {lv : List (Nat × Value)} {m : xS} {x : Unit × xS} (l0 : zld lv 0 = some (.ref 6)) (l1 : zld lv 1 = some (.ref 2)) (h : D35_6_2 F m = some x) : zR none e 4 none zc35 (0, lv, []) (xW B m) (none, xW B x.2) := by
  unfold D35_6_2 at h
  refine q_lr (k := 1) (i := 1) (q := (.aload_n 1, 1, 0, 0, .null)) rfl (fun _ => rfl) l1 ?_
  obtain ⟨q1, h1, h⟩ := xbind h
  refine r_call (ix := 2) (as := []) (rest := []) (rv := some (.int q1.1)) (hp' := xW B q1.2) (pc := 1) rfl xr53 rfl rfl rfl (xkd H (by decide)) (Nat.le_of_ble_eq_true rfl) (Z53_2 H X h1 (by omega)) (Nat.le_refl _) ?_
  refine r_s (fr' := (6, lv, [.int 91, .int q1.1])) (hp' := xW B q1.2) (q := (.bipush 91, 2, 0, 0, .null)) rfl (fun _ => rfl) (Nat.le_refl _) ?_
  refine r_ifc (len := 3) (a := 13) (b := 0) (v0 := .null) (cn := .ne) (off := 7) rfl (fun c => ?_) (fun c => ?_)
  · rw [if_pos c] at h
    refine r_s (fr' := (14, lv, [.int 0])) (hp' := xW B q1.2) (q := (.iconst 0, 1, 0, 0, .null)) rfl (fun _ => rfl) (Nat.le_refl _) ?_
    exact T35_6_2_14 H X he F l0 l1 h
  · rw [if_neg (by rw [c]; decide)] at h
    refine r_s (fr' := (10, lv, [.int 1])) (hp' := xW B q1.2) (q := (.iconst 1, 1, 0, 0, .null)) rfl (fun _ => rfl) (Nat.le_refl _) ?_
    refine r_s (fr' := (14, lv, [.int 1])) (hp' := xW B q1.2) (q := (.goto 4, 3, 14, 0, .null)) rfl (fun _ => rfl) (Nat.le_refl _) ?_
    exact T35_6_2_14 H X he F l0 l1 h
set_option maxRecDepth 20000 in
theorem Z35_6_2 {B : zHp} (H : yH0 B) (X : yTx B) {F : Nat} {m : xS} {x : Unit × xS} (h : D35_6_2 F m = some x) {d : Nat} (hd : 9 ≤ d) : zCan d 35 [.ref 6, .ref 2] (xW B m) (none, xW B x.2) := by
  obtain ⟨e, rfl⟩ : ∃ e, d = e + 1 := ⟨d - 1, by omega⟩
  refine zCan_body (nL := 4) (rt := none) (cd := zc35) (xg35) ⟨Nat.le_of_ble_eq_true rfl, by decide⟩ (Nat.le_refl _) ?_
  exact T35_6_2 H X hd F rfl rfl h
/-- LentTools$RuleReader.operationOf -/
def D39 (F : Nat) (v0 : Int32) (m : xS) : Option (Int32 × xS) :=
  if (v0 == 37) = true then
    some (13, m)
  else
    if (v0 == 38) = true then
      some ((-1), m)
    else
      if (v0 == 39) = true then
        some ((-1), m)
      else
        if (v0 == 40) = true then
          some ((-1), m)
        else
          if (v0 == 41) = true then
            some ((-1), m)
          else
            if (v0 == 42) = true then
              some (11, m)
            else
              if (v0 == 43) = true then
                some (9, m)
              else
                if (v0 == 44) = true then
                  some ((-1), m)
                else
                  if (v0 == 45) = true then
                    some (10, m)
                  else
                    if (v0 == 46) = true then
                      some ((-1), m)
                    else
                      if (v0 == 47) = true then
                        some (12, m)
                      else
                        some ((-1), m)
set_option maxRecDepth 20000 in
theorem T39 {B : zHp} (H : yH0 B) (X : yTx B) {e : Nat} (he : 1 ≤ e + 1) (F : Nat) {v0 : Int32} {lv : List (Nat × Value)} {m : xS} {x : Int32 × xS} (l0 : zld lv 0 = some (.int v0)) (h : D39 F v0 m = some x) : zR none e 1 (some .int) zc39 (0, lv, []) (xW B m) (some (.int x.1), xW B x.2) := by
  unfold D39 at h
  refine q_li (k := 1) (i := 0) (q := (.iload_n 0, 1, 0, 0, .null)) rfl (fun _ => rfl) l0 ?_
  by_cases d1 : ((v0 == 37)) = true
  · rw [if_pos d1] at h
    refine q_sw (pc2 := 72) (q := (.tableswitch 74 37 47 #[71, 74, 74, 74, 74, 65, 59, 74, 62, 74, 68], 59, 0, 0, .null)) d1 rfl (fun _ => rfl) ?_
    refine r_s (fr' := (74, lv, [.int 13])) (hp' := xW B m) (q := (.bipush 13, 2, 0, 0, .null)) rfl (fun _ => rfl) (Nat.le_refl _) ?_
    obtain rfl := Option.some.inj h
    exact q_ri (q := (.ireturn, 1, 0, 0, .null)) rfl (fun _ => rfl) rfl rfl
  · rw [if_neg d1] at h
    by_cases d2 : ((v0 == 38)) = true
    · rw [if_pos d2] at h
      refine q_sw (pc2 := 75) (q := (.tableswitch 74 37 47 #[71, 74, 74, 74, 74, 65, 59, 74, 62, 74, 68], 59, 0, 0, .null)) d2 rfl (fun _ => rfl) ?_
      refine r_s (fr' := (76, lv, [.int (-1)])) (hp' := xW B m) (q := (.iconst (-1), 1, 0, 0, .null)) rfl (fun _ => rfl) (Nat.le_refl _) ?_
      obtain rfl := Option.some.inj h
      exact q_ri (q := (.ireturn, 1, 0, 0, .null)) rfl (fun _ => rfl) rfl rfl
    · rw [if_neg d2] at h
      by_cases d3 : ((v0 == 39)) = true
      · rw [if_pos d3] at h
        refine q_sw (pc2 := 75) (q := (.tableswitch 74 37 47 #[71, 74, 74, 74, 74, 65, 59, 74, 62, 74, 68], 59, 0, 0, .null)) d3 rfl (fun _ => rfl) ?_
        refine r_s (fr' := (76, lv, [.int (-1)])) (hp' := xW B m) (q := (.iconst (-1), 1, 0, 0, .null)) rfl (fun _ => rfl) (Nat.le_refl _) ?_
        obtain rfl := Option.some.inj h
        exact q_ri (q := (.ireturn, 1, 0, 0, .null)) rfl (fun _ => rfl) rfl rfl
      · rw [if_neg d3] at h
        by_cases d4 : ((v0 == 40)) = true
        · rw [if_pos d4] at h
          refine q_sw (pc2 := 75) (q := (.tableswitch 74 37 47 #[71, 74, 74, 74, 74, 65, 59, 74, 62, 74, 68], 59, 0, 0, .null)) d4 rfl (fun _ => rfl) ?_
          refine r_s (fr' := (76, lv, [.int (-1)])) (hp' := xW B m) (q := (.iconst (-1), 1, 0, 0, .null)) rfl (fun _ => rfl) (Nat.le_refl _) ?_
          obtain rfl := Option.some.inj h
          exact q_ri (q := (.ireturn, 1, 0, 0, .null)) rfl (fun _ => rfl) rfl rfl
        · rw [if_neg d4] at h
          by_cases d5 : ((v0 == 41)) = true
          · rw [if_pos d5] at h
            refine q_sw (pc2 := 75) (q := (.tableswitch 74 37 47 #[71, 74, 74, 74, 74, 65, 59, 74, 62, 74, 68], 59, 0, 0, .null)) d5 rfl (fun _ => rfl) ?_
            refine r_s (fr' := (76, lv, [.int (-1)])) (hp' := xW B m) (q := (.iconst (-1), 1, 0, 0, .null)) rfl (fun _ => rfl) (Nat.le_refl _) ?_
            obtain rfl := Option.some.inj h
            exact q_ri (q := (.ireturn, 1, 0, 0, .null)) rfl (fun _ => rfl) rfl rfl
          · rw [if_neg d5] at h
            by_cases d6 : ((v0 == 42)) = true
            · rw [if_pos d6] at h
              refine q_sw (pc2 := 66) (q := (.tableswitch 74 37 47 #[71, 74, 74, 74, 74, 65, 59, 74, 62, 74, 68], 59, 0, 0, .null)) d6 rfl (fun _ => rfl) ?_
              refine r_s (fr' := (68, lv, [.int 11])) (hp' := xW B m) (q := (.bipush 11, 2, 0, 0, .null)) rfl (fun _ => rfl) (Nat.le_refl _) ?_
              obtain rfl := Option.some.inj h
              exact q_ri (q := (.ireturn, 1, 0, 0, .null)) rfl (fun _ => rfl) rfl rfl
            · rw [if_neg d6] at h
              by_cases d7 : ((v0 == 43)) = true
              · rw [if_pos d7] at h
                refine q_sw (pc2 := 60) (q := (.tableswitch 74 37 47 #[71, 74, 74, 74, 74, 65, 59, 74, 62, 74, 68], 59, 0, 0, .null)) d7 rfl (fun _ => rfl) ?_
                refine r_s (fr' := (62, lv, [.int 9])) (hp' := xW B m) (q := (.bipush 9, 2, 0, 0, .null)) rfl (fun _ => rfl) (Nat.le_refl _) ?_
                obtain rfl := Option.some.inj h
                exact q_ri (q := (.ireturn, 1, 0, 0, .null)) rfl (fun _ => rfl) rfl rfl
              · rw [if_neg d7] at h
                by_cases d8 : ((v0 == 44)) = true
                · rw [if_pos d8] at h
                  refine q_sw (pc2 := 75) (q := (.tableswitch 74 37 47 #[71, 74, 74, 74, 74, 65, 59, 74, 62, 74, 68], 59, 0, 0, .null)) d8 rfl (fun _ => rfl) ?_
                  refine r_s (fr' := (76, lv, [.int (-1)])) (hp' := xW B m) (q := (.iconst (-1), 1, 0, 0, .null)) rfl (fun _ => rfl) (Nat.le_refl _) ?_
                  obtain rfl := Option.some.inj h
                  exact q_ri (q := (.ireturn, 1, 0, 0, .null)) rfl (fun _ => rfl) rfl rfl
                · rw [if_neg d8] at h
                  by_cases d9 : ((v0 == 45)) = true
                  · rw [if_pos d9] at h
                    refine q_sw (pc2 := 63) (q := (.tableswitch 74 37 47 #[71, 74, 74, 74, 74, 65, 59, 74, 62, 74, 68], 59, 0, 0, .null)) d9 rfl (fun _ => rfl) ?_
                    refine r_s (fr' := (65, lv, [.int 10])) (hp' := xW B m) (q := (.bipush 10, 2, 0, 0, .null)) rfl (fun _ => rfl) (Nat.le_refl _) ?_
                    obtain rfl := Option.some.inj h
                    exact q_ri (q := (.ireturn, 1, 0, 0, .null)) rfl (fun _ => rfl) rfl rfl
                  · rw [if_neg d9] at h
                    by_cases d10 : ((v0 == 46)) = true
                    · rw [if_pos d10] at h
                      refine q_sw (pc2 := 75) (q := (.tableswitch 74 37 47 #[71, 74, 74, 74, 74, 65, 59, 74, 62, 74, 68], 59, 0, 0, .null)) d10 rfl (fun _ => rfl) ?_
                      refine r_s (fr' := (76, lv, [.int (-1)])) (hp' := xW B m) (q := (.iconst (-1), 1, 0, 0, .null)) rfl (fun _ => rfl) (Nat.le_refl _) ?_
                      obtain rfl := Option.some.inj h
                      exact q_ri (q := (.ireturn, 1, 0, 0, .null)) rfl (fun _ => rfl) rfl rfl
                    · rw [if_neg d10] at h
                      by_cases d11 : ((v0 == 47)) = true
                      · rw [if_pos d11] at h
                        refine q_sw (pc2 := 69) (q := (.tableswitch 74 37 47 #[71, 74, 74, 74, 74, 65, 59, 74, 62, 74, 68], 59, 0, 0, .null)) d11 rfl (fun _ => rfl) ?_
                        refine r_s (fr' := (71, lv, [.int 12])) (hp' := xW B m) (q := (.bipush 12, 2, 0, 0, .null)) rfl (fun _ => rfl) (Nat.le_refl _) ?_
                        obtain rfl := Option.some.inj h
                        exact q_ri (q := (.ireturn, 1, 0, 0, .null)) rfl (fun _ => rfl) rfl rfl
                      · rw [if_neg d11] at h
                        refine q_td (pc2 := 75) (q := (.tableswitch 74 37 47 #[71, 74, 74, 74, 74, 65, 59, 74, 62, 74, 68], 59, 0, 0, .null)) (dflt := 74) (lo := 37) (hi := 47) (offs := #[71, 74, 74, 74, 74, 65, 59, 74, 62, 74, 68]) (by have z0 := xne (z := 37) rfl d1; have z1 := xne (z := 38) rfl d2; have z2 := xne (z := 39) rfl d3; have z3 := xne (z := 40) rfl d4; have z4 := xne (z := 41) rfl d5; have z5 := xne (z := 42) rfl d6; have z6 := xne (z := 43) rfl d7; have z7 := xne (z := 44) rfl d8; have z8 := xne (z := 45) rfl d9; have z9 := xne (z := 46) rfl d10; have z10 := xne (z := 47) rfl d11; omega) rfl (fun _ => rfl) rfl ?_
                        refine r_s (fr' := (76, lv, [.int (-1)])) (hp' := xW B m) (q := (.iconst (-1), 1, 0, 0, .null)) rfl (fun _ => rfl) (Nat.le_refl _) ?_
                        obtain rfl := Option.some.inj h
                        exact q_ri (q := (.ireturn, 1, 0, 0, .null)) rfl (fun _ => rfl) rfl rfl
set_option maxRecDepth 20000 in
theorem Z39 {B : zHp} (H : yH0 B) (X : yTx B) {F : Nat} {a0 : Int32} {m : xS} {x : Int32 × xS} (h : D39 F a0 m = some x) {d : Nat} (hd : 1 ≤ d) : zCan d 39 [.int a0] (xW B m) (some (.int x.1), xW B x.2) := by
  obtain ⟨e, rfl⟩ : ∃ e, d = e + 1 := ⟨d - 1, by omega⟩
  refine zCan_body (nL := 1) (rt := (some .int)) (cd := zc39) (xg39) ⟨Nat.le_of_ble_eq_true rfl, by decide⟩ (Nat.le_refl _) ?_
  exact T39 H X hd F rfl h
/-- LentTools$Rule.closeness -/
def D26 (F : Nat) (v0 : Int32) (m : xS) : Option (Int32 × xS) :=
  if zcmp .gt v0 3 = true then
    if zcmp .gt v0 8 = true then
      if zcmp .gt v0 10 = true then
        some (11, m)
      else
        some (9, m)
    else
      some (4, m)
  else
    some (v0, m)
set_option maxRecDepth 20000 in
theorem T26 {B : zHp} (H : yH0 B) (X : yTx B) {e : Nat} (he : 1 ≤ e + 1) (F : Nat) {v0 : Int32} {lv : List (Nat × Value)} {m : xS} {x : Int32 × xS} (l0 : zld lv 0 = some (.int v0)) (h : D26 F v0 m = some x) : zR none e 1 (some .int) zc26 (0, lv, []) (xW B m) (some (.int x.1), xW B x.2) := by
  unfold D26 at h
  refine q_li (k := 1) (i := 0) (q := (.iload_n 0, 1, 0, 0, .null)) rfl (fun _ => rfl) l0 ?_
  refine r_s (fr' := (2, lv, [.int 3, .int v0])) (hp' := xW B m) (q := (.iconst 3, 1, 0, 0, .null)) rfl (fun _ => rfl) (Nat.le_refl _) ?_
  refine r_ifc (len := 3) (a := 7) (b := 0) (v0 := .null) (cn := .gt) (off := 5) rfl (fun c => ?_) (fun c => ?_)
  · rw [if_pos c] at h
    refine q_li (k := 1) (i := 0) (q := (.iload_n 0, 1, 0, 0, .null)) rfl (fun _ => rfl) l0 ?_
    refine r_s (fr' := (10, lv, [.int 8, .int v0])) (hp' := xW B m) (q := (.bipush 8, 2, 0, 0, .null)) rfl (fun _ => rfl) (Nat.le_refl _) ?_
    refine r_ifc (len := 3) (a := 15) (b := 0) (v0 := .null) (cn := .gt) (off := 5) rfl (fun c => ?_) (fun c => ?_)
    · rw [if_pos c] at h
      refine q_li (k := 1) (i := 0) (q := (.iload_n 0, 1, 0, 0, .null)) rfl (fun _ => rfl) l0 ?_
      refine r_s (fr' := (18, lv, [.int 10, .int v0])) (hp' := xW B m) (q := (.bipush 10, 2, 0, 0, .null)) rfl (fun _ => rfl) (Nat.le_refl _) ?_
      refine r_ifc (len := 3) (a := 26) (b := 0) (v0 := .null) (cn := .gt) (off := 8) rfl (fun c => ?_) (fun c => ?_)
      · rw [if_pos c] at h
        refine r_s (fr' := (28, lv, [.int 11])) (hp' := xW B m) (q := (.bipush 11, 2, 0, 0, .null)) rfl (fun _ => rfl) (Nat.le_refl _) ?_
        obtain rfl := Option.some.inj h
        exact q_ri (q := (.ireturn, 1, 0, 0, .null)) rfl (fun _ => rfl) rfl rfl
      · rw [if_neg (by rw [c]; decide)] at h
        refine r_s (fr' := (23, lv, [.int 9])) (hp' := xW B m) (q := (.bipush 9, 2, 0, 0, .null)) rfl (fun _ => rfl) (Nat.le_refl _) ?_
        refine r_s (fr' := (28, lv, [.int 9])) (hp' := xW B m) (q := (.goto 5, 3, 28, 0, .null)) rfl (fun _ => rfl) (Nat.le_refl _) ?_
        obtain rfl := Option.some.inj h
        exact q_ri (q := (.ireturn, 1, 0, 0, .null)) rfl (fun _ => rfl) rfl rfl
    · rw [if_neg (by rw [c]; decide)] at h
      refine r_s (fr' := (14, lv, [.int 4])) (hp' := xW B m) (q := (.iconst 4, 1, 0, 0, .null)) rfl (fun _ => rfl) (Nat.le_refl _) ?_
      obtain rfl := Option.some.inj h
      exact q_ri (q := (.ireturn, 1, 0, 0, .null)) rfl (fun _ => rfl) rfl rfl
  · rw [if_neg (by rw [c]; decide)] at h
    refine q_li (k := 1) (i := 0) (q := (.iload_n 0, 1, 0, 0, .null)) rfl (fun _ => rfl) l0 ?_
    obtain rfl := Option.some.inj h
    exact q_ri (q := (.ireturn, 1, 0, 0, .null)) rfl (fun _ => rfl) rfl rfl
set_option maxRecDepth 20000 in
theorem Z26 {B : zHp} (H : yH0 B) (X : yTx B) {F : Nat} {a0 : Int32} {m : xS} {x : Int32 × xS} (h : D26 F a0 m = some x) {d : Nat} (hd : 1 ≤ d) : zCan d 26 [.int a0] (xW B m) (some (.int x.1), xW B x.2) := by
  obtain ⟨e, rfl⟩ : ∃ e, d = e + 1 := ⟨d - 1, by omega⟩
  refine zCan_body (nL := 1) (rt := (some .int)) (cd := zc26) (xg26) ⟨Nat.le_of_ble_eq_true rfl, by decide⟩ (Nat.le_refl _) ?_
  exact T26 H X hd F rfl h
/-- LentTools$RuleReader.settle -/
def D46_6_0 (F : Nat) : Nat → Int32 → xS → Option (Unit × xS)
  | 0, _, _ => none
  | f + 1, v1, m =>
    if zcmp .le (m.1 6 3) 0 = true then
      some ((), m)
    else
      if xib ((m.1 6 3) - 1) 400 = true then
        (D26 F (m.1 8 (((m.1 6 3) - 1) : Int32).toNatClampNeg) m).bind fun q18 =>
          (D26 F v1 q18.2).bind fun q22 =>
            if zcmp .lt q18.1 q22.1 = true then
              some ((), q22.2)
            else
              if xib ((q22.2.1 6 3) - 1) 400 = true then
                (D48_6 F (q22.2.1 8 (((q22.2.1 6 3) - 1) : Int32).toNatClampNeg) (xu q22.2 6 3 ((q22.2.1 6 3) - 1))).bind fun q48 =>
                  if xib (q48.2.1 6 3) 400 = true then
                    if zcmp .ne (q48.2.1 8 ((q48.2.1 6 3) : Int32).toNatClampNeg) 3 = true then
                      D46_6_0 F f v1 q48.2
                    else
                      D46_6_0 F f v1 (xu q48.2 6 6 ((q48.2.1 6 6) - 1))
                  else none
              else none
      else none
set_option maxRecDepth 20000 in
theorem T46_6_0 {B : zHp} (H : yH0 B) (X : yTx B) {e : Nat} (he : 2 ≤ e + 1) (F : Nat) : ∀ (f : Nat) {v1 : Int32} {lv : List (Nat × Value)} {m : xS} {x : Unit × xS}, zld lv 0 = some (.ref 6) → zld lv 1 = some (.int v1) → D46_6_0 F f v1 m = some x → zR none e 2 none zc46 (0, lv, []) (xW B m) (none, xW B x.2) := by
  intro f
  induction f with
  | zero => intro v1 lv m x l0 l1 h; cases h
  | succ f ih =>
    intro v1 lv m x l0 l1 h
    unfold D46_6_0 at h
    refine q_lr (k := 1) (i := 0) (q := (.aload_n 0, 1, 0, 0, .null)) rfl (fun _ => rfl) l0 ?_
    refine r_gi (v := (m.1 6 3)) H (pc := 1) (i := _) rfl (by decide) (by decide) rfl ?_
    refine r_if (len := 3) (a := 77) (b := 0) (v0 := .null) (cn := .le) (off := 73) rfl (fun c => ?_) (fun c => ?_)
    · rw [if_pos c] at h
      obtain rfl := Option.some.inj h
      exact r_ret (q := (.return_, 1, 0, 0, .null)) rfl rfl (fun _ => rfl)
    · rw [if_neg (by rw [c]; decide)] at h
      refine q_lr (k := 1) (i := 0) (q := (.aload_n 0, 1, 0, 0, .null)) rfl (fun _ => rfl) l0 ?_
      refine r_gr (c := 8) H (pc := 8) rfl (by decide) (by decide) ?_
      refine q_lr (k := 1) (i := 0) (q := (.aload_n 0, 1, 0, 0, .null)) rfl (fun _ => rfl) l0 ?_
      refine r_gi (v := (m.1 6 3)) H (pc := 12) (i := _) rfl (by decide) (by decide) rfl ?_
      refine r_s (fr' := (16, lv, [.int 1, .int (m.1 6 3), .ref 8])) (hp' := xW B m) (q := (.iconst 1, 1, 0, 0, .null)) rfl (fun _ => rfl) (Nat.le_refl _) ?_
      refine r_s (fr' := (17, lv, [.int ((m.1 6 3) - 1), .ref 8])) (hp' := xW B m) (q := (.isub, 1, 0, 0, .null)) rfl (fun _ => rfl) (Nat.le_refl _) ?_
      obtain ⟨c1, h⟩ := xif h
      refine q_al (n := 400) (v := (m.1 8 (((m.1 6 3) - 1) : Int32).toNatClampNeg)) H (pc := 17) rfl (by decide) c1 rfl ?_
      obtain ⟨q18, h18, h⟩ := xbind h
      refine r_callS (as := [.int (m.1 8 (((m.1 6 3) - 1) : Int32).toNatClampNeg)]) (rest := []) (rv := some (.int q18.1)) (hp' := xW B q18.2) (pc := 18) rfl xr26 rfl rfl rfl (Nat.le_of_ble_eq_true rfl) (Z26 H X h18 (by omega)) (Nat.le_refl _) ?_
      refine q_li (k := 1) (i := 1) (q := (.iload_n 1, 1, 0, 0, .null)) rfl (fun _ => rfl) l1 ?_
      obtain ⟨q22, h22, h⟩ := xbind h
      refine r_callS (as := [.int v1]) (rest := [.int q18.1]) (rv := some (.int q22.1)) (hp' := xW B q22.2) (pc := 22) rfl xr26 rfl rfl rfl (Nat.le_of_ble_eq_true rfl) (Z26 H X h22 (by omega)) (Nat.le_refl _) ?_
      refine r_ifc (len := 3) (a := 77) (b := 0) (v0 := .null) (cn := .lt) (off := 52) rfl (fun c => ?_) (fun c => ?_)
      · rw [if_pos c] at h
        obtain rfl := Option.some.inj h
        exact r_ret (q := (.return_, 1, 0, 0, .null)) rfl rfl (fun _ => rfl)
      · rw [if_neg (by rw [c]; decide)] at h
        refine q_lr (k := 1) (i := 0) (q := (.aload_n 0, 1, 0, 0, .null)) rfl (fun _ => rfl) l0 ?_
        refine r_s (fr' := (30, lv, [.ref 6, .ref 6])) (hp' := xW B q22.2) (q := (.dup, 1, 0, 0, .null)) rfl (fun _ => rfl) (Nat.le_refl _) ?_
        refine r_gi (v := (q22.2.1 6 3)) H (pc := 30) (i := _) rfl (by decide) (by decide) rfl ?_
        refine r_s (fr' := (34, lv, [.int 1, .int (q22.2.1 6 3), .ref 6])) (hp' := xW B q22.2) (q := (.iconst 1, 1, 0, 0, .null)) rfl (fun _ => rfl) (Nat.le_refl _) ?_
        refine r_s (fr' := (35, lv, [.int ((q22.2.1 6 3) - 1), .ref 6])) (hp' := xW B q22.2) (q := (.isub, 1, 0, 0, .null)) rfl (fun _ => rfl) (Nat.le_refl _) ?_
        refine r_pi (s2 := (xu q22.2 6 3 ((q22.2.1 6 3) - 1))) H (pc := 35) rfl (by decide) rfl rfl ?_
        refine q_lr (k := 1) (i := 0) (q := (.aload_n 0, 1, 0, 0, .null)) rfl (fun _ => rfl) l0 ?_
        refine q_lr (k := 1) (i := 0) (q := (.aload_n 0, 1, 0, 0, .null)) rfl (fun _ => rfl) l0 ?_
        refine r_gr (c := 8) H (pc := 40) rfl (by decide) (by decide) ?_
        refine q_lr (k := 1) (i := 0) (q := (.aload_n 0, 1, 0, 0, .null)) rfl (fun _ => rfl) l0 ?_
        refine r_gi (v := ((q22.2.1 6 3) - 1)) H (pc := 44) (i := _) rfl (by decide) (by decide) rfl ?_
        obtain ⟨c2, h⟩ := xif h
        refine q_al (n := 400) (v := (q22.2.1 8 (((q22.2.1 6 3) - 1) : Int32).toNatClampNeg)) H (pc := 47) rfl (by decide) c2 rfl ?_
        obtain ⟨q48, h48, h⟩ := xbind h
        refine r_call (ix := 6) (as := [.int (q22.2.1 8 (((q22.2.1 6 3) - 1) : Int32).toNatClampNeg)]) (rest := []) (rv := none) (hp' := xW B q48.2) (pc := 48) rfl xr48 rfl rfl rfl (xkd H (by decide)) (Nat.le_of_ble_eq_true rfl) (Z48_6 H X h48 (by omega)) (Nat.le_refl _) ?_
        refine q_lr (k := 1) (i := 0) (q := (.aload_n 0, 1, 0, 0, .null)) rfl (fun _ => rfl) l0 ?_
        refine r_gr (c := 8) H (pc := 52) rfl (by decide) (by decide) ?_
        refine q_lr (k := 1) (i := 0) (q := (.aload_n 0, 1, 0, 0, .null)) rfl (fun _ => rfl) l0 ?_
        refine r_gi (v := (q48.2.1 6 3)) H (pc := 56) (i := _) rfl (by decide) (by decide) rfl ?_
        obtain ⟨c3, h⟩ := xif h
        refine q_al (n := 400) (v := (q48.2.1 8 ((q48.2.1 6 3) : Int32).toNatClampNeg)) H (pc := 59) rfl (by decide) c3 rfl ?_
        refine r_s (fr' := (61, lv, [.int 3, .int (q48.2.1 8 ((q48.2.1 6 3) : Int32).toNatClampNeg)])) (hp' := xW B q48.2) (q := (.iconst 3, 1, 0, 0, .null)) rfl (fun _ => rfl) (Nat.le_refl _) ?_
        refine r_ifc (len := 3) (a := 0) (b := 0) (v0 := .null) (cn := .ne) (off := (-61)) rfl (fun c => ?_) (fun c => ?_)
        · rw [if_pos c] at h
          exact ih l0 l1 h
        · rw [if_neg (by rw [c]; decide)] at h
          refine q_lr (k := 1) (i := 0) (q := (.aload_n 0, 1, 0, 0, .null)) rfl (fun _ => rfl) l0 ?_
          refine r_s (fr' := (66, lv, [.ref 6, .ref 6])) (hp' := xW B q48.2) (q := (.dup, 1, 0, 0, .null)) rfl (fun _ => rfl) (Nat.le_refl _) ?_
          refine r_gi (v := (q48.2.1 6 6)) H (pc := 66) (i := _) rfl (by decide) (by decide) rfl ?_
          refine r_s (fr' := (70, lv, [.int 1, .int (q48.2.1 6 6), .ref 6])) (hp' := xW B q48.2) (q := (.iconst 1, 1, 0, 0, .null)) rfl (fun _ => rfl) (Nat.le_refl _) ?_
          refine r_s (fr' := (71, lv, [.int ((q48.2.1 6 6) - 1), .ref 6])) (hp' := xW B q48.2) (q := (.isub, 1, 0, 0, .null)) rfl (fun _ => rfl) (Nat.le_refl _) ?_
          refine r_pi (s2 := (xu q48.2 6 6 ((q48.2.1 6 6) - 1))) H (pc := 71) rfl (by decide) rfl rfl ?_
          refine r_s (fr' := (0, lv, [])) (hp' := xW B (xu q48.2 6 6 ((q48.2.1 6 6) - 1))) (q := (.goto (-74), 3, 0, 0, .null)) rfl (fun _ => rfl) (Nat.le_refl _) ?_
          exact ih l0 l1 h
def D46_6 (F : Nat) (a1 : Int32) (m : xS) : Option (Unit × xS) := D46_6_0 F F a1 m
set_option maxRecDepth 20000 in
theorem Z46_6 {B : zHp} (H : yH0 B) (X : yTx B) {F : Nat} {a1 : Int32} {m : xS} {x : Unit × xS} (h : D46_6 F a1 m = some x) {d : Nat} (hd : 2 ≤ d) : zCan d 46 [.ref 6, .int a1] (xW B m) (none, xW B x.2) := by
  obtain ⟨e, rfl⟩ : ∃ e, d = e + 1 := ⟨d - 1, by omega⟩
  refine zCan_body (nL := 2) (rt := none) (cd := zc46) (xg46) ⟨Nat.le_of_ble_eq_true rfl, by decide⟩ (Nat.le_refl _) ?_
  exact T46_6_0 H X hd F F rfl rfl h
/-- LentTools$RuleReader.joinBy -/
def D45_6 (F : Nat) (v1 : Int32) (m : xS) : Option (Unit × xS) :=
  (D46_6 F v1 m).bind fun q2 =>
    (D47_6 F v1 q2.2).bind fun q7 =>
      some ((), q7.2)
set_option maxRecDepth 20000 in
theorem T45_6 {B : zHp} (H : yH0 B) (X : yTx B) {e : Nat} (he : 3 ≤ e + 1) (F : Nat) {v1 : Int32} {lv : List (Nat × Value)} {m : xS} {x : Unit × xS} (l0 : zld lv 0 = some (.ref 6)) (l1 : zld lv 1 = some (.int v1)) (h : D45_6 F v1 m = some x) : zR none e 2 none zc45 (0, lv, []) (xW B m) (none, xW B x.2) := by
  unfold D45_6 at h
  refine q_lr (k := 1) (i := 0) (q := (.aload_n 0, 1, 0, 0, .null)) rfl (fun _ => rfl) l0 ?_
  refine q_li (k := 1) (i := 1) (q := (.iload_n 1, 1, 0, 0, .null)) rfl (fun _ => rfl) l1 ?_
  obtain ⟨q2, h2, h⟩ := xbind h
  refine r_call (ix := 6) (as := [.int v1]) (rest := []) (rv := none) (hp' := xW B q2.2) (pc := 2) rfl xr46 rfl rfl rfl (xkd H (by decide)) (Nat.le_of_ble_eq_true rfl) (Z46_6 H X h2 (by omega)) (Nat.le_refl _) ?_
  refine q_lr (k := 1) (i := 0) (q := (.aload_n 0, 1, 0, 0, .null)) rfl (fun _ => rfl) l0 ?_
  refine q_li (k := 1) (i := 1) (q := (.iload_n 1, 1, 0, 0, .null)) rfl (fun _ => rfl) l1 ?_
  obtain ⟨q7, h7, h⟩ := xbind h
  refine r_call (ix := 6) (as := [.int v1]) (rest := []) (rv := none) (hp' := xW B q7.2) (pc := 7) rfl xr47 rfl rfl rfl (xkd H (by decide)) (Nat.le_of_ble_eq_true rfl) (Z47_6 H X h7 (by omega)) (Nat.le_refl _) ?_
  obtain rfl := Option.some.inj h
  exact r_ret (q := (.return_, 1, 0, 0, .null)) rfl rfl (fun _ => rfl)
set_option maxRecDepth 20000 in
theorem Z45_6 {B : zHp} (H : yH0 B) (X : yTx B) {F : Nat} {a1 : Int32} {m : xS} {x : Unit × xS} (h : D45_6 F a1 m = some x) {d : Nat} (hd : 3 ≤ d) : zCan d 45 [.ref 6, .int a1] (xW B m) (none, xW B x.2) := by
  obtain ⟨e, rfl⟩ : ∃ e, d = e + 1 := ⟨d - 1, by omega⟩
  refine zCan_body (nL := 2) (rt := none) (cd := zc45) (xg45) ⟨Nat.le_of_ble_eq_true rfl, by decide⟩ (Nat.le_refl _) ?_
  exact T45_6 H X hd F rfl rfl h
/-- java/lang/String.coder -/
def D283_1005 (F : Nat) (m : xS) : Option (Int32 × xS) :=
  if zcmp .eq 1 0 = true then
    some (1, m)
  else
    some (0, m)
set_option maxRecDepth 20000 in
theorem T283_1005 {B : zHp} (H : yH0 B) (X : yTx B) {e : Nat} (he : 1 ≤ e + 1) (F : Nat) {lv : List (Nat × Value)} {m : xS} {x : Int32 × xS} (l0 : zld lv 0 = some (.ref 1005)) (h : D283_1005 F m = some x) : zR none e 1 (some .byte) zc283 (0, lv, []) (xW B m) (some (.int x.1), xW B x.2) := by
  unfold D283_1005 at h
  refine r_s (fr' := (3, lv, [.int 1])) (hp' := xW B m) (q := (.getstatic 38, 3, 0, 0, .int 1)) rfl (fun _ => rfl) (Nat.le_refl _) ?_
  refine r_if (len := 3) (a := 13) (b := 0) (v0 := .null) (cn := .eq) (off := 10) rfl (fun c => ?_) (fun c => ?_)
  · rw [if_pos c] at h
    refine r_s (fr' := (14, lv, [.int 1])) (hp' := xW B m) (q := (.iconst 1, 1, 0, 0, .null)) rfl (fun _ => rfl) (Nat.le_refl _) ?_
    obtain rfl := Option.some.inj h
    exact q_ri (q := (.ireturn, 1, 0, 0, .null)) rfl (fun _ => rfl) rfl rfl
  · rw [if_neg (by rw [c]; decide)] at h
    refine q_lr (k := 1) (i := 0) (q := (.aload_n 0, 1, 0, 0, .null)) rfl (fun _ => rfl) l0 ?_
    refine r_s (fr' := (10, lv, [.int 0])) (hp' := xW B m) (q := (.getfield 15, 3, 100, 1, .null)) rfl (fun _ => rfl) (Nat.le_refl _) ?_
    refine r_s (fr' := (14, lv, [.int 0])) (hp' := xW B m) (q := (.goto 4, 3, 14, 0, .null)) rfl (fun _ => rfl) (Nat.le_refl _) ?_
    obtain rfl := Option.some.inj h
    exact q_ri (q := (.ireturn, 1, 0, 0, .null)) rfl (fun _ => rfl) rfl rfl
set_option maxRecDepth 20000 in
theorem Z283_1005 {B : zHp} (H : yH0 B) (X : yTx B) {F : Nat} {m : xS} {x : Int32 × xS} (h : D283_1005 F m = some x) {d : Nat} (hd : 1 ≤ d) : zCan d 283 [.ref 1005] (xW B m) (some (.int x.1), xW B x.2) := by
  obtain ⟨e, rfl⟩ : ∃ e, d = e + 1 := ⟨d - 1, by omega⟩
  refine zCan_body (nL := 1) (rt := (some .byte)) (cd := zc283) (xg283) ⟨Nat.le_of_ble_eq_true rfl, by decide⟩ (Nat.le_refl _) ?_
  exact T283_1005 H X hd F rfl h
/-- java/lang/String.length -/
def D281_1005 (F : Nat) (m : xS) : Option (Int32 × xS) :=
  (D283_1005 F m).bind fun q6 =>
    some (((Int32.ofNat 3) >>> (q6.1 &&& 31)), q6.2)
set_option maxRecDepth 20000 in
theorem T281_1005 {B : zHp} (H : yH0 B) (X : yTx B) {e : Nat} (he : 2 ≤ e + 1) (F : Nat) {lv : List (Nat × Value)} {m : xS} {x : Int32 × xS} (l0 : zld lv 0 = some (.ref 1005)) (h : D281_1005 F m = some x) : zR none e 1 (some .int) zc281 (0, lv, []) (xW B m) (some (.int x.1), xW B x.2) := by
  unfold D281_1005 at h
  refine q_lr (k := 1) (i := 0) (q := (.aload_n 0, 1, 0, 0, .null)) rfl (fun _ => rfl) l0 ?_
  refine r_s (fr' := (4, lv, [.ref 1024])) (hp' := xW B m) (q := (.getfield 9, 3, 100, 0, .null)) rfl (fun _ => rfl) (Nat.le_refl _) ?_
  refine r_s (fr' := (5, lv, [.int (Int32.ofNat 3)])) (hp' := xW B m) (q := (.arraylength, 1, 0, 0, .null)) rfl (fun _ => rfl) (Nat.le_refl _) ?_
  refine q_lr (k := 1) (i := 0) (q := (.aload_n 0, 1, 0, 0, .null)) rfl (fun _ => rfl) l0 ?_
  obtain ⟨q6, h6, h⟩ := xbind h
  refine r_call (ix := 1005) (as := []) (rest := [.int (Int32.ofNat 3)]) (rv := some (.int q6.1)) (hp' := xW B q6.2) (pc := 6) rfl xr283 rfl rfl rfl rfl (Nat.le_of_ble_eq_true rfl) (Z283_1005 H X h6 (by omega)) (Nat.le_refl _) ?_
  refine r_s (fr' := (10, lv, [.int ((Int32.ofNat 3) >>> (q6.1 &&& 31))])) (hp' := xW B q6.2) (q := (.ishr, 1, 0, 0, .null)) rfl (fun _ => rfl) (Nat.le_refl _) ?_
  obtain rfl := Option.some.inj h
  exact q_ri (q := (.ireturn, 1, 0, 0, .null)) rfl (fun _ => rfl) rfl rfl
set_option maxRecDepth 20000 in
theorem Z281_1005 {B : zHp} (H : yH0 B) (X : yTx B) {F : Nat} {m : xS} {x : Int32 × xS} (h : D281_1005 F m = some x) {d : Nat} (hd : 2 ≤ d) : zCan d 281 [.ref 1005] (xW B m) (some (.int x.1), xW B x.2) := by
  obtain ⟨e, rfl⟩ : ∃ e, d = e + 1 := ⟨d - 1, by omega⟩
  refine zCan_body (nL := 1) (rt := (some .int)) (cd := zc281) (xg281) ⟨Nat.le_of_ble_eq_true rfl, by decide⟩ (Nat.le_refl _) ?_
  exact T281_1005 H X hd F rfl h
/-- java/lang/String.isLatin1 -/
def D284_1005_17 (F : Nat) (m : xS) : Option (Int32 × xS) :=
  some (0, m)
set_option maxRecDepth 20000 in
theorem T284_1005_17 {B : zHp} (H : yH0 B) (X : yTx B) {e : Nat} (he : 1 ≤ e + 1) (F : Nat) {lv : List (Nat × Value)} {m : xS} {x : Int32 × xS} (l0 : zld lv 0 = some (.ref 1005)) (h : D284_1005_17 F m = some x) : zR none e 1 (some .boolean) zc284 (17, lv, []) (xW B m) (some (.int x.1), xW B x.2) := by
  unfold D284_1005_17 at h
  refine r_s (fr' := (18, lv, [.int 0])) (hp' := xW B m) (q := (.iconst 0, 1, 0, 0, .null)) rfl (fun _ => rfl) (Nat.le_refl _) ?_
  obtain rfl := Option.some.inj h
  exact q_ri (q := (.ireturn, 1, 0, 0, .null)) rfl (fun _ => rfl) rfl rfl
def D284_1005 (F : Nat) (m : xS) : Option (Int32 × xS) :=
  if zcmp .eq 1 0 = true then
    D284_1005_17 F m
  else
    if zcmp .ne 0 0 = true then
      D284_1005_17 F m
    else
      some (1, m)
set_option maxRecDepth 20000 in
theorem T284_1005 {B : zHp} (H : yH0 B) (X : yTx B) {e : Nat} (he : 1 ≤ e + 1) (F : Nat) {lv : List (Nat × Value)} {m : xS} {x : Int32 × xS} (l0 : zld lv 0 = some (.ref 1005)) (h : D284_1005 F m = some x) : zR none e 1 (some .boolean) zc284 (0, lv, []) (xW B m) (some (.int x.1), xW B x.2) := by
  unfold D284_1005 at h
  refine r_s (fr' := (3, lv, [.int 1])) (hp' := xW B m) (q := (.getstatic 38, 3, 0, 0, .int 1)) rfl (fun _ => rfl) (Nat.le_refl _) ?_
  refine r_if (len := 3) (a := 17) (b := 0) (v0 := .null) (cn := .eq) (off := 14) rfl (fun c => ?_) (fun c => ?_)
  · rw [if_pos c] at h
    exact T284_1005_17 H X he F l0 h
  · rw [if_neg (by rw [c]; decide)] at h
    refine q_lr (k := 1) (i := 0) (q := (.aload_n 0, 1, 0, 0, .null)) rfl (fun _ => rfl) l0 ?_
    refine r_s (fr' := (10, lv, [.int 0])) (hp' := xW B m) (q := (.getfield 15, 3, 100, 1, .null)) rfl (fun _ => rfl) (Nat.le_refl _) ?_
    refine r_if (len := 3) (a := 17) (b := 0) (v0 := .null) (cn := .ne) (off := 7) rfl (fun c => ?_) (fun c => ?_)
    · rw [if_pos c] at h
      exact T284_1005_17 H X he F l0 h
    · rw [if_neg (by rw [c]; decide)] at h
      refine r_s (fr' := (14, lv, [.int 1])) (hp' := xW B m) (q := (.iconst 1, 1, 0, 0, .null)) rfl (fun _ => rfl) (Nat.le_refl _) ?_
      refine r_s (fr' := (18, lv, [.int 1])) (hp' := xW B m) (q := (.goto 4, 3, 18, 0, .null)) rfl (fun _ => rfl) (Nat.le_refl _) ?_
      obtain rfl := Option.some.inj h
      exact q_ri (q := (.ireturn, 1, 0, 0, .null)) rfl (fun _ => rfl) rfl rfl
set_option maxRecDepth 20000 in
theorem Z284_1005 {B : zHp} (H : yH0 B) (X : yTx B) {F : Nat} {m : xS} {x : Int32 × xS} (h : D284_1005 F m = some x) {d : Nat} (hd : 1 ≤ d) : zCan d 284 [.ref 1005] (xW B m) (some (.int x.1), xW B x.2) := by
  obtain ⟨e, rfl⟩ : ∃ e, d = e + 1 := ⟨d - 1, by omega⟩
  refine zCan_body (nL := 1) (rt := (some .boolean)) (cd := zc284) (xg284) ⟨Nat.le_of_ble_eq_true rfl, by decide⟩ (Nat.le_refl _) ?_
  exact T284_1005 H X hd F rfl h
/-- java/lang/StringLatin1.charAt -/
def D286_1024 (F : Nat) (v1 : Int32) (m : xS) : Option (Int32 × xS) :=
  (D285 F v1 (Int32.ofNat 3) m).bind fun q3 =>
    if xib v1 3 = true then
      if (vp_nar .char ((((zsv 24 (v1 : Int32).toNatClampNeg) &&& 255) : Int32).toUInt32 % 65536).toInt32 == ((((zsv 24 (v1 : Int32).toNatClampNeg) &&& 255) : Int32).toUInt32 % 65536).toInt32) = true then
        some (((((zsv 24 (v1 : Int32).toNatClampNeg) &&& 255) : Int32).toUInt32 % 65536).toInt32, q3.2)
      else none
    else none
set_option maxRecDepth 20000 in
theorem T286_1024 {B : zHp} (H : yH0 B) (X : yTx B) {e : Nat} (he : 3 ≤ e + 1) (F : Nat) {v1 : Int32} {lv : List (Nat × Value)} {m : xS} {x : Int32 × xS} (l0 : zld lv 0 = some (.ref 1024)) (l1 : zld lv 1 = some (.int v1)) (h : D286_1024 F v1 m = some x) : zR none e 2 (some .char) zc286 (0, lv, []) (xW B m) (some (.int x.1), xW B x.2) := by
  unfold D286_1024 at h
  refine q_li (k := 1) (i := 1) (q := (.iload_n 1, 1, 0, 0, .null)) rfl (fun _ => rfl) l1 ?_
  refine q_lr (k := 1) (i := 0) (q := (.aload_n 0, 1, 0, 0, .null)) rfl (fun _ => rfl) l0 ?_
  refine r_s (fr' := (3, lv, [.int (Int32.ofNat 3), .int v1])) (hp' := xW B m) (q := (.arraylength, 1, 0, 0, .null)) rfl (fun _ => rfl) (Nat.le_refl _) ?_
  obtain ⟨q3, h3, h⟩ := xbind h
  refine r_callS (as := [.int v1, .int (Int32.ofNat 3)]) (rest := []) (rv := none) (hp' := xW B q3.2) (pc := 3) rfl xr285 rfl rfl rfl (Nat.le_of_ble_eq_true rfl) (Z285 H X h3 (by omega)) (Nat.le_refl _) ?_
  refine q_lr (k := 1) (i := 0) (q := (.aload_n 0, 1, 0, 0, .null)) rfl (fun _ => rfl) l0 ?_
  refine q_li (k := 1) (i := 1) (q := (.iload_n 1, 1, 0, 0, .null)) rfl (fun _ => rfl) l1 ?_
  obtain ⟨c1, h⟩ := xif h
  refine q_sbl (n := 3) (f := zsv 24) (i := 1024) (pc := 8) rfl (by decide) rfl c1 ?_
  refine r_s (fr' := (12, lv, [.int 255, .int (zsv 24 (v1 : Int32).toNatClampNeg)])) (hp' := xW B q3.2) (q := (.sipush 255, 3, 0, 0, .null)) rfl (fun _ => rfl) (Nat.le_refl _) ?_
  refine r_s (fr' := (13, lv, [.int ((zsv 24 (v1 : Int32).toNatClampNeg) &&& 255)])) (hp' := xW B q3.2) (q := (.iand, 1, 0, 0, .null)) rfl (fun _ => rfl) (Nat.le_refl _) ?_
  refine r_s (fr' := (14, lv, [.int ((((zsv 24 (v1 : Int32).toNatClampNeg) &&& 255) : Int32).toUInt32 % 65536).toInt32])) (hp' := xW B q3.2) (q := (.i2c, 1, 0, 0, .null)) rfl (fun _ => rfl) (Nat.le_refl _) ?_
  obtain ⟨c2, h⟩ := xif h
  obtain rfl := Option.some.inj h
  exact q_ri (q := (.ireturn, 1, 0, 0, .null)) rfl (fun _ => rfl) rfl (xnar_ok rfl c2)
set_option maxRecDepth 20000 in
theorem Z286_1024 {B : zHp} (H : yH0 B) (X : yTx B) {F : Nat} {a1 : Int32} {m : xS} {x : Int32 × xS} (h : D286_1024 F a1 m = some x) {d : Nat} (hd : 3 ≤ d) : zCan d 286 [.ref 1024, .int a1] (xW B m) (some (.int x.1), xW B x.2) := by
  obtain ⟨e, rfl⟩ : ∃ e, d = e + 1 := ⟨d - 1, by omega⟩
  refine zCan_body (nL := 2) (rt := (some .char)) (cd := zc286) (xg286) ⟨Nat.le_of_ble_eq_true rfl, by decide⟩ (Nat.le_refl _) ?_
  exact T286_1024 H X hd F rfl rfl h
/-- java/lang/StringUTF16.length -/
def D288_1024 (F : Nat) (m : xS) : Option (Int32 × xS) :=
  some (((Int32.ofNat 3) >>> (1 &&& 31)), m)
set_option maxRecDepth 20000 in
theorem T288_1024 {B : zHp} (H : yH0 B) (X : yTx B) {e : Nat} (he : 1 ≤ e + 1) (F : Nat) {lv : List (Nat × Value)} {m : xS} {x : Int32 × xS} (l0 : zld lv 0 = some (.ref 1024)) (h : D288_1024 F m = some x) : zR none e 1 (some .int) zc288 (0, lv, []) (xW B m) (some (.int x.1), xW B x.2) := by
  unfold D288_1024 at h
  refine q_lr (k := 1) (i := 0) (q := (.aload_n 0, 1, 0, 0, .null)) rfl (fun _ => rfl) l0 ?_
  refine r_s (fr' := (2, lv, [.int (Int32.ofNat 3)])) (hp' := xW B m) (q := (.arraylength, 1, 0, 0, .null)) rfl (fun _ => rfl) (Nat.le_refl _) ?_
  refine r_s (fr' := (3, lv, [.int 1, .int (Int32.ofNat 3)])) (hp' := xW B m) (q := (.iconst 1, 1, 0, 0, .null)) rfl (fun _ => rfl) (Nat.le_refl _) ?_
  refine r_s (fr' := (4, lv, [.int ((Int32.ofNat 3) >>> (1 &&& 31))])) (hp' := xW B m) (q := (.ishr, 1, 0, 0, .null)) rfl (fun _ => rfl) (Nat.le_refl _) ?_
  obtain rfl := Option.some.inj h
  exact q_ri (q := (.ireturn, 1, 0, 0, .null)) rfl (fun _ => rfl) rfl rfl
set_option maxRecDepth 20000 in
theorem Z288_1024 {B : zHp} (H : yH0 B) (X : yTx B) {F : Nat} {m : xS} {x : Int32 × xS} (h : D288_1024 F m = some x) {d : Nat} (hd : 1 ≤ d) : zCan d 288 [.ref 1024] (xW B m) (some (.int x.1), xW B x.2) := by
  obtain ⟨e, rfl⟩ : ∃ e, d = e + 1 := ⟨d - 1, by omega⟩
  refine zCan_body (nL := 1) (rt := (some .int)) (cd := zc288) (xg288) ⟨Nat.le_of_ble_eq_true rfl, by decide⟩ (Nat.le_refl _) ?_
  exact T288_1024 H X hd F rfl h
/-- java/lang/StringUTF16.checkIndex -/
def D290_1024 (F : Nat) (v0 : Int32) (m : xS) : Option (Unit × xS) :=
  (D288_1024 F m).bind fun q2 =>
    (D285 F v0 q2.1 q2.2).bind fun q5 =>
      some ((), q5.2)
set_option maxRecDepth 20000 in
theorem T290_1024 {B : zHp} (H : yH0 B) (X : yTx B) {e : Nat} (he : 3 ≤ e + 1) (F : Nat) {v0 : Int32} {lv : List (Nat × Value)} {m : xS} {x : Unit × xS} (l0 : zld lv 0 = some (.int v0)) (l1 : zld lv 1 = some (.ref 1024)) (h : D290_1024 F v0 m = some x) : zR none e 2 none zc290 (0, lv, []) (xW B m) (none, xW B x.2) := by
  unfold D290_1024 at h
  refine q_li (k := 1) (i := 0) (q := (.iload_n 0, 1, 0, 0, .null)) rfl (fun _ => rfl) l0 ?_
  refine q_lr (k := 1) (i := 1) (q := (.aload_n 1, 1, 0, 0, .null)) rfl (fun _ => rfl) l1 ?_
  obtain ⟨q2, h2, h⟩ := xbind h
  refine r_callS (as := [.ref 1024]) (rest := [.int v0]) (rv := some (.int q2.1)) (hp' := xW B q2.2) (pc := 2) rfl xr288 rfl rfl rfl (Nat.le_of_ble_eq_true rfl) (Z288_1024 H X h2 (by omega)) (Nat.le_refl _) ?_
  obtain ⟨q5, h5, h⟩ := xbind h
  refine r_callS (as := [.int v0, .int q2.1]) (rest := []) (rv := none) (hp' := xW B q5.2) (pc := 5) rfl xr285 rfl rfl rfl (Nat.le_of_ble_eq_true rfl) (Z285 H X h5 (by omega)) (Nat.le_refl _) ?_
  obtain rfl := Option.some.inj h
  exact r_ret (q := (.return_, 1, 0, 0, .null)) rfl rfl (fun _ => rfl)
set_option maxRecDepth 20000 in
theorem Z290_1024 {B : zHp} (H : yH0 B) (X : yTx B) {F : Nat} {a0 : Int32} {m : xS} {x : Unit × xS} (h : D290_1024 F a0 m = some x) {d : Nat} (hd : 3 ≤ d) : zCan d 290 [.int a0, .ref 1024] (xW B m) (none, xW B x.2) := by
  obtain ⟨e, rfl⟩ : ∃ e, d = e + 1 := ⟨d - 1, by omega⟩
  refine zCan_body (nL := 2) (rt := none) (cd := zc290) (xg290) ⟨Nat.le_of_ble_eq_true rfl, by decide⟩ (Nat.le_refl _) ?_
  exact T290_1024 H X hd F rfl rfl h
/-- java/lang/StringUTF16.getChar -/
def D287_1024 (F : Nat) (v1 : Int32) (m : xS) : Option (Int32 × xS) :=
  none
set_option maxRecDepth 20000 in
theorem T287_1024 {B : zHp} (H : yH0 B) (X : yTx B) {e : Nat} (he : 1 ≤ e + 1) (F : Nat) {v1 : Int32} {lv : List (Nat × Value)} {m : xS} {x : Int32 × xS} (l0 : zld lv 0 = some (.ref 1024)) (l1 : zld lv 1 = some (.int v1)) (h : D287_1024 F v1 m = some x) : zR none e 2 (some .char) zc287 (0, lv, []) (xW B m) (some (.int x.1), xW B x.2) := by
  unfold D287_1024 at h
  cases h
set_option maxRecDepth 20000 in
theorem Z287_1024 {B : zHp} (H : yH0 B) (X : yTx B) {F : Nat} {a1 : Int32} {m : xS} {x : Int32 × xS} (h : D287_1024 F a1 m = some x) {d : Nat} (hd : 1 ≤ d) : zCan d 287 [.ref 1024, .int a1] (xW B m) (some (.int x.1), xW B x.2) := by
  obtain ⟨e, rfl⟩ : ∃ e, d = e + 1 := ⟨d - 1, by omega⟩
  refine zCan_body (nL := 2) (rt := (some .char)) (cd := zc287) (xg287) ⟨Nat.le_of_ble_eq_true rfl, by decide⟩ (Nat.le_refl _) ?_
  exact T287_1024 H X hd F rfl rfl h
/-- java/lang/StringUTF16.charAt -/
def D289_1024 (F : Nat) (v1 : Int32) (m : xS) : Option (Int32 × xS) :=
  (D290_1024 F v1 m).bind fun q2 =>
    (D287_1024 F v1 q2.2).bind fun q7 =>
      if (vp_nar .char q7.1 == q7.1) = true then
        some (q7.1, q7.2)
      else none
set_option maxRecDepth 20000 in
theorem T289_1024 {B : zHp} (H : yH0 B) (X : yTx B) {e : Nat} (he : 4 ≤ e + 1) (F : Nat) {v1 : Int32} {lv : List (Nat × Value)} {m : xS} {x : Int32 × xS} (l0 : zld lv 0 = some (.ref 1024)) (l1 : zld lv 1 = some (.int v1)) (h : D289_1024 F v1 m = some x) : zR none e 2 (some .char) zc289 (0, lv, []) (xW B m) (some (.int x.1), xW B x.2) := by
  unfold D289_1024 at h
  refine q_li (k := 1) (i := 1) (q := (.iload_n 1, 1, 0, 0, .null)) rfl (fun _ => rfl) l1 ?_
  refine q_lr (k := 1) (i := 0) (q := (.aload_n 0, 1, 0, 0, .null)) rfl (fun _ => rfl) l0 ?_
  obtain ⟨q2, h2, h⟩ := xbind h
  refine r_callS (as := [.int v1, .ref 1024]) (rest := []) (rv := none) (hp' := xW B q2.2) (pc := 2) rfl xr290 rfl rfl rfl (Nat.le_of_ble_eq_true rfl) (Z290_1024 H X h2 (by omega)) (Nat.le_refl _) ?_
  refine q_lr (k := 1) (i := 0) (q := (.aload_n 0, 1, 0, 0, .null)) rfl (fun _ => rfl) l0 ?_
  refine q_li (k := 1) (i := 1) (q := (.iload_n 1, 1, 0, 0, .null)) rfl (fun _ => rfl) l1 ?_
  obtain ⟨q7, h7, h⟩ := xbind h
  refine r_callS (as := [.ref 1024, .int v1]) (rest := []) (rv := some (.int q7.1)) (hp' := xW B q7.2) (pc := 7) rfl xr287 rfl rfl rfl (Nat.le_of_ble_eq_true rfl) (Z287_1024 H X h7 (by omega)) (Nat.le_refl _) ?_
  obtain ⟨c1, h⟩ := xif h
  obtain rfl := Option.some.inj h
  exact q_ri (q := (.ireturn, 1, 0, 0, .null)) rfl (fun _ => rfl) rfl (xnar_ok rfl c1)
set_option maxRecDepth 20000 in
theorem Z289_1024 {B : zHp} (H : yH0 B) (X : yTx B) {F : Nat} {a1 : Int32} {m : xS} {x : Int32 × xS} (h : D289_1024 F a1 m = some x) {d : Nat} (hd : 4 ≤ d) : zCan d 289 [.ref 1024, .int a1] (xW B m) (some (.int x.1), xW B x.2) := by
  obtain ⟨e, rfl⟩ : ∃ e, d = e + 1 := ⟨d - 1, by omega⟩
  refine zCan_body (nL := 2) (rt := (some .char)) (cd := zc289) (xg289) ⟨Nat.le_of_ble_eq_true rfl, by decide⟩ (Nat.le_refl _) ?_
  exact T289_1024 H X hd F rfl rfl h
/-- java/lang/String.charAt -/
def D282_1005 (F : Nat) (v1 : Int32) (m : xS) : Option (Int32 × xS) :=
  (D284_1005 F m).bind fun q1 =>
    if zcmp .eq q1.1 0 = true then
      (D289_1024 F v1 q1.2).bind fun q21 =>
        if (vp_nar .char q21.1 == q21.1) = true then
          some (q21.1, q21.2)
        else none
    else
      (D286_1024 F v1 q1.2).bind fun q12 =>
        if (vp_nar .char q12.1 == q12.1) = true then
          some (q12.1, q12.2)
        else none
set_option maxRecDepth 20000 in
theorem T282_1005 {B : zHp} (H : yH0 B) (X : yTx B) {e : Nat} (he : 5 ≤ e + 1) (F : Nat) {v1 : Int32} {lv : List (Nat × Value)} {m : xS} {x : Int32 × xS} (l0 : zld lv 0 = some (.ref 1005)) (l1 : zld lv 1 = some (.int v1)) (h : D282_1005 F v1 m = some x) : zR none e 2 (some .char) zc282 (0, lv, []) (xW B m) (some (.int x.1), xW B x.2) := by
  unfold D282_1005 at h
  refine q_lr (k := 1) (i := 0) (q := (.aload_n 0, 1, 0, 0, .null)) rfl (fun _ => rfl) l0 ?_
  obtain ⟨q1, h1, h⟩ := xbind h
  refine r_call (ix := 1005) (as := []) (rest := []) (rv := some (.int q1.1)) (hp' := xW B q1.2) (pc := 1) rfl xr284 rfl rfl rfl rfl (Nat.le_of_ble_eq_true rfl) (Z284_1005 H X h1 (by omega)) (Nat.le_refl _) ?_
  refine r_if (len := 3) (a := 16) (b := 0) (v0 := .null) (cn := .eq) (off := 12) rfl (fun c => ?_) (fun c => ?_)
  · rw [if_pos c] at h
    refine q_lr (k := 1) (i := 0) (q := (.aload_n 0, 1, 0, 0, .null)) rfl (fun _ => rfl) l0 ?_
    refine r_s (fr' := (20, lv, [.ref 1024])) (hp' := xW B q1.2) (q := (.getfield 9, 3, 100, 0, .null)) rfl (fun _ => rfl) (Nat.le_refl _) ?_
    refine q_li (k := 1) (i := 1) (q := (.iload_n 1, 1, 0, 0, .null)) rfl (fun _ => rfl) l1 ?_
    obtain ⟨q21, h21, h⟩ := xbind h
    refine r_callS (as := [.ref 1024, .int v1]) (rest := []) (rv := some (.int q21.1)) (hp' := xW B q21.2) (pc := 21) rfl xr289 rfl rfl rfl (Nat.le_of_ble_eq_true rfl) (Z289_1024 H X h21 (by omega)) (Nat.le_refl _) ?_
    obtain ⟨c1, h⟩ := xif h
    obtain rfl := Option.some.inj h
    exact q_ri (q := (.ireturn, 1, 0, 0, .null)) rfl (fun _ => rfl) rfl (xnar_ok rfl c1)
  · rw [if_neg (by rw [c]; decide)] at h
    refine q_lr (k := 1) (i := 0) (q := (.aload_n 0, 1, 0, 0, .null)) rfl (fun _ => rfl) l0 ?_
    refine r_s (fr' := (11, lv, [.ref 1024])) (hp' := xW B q1.2) (q := (.getfield 9, 3, 100, 0, .null)) rfl (fun _ => rfl) (Nat.le_refl _) ?_
    refine q_li (k := 1) (i := 1) (q := (.iload_n 1, 1, 0, 0, .null)) rfl (fun _ => rfl) l1 ?_
    obtain ⟨q12, h12, h⟩ := xbind h
    refine r_callS (as := [.ref 1024, .int v1]) (rest := []) (rv := some (.int q12.1)) (hp' := xW B q12.2) (pc := 12) rfl xr286 rfl rfl rfl (Nat.le_of_ble_eq_true rfl) (Z286_1024 H X h12 (by omega)) (Nat.le_refl _) ?_
    obtain ⟨c2, h⟩ := xif h
    obtain rfl := Option.some.inj h
    exact q_ri (q := (.ireturn, 1, 0, 0, .null)) rfl (fun _ => rfl) rfl (xnar_ok rfl c2)
set_option maxRecDepth 20000 in
theorem Z282_1005 {B : zHp} (H : yH0 B) (X : yTx B) {F : Nat} {a1 : Int32} {m : xS} {x : Int32 × xS} (h : D282_1005 F a1 m = some x) {d : Nat} (hd : 5 ≤ d) : zCan d 282 [.ref 1005, .int a1] (xW B m) (some (.int x.1), xW B x.2) := by
  obtain ⟨e, rfl⟩ : ∃ e, d = e + 1 := ⟨d - 1, by omega⟩
  refine zCan_body (nL := 2) (rt := (some .char)) (cd := zc282) (xg282) ⟨Nat.le_of_ble_eq_true rfl, by decide⟩ (Nat.le_refl _) ?_
  exact T282_1005 H X hd F rfl rfl h
/-- LentTools$Text.passWord -/
def D59_2_1005_138 (F : Nat) (g55 : Int32 → Int32 → Int32 → Int32 → xS → Option (Int32 × xS)) (v2 : Int32) (v3 : Int32) (v4 : Int32) (v5 : Int32) (m : xS) : Option (Int32 × xS) :=
  g55 v2 v3 v4 (v5 + Int32.ofInt 1) m
set_option maxRecDepth 20000 in
theorem T59_2_1005_138 {B : zHp} (H : yH0 B) (X : yTx B) {e : Nat} (he : 6 ≤ e + 1) (F : Nat) (g55 : Int32 → Int32 → Int32 → Int32 → xS → Option (Int32 × xS)) (k55 : ∀ {v2 : Int32} {v3 : Int32} {v4 : Int32} {v5 : Int32} {lv : List (Nat × Value)} {m : xS} {x : Int32 × xS}, zld lv 0 = some (.ref 2) → zld lv 1 = some (.ref 1005) → zld lv 2 = some (.int v2) → zld lv 3 = some (.int v3) → zld lv 4 = some (.int v4) → zld lv 5 = some (.int v5) → g55 v2 v3 v4 v5 m = some x → zR none e 6 (some .int) zc59 (55, lv, []) (xW B m) (some (.int x.1), xW B x.2)) {v2 : Int32} {v3 : Int32} {v4 : Int32} {v5 : Int32} {lv : List (Nat × Value)} {m : xS} {x : Int32 × xS} (l0 : zld lv 0 = some (.ref 2)) (l1 : zld lv 1 = some (.ref 1005)) (l2 : zld lv 2 = some (.int v2)) (l3 : zld lv 3 = some (.int v3)) (l4 : zld lv 4 = some (.int v4)) (l5 : zld lv 5 = some (.int v5)) (h : D59_2_1005_138 F g55 v2 v3 v4 v5 m = some x) : zR none e 6 (some .int) zc59 (138, lv, []) (xW B m) (some (.int x.1), xW B x.2) := by
  unfold D59_2_1005_138 at h
  refine q_inc (i := 5) (n := 1) (q := (.iinc 5 1, 3, 0, 0, .null)) rfl (fun _ => rfl) l5 (by decide) ?_
  have l0_1 : zld (zs1 lv 5 (.int (v5 + Int32.ofInt 1))) 0 = some (.ref 2) := x_o1 l0 rfl rfl
  have l1_1 : zld (zs1 lv 5 (.int (v5 + Int32.ofInt 1))) 1 = some (.ref 1005) := x_o1 l1 rfl rfl
  have l2_1 : zld (zs1 lv 5 (.int (v5 + Int32.ofInt 1))) 2 = some (.int v2) := x_o1 l2 rfl rfl
  have l3_1 : zld (zs1 lv 5 (.int (v5 + Int32.ofInt 1))) 3 = some (.int v3) := x_o1 l3 rfl rfl
  have l4_1 : zld (zs1 lv 5 (.int (v5 + Int32.ofInt 1))) 4 = some (.int v4) := x_o1 l4 rfl rfl
  have l5_1 : zld (zs1 lv 5 (.int (v5 + Int32.ofInt 1))) 5 = some (.int (v5 + Int32.ofInt 1)) := zs1_ld _ _ _
  generalize (zs1 lv 5 (.int (v5 + Int32.ofInt 1))) = lv1 at *
  refine r_s (fr' := (55, lv1, [])) (hp' := xW B m) (q := (.goto (-86), 3, 55, 0, .null)) rfl (fun _ => rfl) (Nat.le_refl _) ?_
  exact k55 l0_1 l1_1 l2_1 l3_1 l4_1 l5_1 h
def D59_2_1005_111 (F : Nat) (g55 : Int32 → Int32 → Int32 → Int32 → xS → Option (Int32 × xS)) (v2 : Int32) (v3 : Int32) (v4 : Int32) (v5 : Int32) (w0 : Int32) (m : xS) : Option (Int32 × xS) :=
  D59_2_1005_138 F g55 v2 v3 w0 v5 m
set_option maxRecDepth 20000 in
theorem T59_2_1005_111 {B : zHp} (H : yH0 B) (X : yTx B) {e : Nat} (he : 6 ≤ e + 1) (F : Nat) (g55 : Int32 → Int32 → Int32 → Int32 → xS → Option (Int32 × xS)) (k55 : ∀ {v2 : Int32} {v3 : Int32} {v4 : Int32} {v5 : Int32} {lv : List (Nat × Value)} {m : xS} {x : Int32 × xS}, zld lv 0 = some (.ref 2) → zld lv 1 = some (.ref 1005) → zld lv 2 = some (.int v2) → zld lv 3 = some (.int v3) → zld lv 4 = some (.int v4) → zld lv 5 = some (.int v5) → g55 v2 v3 v4 v5 m = some x → zR none e 6 (some .int) zc59 (55, lv, []) (xW B m) (some (.int x.1), xW B x.2)) {v2 : Int32} {v3 : Int32} {v4 : Int32} {v5 : Int32} {w0 : Int32} {lv : List (Nat × Value)} {m : xS} {x : Int32 × xS} (l0 : zld lv 0 = some (.ref 2)) (l1 : zld lv 1 = some (.ref 1005)) (l2 : zld lv 2 = some (.int v2)) (l3 : zld lv 3 = some (.int v3)) (l4 : zld lv 4 = some (.int v4)) (l5 : zld lv 5 = some (.int v5)) (h : D59_2_1005_111 F g55 v2 v3 v4 v5 w0 m = some x) : zR none e 6 (some .int) zc59 (111, lv, [.int w0]) (xW B m) (some (.int x.1), xW B x.2) := by
  unfold D59_2_1005_111 at h
  refine q_si (k := 2) (i := 4) (q := (.istore 4, 2, 0, 0, .null)) rfl (fun _ => rfl) (by decide) ?_
  have l0_1 : zld (zs1 lv 4 (.int w0)) 0 = some (.ref 2) := x_o1 l0 rfl rfl
  have l1_1 : zld (zs1 lv 4 (.int w0)) 1 = some (.ref 1005) := x_o1 l1 rfl rfl
  have l2_1 : zld (zs1 lv 4 (.int w0)) 2 = some (.int v2) := x_o1 l2 rfl rfl
  have l3_1 : zld (zs1 lv 4 (.int w0)) 3 = some (.int v3) := x_o1 l3 rfl rfl
  have l4_1 : zld (zs1 lv 4 (.int w0)) 4 = some (.int w0) := zs1_ld _ _ _
  have l5_1 : zld (zs1 lv 4 (.int w0)) 5 = some (.int v5) := x_o1 l5 rfl rfl
  generalize (zs1 lv 4 (.int w0)) = lv1 at *
  refine r_s (fr' := (138, lv1, [])) (hp' := xW B m) (q := (.goto 25, 3, 138, 0, .null)) rfl (fun _ => rfl) (Nat.le_refl _) ?_
  exact T59_2_1005_138 H X he F _ k55 l0_1 l1_1 l2_1 l3_1 l4_1 l5_1 h
def D59_2_1005_110 (F : Nat) (g55 : Int32 → Int32 → Int32 → Int32 → xS → Option (Int32 × xS)) (v2 : Int32) (v3 : Int32) (v4 : Int32) (v5 : Int32) (m : xS) : Option (Int32 × xS) :=
  D59_2_1005_111 F g55 v2 v3 v4 v5 (-1) m
set_option maxRecDepth 20000 in
theorem T59_2_1005_110 {B : zHp} (H : yH0 B) (X : yTx B) {e : Nat} (he : 6 ≤ e + 1) (F : Nat) (g55 : Int32 → Int32 → Int32 → Int32 → xS → Option (Int32 × xS)) (k55 : ∀ {v2 : Int32} {v3 : Int32} {v4 : Int32} {v5 : Int32} {lv : List (Nat × Value)} {m : xS} {x : Int32 × xS}, zld lv 0 = some (.ref 2) → zld lv 1 = some (.ref 1005) → zld lv 2 = some (.int v2) → zld lv 3 = some (.int v3) → zld lv 4 = some (.int v4) → zld lv 5 = some (.int v5) → g55 v2 v3 v4 v5 m = some x → zR none e 6 (some .int) zc59 (55, lv, []) (xW B m) (some (.int x.1), xW B x.2)) {v2 : Int32} {v3 : Int32} {v4 : Int32} {v5 : Int32} {lv : List (Nat × Value)} {m : xS} {x : Int32 × xS} (l0 : zld lv 0 = some (.ref 2)) (l1 : zld lv 1 = some (.ref 1005)) (l2 : zld lv 2 = some (.int v2)) (l3 : zld lv 3 = some (.int v3)) (l4 : zld lv 4 = some (.int v4)) (l5 : zld lv 5 = some (.int v5)) (h : D59_2_1005_110 F g55 v2 v3 v4 v5 m = some x) : zR none e 6 (some .int) zc59 (110, lv, []) (xW B m) (some (.int x.1), xW B x.2) := by
  unfold D59_2_1005_110 at h
  refine r_s (fr' := (111, lv, [.int (-1)])) (hp' := xW B m) (q := (.iconst (-1), 1, 0, 0, .null)) rfl (fun _ => rfl) (Nat.le_refl _) ?_
  exact T59_2_1005_111 H X he F _ k55 l0 l1 l2 l3 l4 l5 h
def D59_2_1005_55 (F : Nat) : Nat → Int32 → Int32 → Int32 → Int32 → xS → Option (Int32 × xS)
  | 0, _, _, _, _, _ => none
  | f + 1, v2, v3, v4, v5, m =>
    (D281_1005 F m).bind fun q58 =>
      if zcmp .ge v5 q58.1 = true then
        some ((-1), q58.2)
      else
        (D282_1005 F v5 q58.2).bind fun q67 =>
          if zcmp .eq q67.1 32 = true then
            if zcmp .ne v4 v2 = true then
              D59_2_1005_138 F (D59_2_1005_55 F f) v2 (v3 + Int32.ofInt 1) (q67.2.1 2 3) v5 q67.2
            else
              some (v3, (xu q67.2 2 2 v2))
          else
            if zcmp .eq v4 (-1) = true then
              D59_2_1005_110 F (D59_2_1005_55 F f) v2 v3 v4 v5 q67.2
            else
              if zcmp .ge v4 v2 = true then
                D59_2_1005_110 F (D59_2_1005_55 F f) v2 v3 v4 v5 q67.2
              else
                if xib v4 400 = true then
                  (D282_1005 F v5 q67.2).bind fun q97 =>
                    if zcmp .ne (q67.2.1 1 (v4 : Int32).toNatClampNeg) q97.1 = true then
                      D59_2_1005_110 F (D59_2_1005_55 F f) v2 v3 v4 v5 q97.2
                    else
                      D59_2_1005_111 F (D59_2_1005_55 F f) v2 v3 v4 v5 (v4 + 1) q97.2
                else none
set_option maxRecDepth 20000 in
theorem T59_2_1005_55 {B : zHp} (H : yH0 B) (X : yTx B) {e : Nat} (he : 6 ≤ e + 1) (F : Nat) : ∀ (f : Nat) {v2 : Int32} {v3 : Int32} {v4 : Int32} {v5 : Int32} {lv : List (Nat × Value)} {m : xS} {x : Int32 × xS}, zld lv 0 = some (.ref 2) → zld lv 1 = some (.ref 1005) → zld lv 2 = some (.int v2) → zld lv 3 = some (.int v3) → zld lv 4 = some (.int v4) → zld lv 5 = some (.int v5) → D59_2_1005_55 F f v2 v3 v4 v5 m = some x → zR none e 6 (some .int) zc59 (55, lv, []) (xW B m) (some (.int x.1), xW B x.2) := by
  intro f
  induction f with
  | zero => intro v2 v3 v4 v5 lv m x l0 l1 l2 l3 l4 l5 h; cases h
  | succ f ih =>
    intro v2 v3 v4 v5 lv m x l0 l1 l2 l3 l4 l5 h
    unfold D59_2_1005_55 at h
    refine q_li (k := 2) (i := 5) (q := (.iload 5, 2, 0, 0, .null)) rfl (fun _ => rfl) l5 ?_
    refine q_lr (k := 1) (i := 1) (q := (.aload_n 1, 1, 0, 0, .null)) rfl (fun _ => rfl) l1 ?_
    obtain ⟨q58, h58, h⟩ := xbind h
    refine r_call (ix := 1005) (as := []) (rest := [.int v5]) (rv := some (.int q58.1)) (hp' := xW B q58.2) (pc := 58) rfl xr281 rfl rfl rfl rfl (Nat.le_of_ble_eq_true rfl) (Z281_1005 H X h58 (by omega)) (Nat.le_refl _) ?_
    refine r_ifc (len := 3) (a := 144) (b := 0) (v0 := .null) (cn := .ge) (off := 83) rfl (fun c => ?_) (fun c => ?_)
    · rw [if_pos c] at h
      refine r_s (fr' := (145, lv, [.int (-1)])) (hp' := xW B q58.2) (q := (.iconst (-1), 1, 0, 0, .null)) rfl (fun _ => rfl) (Nat.le_refl _) ?_
      obtain rfl := Option.some.inj h
      exact q_ri (q := (.ireturn, 1, 0, 0, .null)) rfl (fun _ => rfl) rfl rfl
    · rw [if_neg (by rw [c]; decide)] at h
      refine q_lr (k := 1) (i := 1) (q := (.aload_n 1, 1, 0, 0, .null)) rfl (fun _ => rfl) l1 ?_
      refine q_li (k := 2) (i := 5) (q := (.iload 5, 2, 0, 0, .null)) rfl (fun _ => rfl) l5 ?_
      obtain ⟨q67, h67, h⟩ := xbind h
      refine r_call (ix := 1005) (as := [.int v5]) (rest := []) (rv := some (.int q67.1)) (hp' := xW B q67.2) (pc := 67) rfl xr282 rfl rfl rfl rfl (Nat.le_of_ble_eq_true rfl) (Z282_1005 H X h67 (by omega)) (Nat.le_refl _) ?_
      refine r_s (fr' := (72, lv, [.int 32, .int q67.1])) (hp' := xW B q67.2) (q := (.bipush 32, 2, 0, 0, .null)) rfl (fun _ => rfl) (Nat.le_refl _) ?_
      refine r_ifc (len := 3) (a := 116) (b := 0) (v0 := .null) (cn := .eq) (off := 44) rfl (fun c => ?_) (fun c => ?_)
      · rw [if_pos c] at h
        refine q_li (k := 2) (i := 4) (q := (.iload 4, 2, 0, 0, .null)) rfl (fun _ => rfl) l4 ?_
        refine q_li (k := 1) (i := 2) (q := (.iload_n 2, 1, 0, 0, .null)) rfl (fun _ => rfl) l2 ?_
        refine r_ifc (len := 3) (a := 129) (b := 0) (v0 := .null) (cn := .ne) (off := 10) rfl (fun c => ?_) (fun c => ?_)
        · rw [if_pos c] at h
          refine q_inc (i := 3) (n := 1) (q := (.iinc 3 1, 3, 0, 0, .null)) rfl (fun _ => rfl) l3 (by decide) ?_
          have l0_1 : zld (zs1 lv 3 (.int (v3 + Int32.ofInt 1))) 0 = some (.ref 2) := x_o1 l0 rfl rfl
          have l1_1 : zld (zs1 lv 3 (.int (v3 + Int32.ofInt 1))) 1 = some (.ref 1005) := x_o1 l1 rfl rfl
          have l2_1 : zld (zs1 lv 3 (.int (v3 + Int32.ofInt 1))) 2 = some (.int v2) := x_o1 l2 rfl rfl
          have l3_1 : zld (zs1 lv 3 (.int (v3 + Int32.ofInt 1))) 3 = some (.int (v3 + Int32.ofInt 1)) := zs1_ld _ _ _
          have l4_1 : zld (zs1 lv 3 (.int (v3 + Int32.ofInt 1))) 4 = some (.int v4) := x_o1 l4 rfl rfl
          have l5_1 : zld (zs1 lv 3 (.int (v3 + Int32.ofInt 1))) 5 = some (.int v5) := x_o1 l5 rfl rfl
          generalize (zs1 lv 3 (.int (v3 + Int32.ofInt 1))) = lv1 at *
          refine q_lr (k := 1) (i := 0) (q := (.aload_n 0, 1, 0, 0, .null)) rfl (fun _ => rfl) l0_1 ?_
          refine r_gi (v := (q67.2.1 2 3)) H (pc := 133) (i := _) rfl (by decide) (by decide) rfl ?_
          refine q_si (k := 2) (i := 4) (q := (.istore 4, 2, 0, 0, .null)) rfl (fun _ => rfl) (by decide) ?_
          have l0_2 : zld (zs1 lv1 4 (.int (q67.2.1 2 3))) 0 = some (.ref 2) := x_o1 l0_1 rfl rfl
          have l1_2 : zld (zs1 lv1 4 (.int (q67.2.1 2 3))) 1 = some (.ref 1005) := x_o1 l1_1 rfl rfl
          have l2_2 : zld (zs1 lv1 4 (.int (q67.2.1 2 3))) 2 = some (.int v2) := x_o1 l2_1 rfl rfl
          have l3_2 : zld (zs1 lv1 4 (.int (q67.2.1 2 3))) 3 = some (.int (v3 + Int32.ofInt 1)) := x_o1 l3_1 rfl rfl
          have l4_2 : zld (zs1 lv1 4 (.int (q67.2.1 2 3))) 4 = some (.int (q67.2.1 2 3)) := zs1_ld _ _ _
          have l5_2 : zld (zs1 lv1 4 (.int (q67.2.1 2 3))) 5 = some (.int v5) := x_o1 l5_1 rfl rfl
          generalize (zs1 lv1 4 (.int (q67.2.1 2 3))) = lv2 at *
          exact T59_2_1005_138 H X he F _ ih l0_2 l1_2 l2_2 l3_2 l4_2 l5_2 h
        · rw [if_neg (by rw [c]; decide)] at h
          refine q_lr (k := 1) (i := 0) (q := (.aload_n 0, 1, 0, 0, .null)) rfl (fun _ => rfl) l0 ?_
          refine q_li (k := 1) (i := 2) (q := (.iload_n 2, 1, 0, 0, .null)) rfl (fun _ => rfl) l2 ?_
          refine r_pi (s2 := (xu q67.2 2 2 v2)) H (pc := 124) rfl (by decide) rfl rfl ?_
          refine q_li (k := 1) (i := 3) (q := (.iload_n 3, 1, 0, 0, .null)) rfl (fun _ => rfl) l3 ?_
          obtain rfl := Option.some.inj h
          exact q_ri (q := (.ireturn, 1, 0, 0, .null)) rfl (fun _ => rfl) rfl rfl
      · rw [if_neg (by rw [c]; decide)] at h
        refine q_li (k := 2) (i := 4) (q := (.iload 4, 2, 0, 0, .null)) rfl (fun _ => rfl) l4 ?_
        refine r_s (fr' := (78, lv, [.int (-1), .int v4])) (hp' := xW B q67.2) (q := (.iconst (-1), 1, 0, 0, .null)) rfl (fun _ => rfl) (Nat.le_refl _) ?_
        refine r_ifc (len := 3) (a := 110) (b := 0) (v0 := .null) (cn := .eq) (off := 32) rfl (fun c => ?_) (fun c => ?_)
        · rw [if_pos c] at h
          exact T59_2_1005_110 H X he F _ ih l0 l1 l2 l3 l4 l5 h
        · rw [if_neg (by rw [c]; decide)] at h
          refine q_li (k := 2) (i := 4) (q := (.iload 4, 2, 0, 0, .null)) rfl (fun _ => rfl) l4 ?_
          refine q_li (k := 1) (i := 2) (q := (.iload_n 2, 1, 0, 0, .null)) rfl (fun _ => rfl) l2 ?_
          refine r_ifc (len := 3) (a := 110) (b := 0) (v0 := .null) (cn := .ge) (off := 26) rfl (fun c => ?_) (fun c => ?_)
          · rw [if_pos c] at h
            exact T59_2_1005_110 H X he F _ ih l0 l1 l2 l3 l4 l5 h
          · rw [if_neg (by rw [c]; decide)] at h
            refine q_lr (k := 1) (i := 0) (q := (.aload_n 0, 1, 0, 0, .null)) rfl (fun _ => rfl) l0 ?_
            refine r_grx H X (pc := 88) rfl ?_
            refine q_li (k := 2) (i := 4) (q := (.iload 4, 2, 0, 0, .null)) rfl (fun _ => rfl) l4 ?_
            obtain ⟨c3, h⟩ := xif h
            refine q_al (n := 400) (v := (q67.2.1 1 (v4 : Int32).toNatClampNeg)) H (pc := 93) rfl (by decide) c3 rfl ?_
            refine q_lr (k := 1) (i := 1) (q := (.aload_n 1, 1, 0, 0, .null)) rfl (fun _ => rfl) l1 ?_
            refine q_li (k := 2) (i := 5) (q := (.iload 5, 2, 0, 0, .null)) rfl (fun _ => rfl) l5 ?_
            obtain ⟨q97, h97, h⟩ := xbind h
            refine r_call (ix := 1005) (as := [.int v5]) (rest := [.int (q67.2.1 1 (v4 : Int32).toNatClampNeg)]) (rv := some (.int q97.1)) (hp' := xW B q97.2) (pc := 97) rfl xr282 rfl rfl rfl rfl (Nat.le_of_ble_eq_true rfl) (Z282_1005 H X h97 (by omega)) (Nat.le_refl _) ?_
            refine r_ifc (len := 3) (a := 110) (b := 0) (v0 := .null) (cn := .ne) (off := 10) rfl (fun c => ?_) (fun c => ?_)
            · rw [if_pos c] at h
              exact T59_2_1005_110 H X he F _ ih l0 l1 l2 l3 l4 l5 h
            · rw [if_neg (by rw [c]; decide)] at h
              refine q_li (k := 2) (i := 4) (q := (.iload 4, 2, 0, 0, .null)) rfl (fun _ => rfl) l4 ?_
              refine r_s (fr' := (106, lv, [.int 1, .int v4])) (hp' := xW B q97.2) (q := (.iconst 1, 1, 0, 0, .null)) rfl (fun _ => rfl) (Nat.le_refl _) ?_
              refine r_s (fr' := (107, lv, [.int (v4 + 1)])) (hp' := xW B q97.2) (q := (.iadd, 1, 0, 0, .null)) rfl (fun _ => rfl) (Nat.le_refl _) ?_
              refine r_s (fr' := (111, lv, [.int (v4 + 1)])) (hp' := xW B q97.2) (q := (.goto 4, 3, 111, 0, .null)) rfl (fun _ => rfl) (Nat.le_refl _) ?_
              exact T59_2_1005_111 H X he F _ ih l0 l1 l2 l3 l4 l5 h
def D59_2_1005_44 (F : Nat) (v2 : Int32) (m : xS) : Option (Int32 × xS) :=
  D59_2_1005_55 F F v2 0 (m.1 2 3) 0 m
set_option maxRecDepth 20000 in
theorem T59_2_1005_44 {B : zHp} (H : yH0 B) (X : yTx B) {e : Nat} (he : 6 ≤ e + 1) (F : Nat) {v2 : Int32} {lv : List (Nat × Value)} {m : xS} {x : Int32 × xS} (l0 : zld lv 0 = some (.ref 2)) (l1 : zld lv 1 = some (.ref 1005)) (l2 : zld lv 2 = some (.int v2)) (h : D59_2_1005_44 F v2 m = some x) : zR none e 6 (some .int) zc59 (44, lv, []) (xW B m) (some (.int x.1), xW B x.2) := by
  unfold D59_2_1005_44 at h
  refine r_s (fr' := (45, lv, [.int 0])) (hp' := xW B m) (q := (.iconst 0, 1, 0, 0, .null)) rfl (fun _ => rfl) (Nat.le_refl _) ?_
  refine q_si (k := 1) (i := 3) (q := (.istore_n 3, 1, 0, 0, .null)) rfl (fun _ => rfl) (by decide) ?_
  have l0_1 : zld (zs1 lv 3 (.int 0)) 0 = some (.ref 2) := x_o1 l0 rfl rfl
  have l1_1 : zld (zs1 lv 3 (.int 0)) 1 = some (.ref 1005) := x_o1 l1 rfl rfl
  have l2_1 : zld (zs1 lv 3 (.int 0)) 2 = some (.int v2) := x_o1 l2 rfl rfl
  have l3_1 : zld (zs1 lv 3 (.int 0)) 3 = some (.int 0) := zs1_ld _ _ _
  generalize (zs1 lv 3 (.int 0)) = lv1 at *
  refine q_lr (k := 1) (i := 0) (q := (.aload_n 0, 1, 0, 0, .null)) rfl (fun _ => rfl) l0_1 ?_
  refine r_gi (v := (m.1 2 3)) H (pc := 47) (i := _) rfl (by decide) (by decide) rfl ?_
  refine q_si (k := 2) (i := 4) (q := (.istore 4, 2, 0, 0, .null)) rfl (fun _ => rfl) (by decide) ?_
  have l0_2 : zld (zs1 lv1 4 (.int (m.1 2 3))) 0 = some (.ref 2) := x_o1 l0_1 rfl rfl
  have l1_2 : zld (zs1 lv1 4 (.int (m.1 2 3))) 1 = some (.ref 1005) := x_o1 l1_1 rfl rfl
  have l2_2 : zld (zs1 lv1 4 (.int (m.1 2 3))) 2 = some (.int v2) := x_o1 l2_1 rfl rfl
  have l3_2 : zld (zs1 lv1 4 (.int (m.1 2 3))) 3 = some (.int 0) := x_o1 l3_1 rfl rfl
  have l4_2 : zld (zs1 lv1 4 (.int (m.1 2 3))) 4 = some (.int (m.1 2 3)) := zs1_ld _ _ _
  generalize (zs1 lv1 4 (.int (m.1 2 3))) = lv2 at *
  refine r_s (fr' := (53, lv2, [.int 0])) (hp' := xW B m) (q := (.iconst 0, 1, 0, 0, .null)) rfl (fun _ => rfl) (Nat.le_refl _) ?_
  refine q_si (k := 2) (i := 5) (q := (.istore 5, 2, 0, 0, .null)) rfl (fun _ => rfl) (by decide) ?_
  have l0_3 : zld (zs1 lv2 5 (.int 0)) 0 = some (.ref 2) := x_o1 l0_2 rfl rfl
  have l1_3 : zld (zs1 lv2 5 (.int 0)) 1 = some (.ref 1005) := x_o1 l1_2 rfl rfl
  have l2_3 : zld (zs1 lv2 5 (.int 0)) 2 = some (.int v2) := x_o1 l2_2 rfl rfl
  have l3_3 : zld (zs1 lv2 5 (.int 0)) 3 = some (.int 0) := x_o1 l3_2 rfl rfl
  have l4_3 : zld (zs1 lv2 5 (.int 0)) 4 = some (.int (m.1 2 3)) := x_o1 l4_2 rfl rfl
  have l5_3 : zld (zs1 lv2 5 (.int 0)) 5 = some (.int 0) := zs1_ld _ _ _
  generalize (zs1 lv2 5 (.int 0)) = lv3 at *
  exact T59_2_1005_55 H X he F F l0_3 l1_3 l2_3 l3_3 l4_3 l5_3 h
def D59_2_1005_18 (F : Nat) : Nat → Int32 → xS → Option (Int32 × xS)
  | 0, _, _ => none
  | f + 1, v2, m =>
    if zcmp .ge v2 (m.1 2 1) = true then
      D59_2_1005_44 F v2 m
    else
      if xib v2 400 = true then
        (D57 F (m.1 1 (v2 : Int32).toNatClampNeg) m).bind fun q32 =>
          if zcmp .eq q32.1 0 = true then
            D59_2_1005_44 F v2 q32.2
          else
            D59_2_1005_18 F f (v2 + Int32.ofInt 1) q32.2
      else none
set_option maxRecDepth 20000 in
theorem T59_2_1005_18 {B : zHp} (H : yH0 B) (X : yTx B) {e : Nat} (he : 6 ≤ e + 1) (F : Nat) : ∀ (f : Nat) {v2 : Int32} {lv : List (Nat × Value)} {m : xS} {x : Int32 × xS}, zld lv 0 = some (.ref 2) → zld lv 1 = some (.ref 1005) → zld lv 2 = some (.int v2) → D59_2_1005_18 F f v2 m = some x → zR none e 6 (some .int) zc59 (18, lv, []) (xW B m) (some (.int x.1), xW B x.2) := by
  intro f
  induction f with
  | zero => intro v2 lv m x l0 l1 l2 h; cases h
  | succ f ih =>
    intro v2 lv m x l0 l1 l2 h
    unfold D59_2_1005_18 at h
    refine q_li (k := 1) (i := 2) (q := (.iload_n 2, 1, 0, 0, .null)) rfl (fun _ => rfl) l2 ?_
    refine q_lr (k := 1) (i := 0) (q := (.aload_n 0, 1, 0, 0, .null)) rfl (fun _ => rfl) l0 ?_
    refine r_gi (v := (m.1 2 1)) H (pc := 20) (i := _) rfl (by decide) (by decide) rfl ?_
    refine r_ifc (len := 3) (a := 44) (b := 0) (v0 := .null) (cn := .ge) (off := 21) rfl (fun c => ?_) (fun c => ?_)
    · rw [if_pos c] at h
      exact T59_2_1005_44 H X he F l0 l1 l2 h
    · rw [if_neg (by rw [c]; decide)] at h
      refine q_lr (k := 1) (i := 0) (q := (.aload_n 0, 1, 0, 0, .null)) rfl (fun _ => rfl) l0 ?_
      refine r_grx H X (pc := 27) rfl ?_
      refine q_li (k := 1) (i := 2) (q := (.iload_n 2, 1, 0, 0, .null)) rfl (fun _ => rfl) l2 ?_
      obtain ⟨c1, h⟩ := xif h
      refine q_al (n := 400) (v := (m.1 1 (v2 : Int32).toNatClampNeg)) H (pc := 31) rfl (by decide) c1 rfl ?_
      obtain ⟨q32, h32, h⟩ := xbind h
      refine r_callS (as := [.int (m.1 1 (v2 : Int32).toNatClampNeg)]) (rest := []) (rv := some (.int q32.1)) (hp' := xW B q32.2) (pc := 32) rfl xr57 rfl rfl rfl (Nat.le_of_ble_eq_true rfl) (Z57 H X h32 (by omega)) (Nat.le_refl _) ?_
      refine r_if (len := 3) (a := 44) (b := 0) (v0 := .null) (cn := .eq) (off := 9) rfl (fun c => ?_) (fun c => ?_)
      · rw [if_pos c] at h
        exact T59_2_1005_44 H X he F l0 l1 l2 h
      · rw [if_neg (by rw [c]; decide)] at h
        refine q_inc (i := 2) (n := 1) (q := (.iinc 2 1, 3, 0, 0, .null)) rfl (fun _ => rfl) l2 (by decide) ?_
        have l0_2 : zld (zs1 lv 2 (.int (v2 + Int32.ofInt 1))) 0 = some (.ref 2) := x_o1 l0 rfl rfl
        have l1_2 : zld (zs1 lv 2 (.int (v2 + Int32.ofInt 1))) 1 = some (.ref 1005) := x_o1 l1 rfl rfl
        have l2_2 : zld (zs1 lv 2 (.int (v2 + Int32.ofInt 1))) 2 = some (.int (v2 + Int32.ofInt 1)) := zs1_ld _ _ _
        generalize (zs1 lv 2 (.int (v2 + Int32.ofInt 1))) = lv2 at *
        refine r_s (fr' := (18, lv2, [])) (hp' := xW B q32.2) (q := (.goto (-23), 3, 18, 0, .null)) rfl (fun _ => rfl) (Nat.le_refl _) ?_
        exact ih l0_2 l1_2 l2_2 h
def D59_2_1005 (F : Nat) (m : xS) : Option (Int32 × xS) :=
  (D53_2 F m).bind fun q1 =>
    D59_2_1005_18 F F (q1.2.1 2 2) (xu q1.2 2 3 (q1.2.1 2 2))
set_option maxRecDepth 20000 in
theorem T59_2_1005 {B : zHp} (H : yH0 B) (X : yTx B) {e : Nat} (he : 6 ≤ e + 1) (F : Nat) {lv : List (Nat × Value)} {m : xS} {x : Int32 × xS} (l0 : zld lv 0 = some (.ref 2)) (l1 : zld lv 1 = some (.ref 1005)) (h : D59_2_1005 F m = some x) : zR none e 6 (some .int) zc59 (0, lv, []) (xW B m) (some (.int x.1), xW B x.2) := by
  unfold D59_2_1005 at h
  refine q_lr (k := 1) (i := 0) (q := (.aload_n 0, 1, 0, 0, .null)) rfl (fun _ => rfl) l0 ?_
  obtain ⟨q1, h1, h⟩ := xbind h
  refine r_call (ix := 2) (as := []) (rest := []) (rv := some (.int q1.1)) (hp' := xW B q1.2) (pc := 1) rfl xr53 rfl rfl rfl (xkd H (by decide)) (Nat.le_of_ble_eq_true rfl) (Z53_2 H X h1 (by omega)) (Nat.le_refl _) ?_
  refine r_s (fr' := (5, lv, [])) (hp' := xW B q1.2) (q := (.pop, 1, 0, 0, .null)) rfl (fun _ => rfl) (Nat.le_refl _) ?_
  refine q_lr (k := 1) (i := 0) (q := (.aload_n 0, 1, 0, 0, .null)) rfl (fun _ => rfl) l0 ?_
  refine q_lr (k := 1) (i := 0) (q := (.aload_n 0, 1, 0, 0, .null)) rfl (fun _ => rfl) l0 ?_
  refine r_gi (v := (q1.2.1 2 2)) H (pc := 7) (i := _) rfl (by decide) (by decide) rfl ?_
  refine r_pi (s2 := (xu q1.2 2 3 (q1.2.1 2 2))) H (pc := 10) rfl (by decide) rfl rfl ?_
  refine q_lr (k := 1) (i := 0) (q := (.aload_n 0, 1, 0, 0, .null)) rfl (fun _ => rfl) l0 ?_
  refine r_gi (v := (q1.2.1 2 2)) H (pc := 14) (i := _) rfl (by decide) (by decide) rfl ?_
  refine q_si (k := 1) (i := 2) (q := (.istore_n 2, 1, 0, 0, .null)) rfl (fun _ => rfl) (by decide) ?_
  have l0_1 : zld (zs1 lv 2 (.int (q1.2.1 2 2))) 0 = some (.ref 2) := x_o1 l0 rfl rfl
  have l1_1 : zld (zs1 lv 2 (.int (q1.2.1 2 2))) 1 = some (.ref 1005) := x_o1 l1 rfl rfl
  have l2_1 : zld (zs1 lv 2 (.int (q1.2.1 2 2))) 2 = some (.int (q1.2.1 2 2)) := zs1_ld _ _ _
  generalize (zs1 lv 2 (.int (q1.2.1 2 2))) = lv1 at *
  exact T59_2_1005_18 H X he F F l0_1 l1_1 l2_1 h
set_option maxRecDepth 20000 in
theorem Z59_2_1005 {B : zHp} (H : yH0 B) (X : yTx B) {F : Nat} {m : xS} {x : Int32 × xS} (h : D59_2_1005 F m = some x) {d : Nat} (hd : 6 ≤ d) : zCan d 59 [.ref 2, .ref 1005] (xW B m) (some (.int x.1), xW B x.2) := by
  obtain ⟨e, rfl⟩ : ∃ e, d = e + 1 := ⟨d - 1, by omega⟩
  refine zCan_body (nL := 6) (rt := (some .int)) (cd := zc59) (xg59) ⟨Nat.le_of_ble_eq_true rfl, by decide⟩ (Nat.le_refl _) ?_
  exact T59_2_1005 H X hd F rfl rfl h
/-- LentTools$Text.isSound -/
def D51_2 (F : Nat) (m : xS) : Option (Int32 × xS) :=
  if zcmp .ne (m.1 2 4) 0 = true then
    some (0, m)
  else
    some (1, m)
set_option maxRecDepth 20000 in
theorem T51_2 {B : zHp} (H : yH0 B) (X : yTx B) {e : Nat} (he : 1 ≤ e + 1) (F : Nat) {lv : List (Nat × Value)} {m : xS} {x : Int32 × xS} (l0 : zld lv 0 = some (.ref 2)) (h : D51_2 F m = some x) : zR none e 1 (some .boolean) zc51 (0, lv, []) (xW B m) (some (.int x.1), xW B x.2) := by
  unfold D51_2 at h
  refine q_lr (k := 1) (i := 0) (q := (.aload_n 0, 1, 0, 0, .null)) rfl (fun _ => rfl) l0 ?_
  refine r_gi (v := (m.1 2 4)) H (pc := 1) (i := _) rfl (by decide) (by decide) rfl ?_
  refine r_if (len := 3) (a := 11) (b := 0) (v0 := .null) (cn := .ne) (off := 7) rfl (fun c => ?_) (fun c => ?_)
  · rw [if_pos c] at h
    refine r_s (fr' := (12, lv, [.int 0])) (hp' := xW B m) (q := (.iconst 0, 1, 0, 0, .null)) rfl (fun _ => rfl) (Nat.le_refl _) ?_
    obtain rfl := Option.some.inj h
    exact q_ri (q := (.ireturn, 1, 0, 0, .null)) rfl (fun _ => rfl) rfl rfl
  · rw [if_neg (by rw [c]; decide)] at h
    refine r_s (fr' := (8, lv, [.int 1])) (hp' := xW B m) (q := (.iconst 1, 1, 0, 0, .null)) rfl (fun _ => rfl) (Nat.le_refl _) ?_
    refine r_s (fr' := (12, lv, [.int 1])) (hp' := xW B m) (q := (.goto 4, 3, 12, 0, .null)) rfl (fun _ => rfl) (Nat.le_refl _) ?_
    obtain rfl := Option.some.inj h
    exact q_ri (q := (.ireturn, 1, 0, 0, .null)) rfl (fun _ => rfl) rfl rfl
set_option maxRecDepth 20000 in
theorem Z51_2 {B : zHp} (H : yH0 B) (X : yTx B) {F : Nat} {m : xS} {x : Int32 × xS} (h : D51_2 F m = some x) {d : Nat} (hd : 1 ≤ d) : zCan d 51 [.ref 2] (xW B m) (some (.int x.1), xW B x.2) := by
  obtain ⟨e, rfl⟩ : ∃ e, d = e + 1 := ⟨d - 1, by omega⟩
  refine zCan_body (nL := 1) (rt := (some .boolean)) (cd := zc51) (xg51) ⟨Nat.le_of_ble_eq_true rfl, by decide⟩ (Nat.le_refl _) ?_
  exact T51_2 H X hd F rfl h
/-- LentTools$Text.goesOn -/
def D61_2_40 (F : Nat) (v1 : Int32) (m : xS) : Option (Int32 × xS) :=
  some (0, m)
set_option maxRecDepth 20000 in
theorem T61_2_40 {B : zHp} (H : yH0 B) (X : yTx B) {e : Nat} (he : 2 ≤ e + 1) (F : Nat) {v1 : Int32} {lv : List (Nat × Value)} {m : xS} {x : Int32 × xS} (l0 : zld lv 0 = some (.ref 2)) (l1 : zld lv 1 = some (.int v1)) (h : D61_2_40 F v1 m = some x) : zR none e 2 (some .boolean) zc61 (40, lv, []) (xW B m) (some (.int x.1), xW B x.2) := by
  unfold D61_2_40 at h
  refine r_s (fr' := (41, lv, [.int 0])) (hp' := xW B m) (q := (.iconst 0, 1, 0, 0, .null)) rfl (fun _ => rfl) (Nat.le_refl _) ?_
  obtain rfl := Option.some.inj h
  exact q_ri (q := (.ireturn, 1, 0, 0, .null)) rfl (fun _ => rfl) rfl rfl
def D61_2 (F : Nat) (m : xS) : Option (Int32 × xS) :=
  (D51_2 F m).bind fun q1 =>
    if zcmp .ne q1.1 0 = true then
      (D53_2 F q1.2).bind fun q10 =>
        if zcmp .ne q10.1 59 = true then
          if zcmp .eq q10.1 (-1) = true then
            D61_2_40 F q10.1 q10.2
          else
            (D52_2 F (q10.2.1 2 2) 0 q10.2).bind fun q37 =>
              D61_2_40 F q10.1 q37.2
        else
          (D54_2 F q10.2).bind fun q21 =>
            some (1, q21.2)
    else
      some (0, q1.2)
set_option maxRecDepth 20000 in
theorem T61_2 {B : zHp} (H : yH0 B) (X : yTx B) {e : Nat} (he : 2 ≤ e + 1) (F : Nat) {lv : List (Nat × Value)} {m : xS} {x : Int32 × xS} (l0 : zld lv 0 = some (.ref 2)) (h : D61_2 F m = some x) : zR none e 2 (some .boolean) zc61 (0, lv, []) (xW B m) (some (.int x.1), xW B x.2) := by
  unfold D61_2 at h
  refine q_lr (k := 1) (i := 0) (q := (.aload_n 0, 1, 0, 0, .null)) rfl (fun _ => rfl) l0 ?_
  obtain ⟨q1, h1, h⟩ := xbind h
  refine r_call (ix := 2) (as := []) (rest := []) (rv := some (.int q1.1)) (hp' := xW B q1.2) (pc := 1) rfl xr51 rfl rfl rfl (xkd H (by decide)) (Nat.le_of_ble_eq_true rfl) (Z51_2 H X h1 (by omega)) (Nat.le_refl _) ?_
  refine r_if (len := 3) (a := 9) (b := 0) (v0 := .null) (cn := .ne) (off := 5) rfl (fun c => ?_) (fun c => ?_)
  · rw [if_pos c] at h
    refine q_lr (k := 1) (i := 0) (q := (.aload_n 0, 1, 0, 0, .null)) rfl (fun _ => rfl) l0 ?_
    obtain ⟨q10, h10, h⟩ := xbind h
    refine r_call (ix := 2) (as := []) (rest := []) (rv := some (.int q10.1)) (hp' := xW B q10.2) (pc := 10) rfl xr53 rfl rfl rfl (xkd H (by decide)) (Nat.le_of_ble_eq_true rfl) (Z53_2 H X h10 (by omega)) (Nat.le_refl _) ?_
    refine q_si (k := 1) (i := 1) (q := (.istore_n 1, 1, 0, 0, .null)) rfl (fun _ => rfl) (by decide) ?_
    have l0_1 : zld (zs1 lv 1 (.int q10.1)) 0 = some (.ref 2) := x_o1 l0 rfl rfl
    have l1_1 : zld (zs1 lv 1 (.int q10.1)) 1 = some (.int q10.1) := zs1_ld _ _ _
    generalize (zs1 lv 1 (.int q10.1)) = lv1 at *
    refine q_li (k := 1) (i := 1) (q := (.iload_n 1, 1, 0, 0, .null)) rfl (fun _ => rfl) l1_1 ?_
    refine r_s (fr' := (17, lv1, [.int 59, .int q10.1])) (hp' := xW B q10.2) (q := (.bipush 59, 2, 0, 0, .null)) rfl (fun _ => rfl) (Nat.le_refl _) ?_
    refine r_ifc (len := 3) (a := 26) (b := 0) (v0 := .null) (cn := .ne) (off := 9) rfl (fun c => ?_) (fun c => ?_)
    · rw [if_pos c] at h
      refine q_li (k := 1) (i := 1) (q := (.iload_n 1, 1, 0, 0, .null)) rfl (fun _ => rfl) l1_1 ?_
      refine r_s (fr' := (28, lv1, [.int (-1), .int q10.1])) (hp' := xW B q10.2) (q := (.iconst (-1), 1, 0, 0, .null)) rfl (fun _ => rfl) (Nat.le_refl _) ?_
      refine r_ifc (len := 3) (a := 40) (b := 0) (v0 := .null) (cn := .eq) (off := 12) rfl (fun c => ?_) (fun c => ?_)
      · rw [if_pos c] at h
        exact T61_2_40 H X he F l0_1 l1_1 h
      · rw [if_neg (by rw [c]; decide)] at h
        refine q_lr (k := 1) (i := 0) (q := (.aload_n 0, 1, 0, 0, .null)) rfl (fun _ => rfl) l0_1 ?_
        refine q_lr (k := 1) (i := 0) (q := (.aload_n 0, 1, 0, 0, .null)) rfl (fun _ => rfl) l0_1 ?_
        refine r_gi (v := (q10.2.1 2 2)) H (pc := 33) (i := _) rfl (by decide) (by decide) rfl ?_
        refine r_s (fr' := (37, lv1, [.int 0, .int (q10.2.1 2 2), .ref 2])) (hp' := xW B q10.2) (q := (.iconst 0, 1, 0, 0, .null)) rfl (fun _ => rfl) (Nat.le_refl _) ?_
        obtain ⟨q37, h37, h⟩ := xbind h
        refine r_call (ix := 2) (as := [.int (q10.2.1 2 2), .int 0]) (rest := []) (rv := none) (hp' := xW B q37.2) (pc := 37) rfl xr52 rfl rfl rfl (xkd H (by decide)) (Nat.le_of_ble_eq_true rfl) (Z52_2 H X h37 (by omega)) (Nat.le_refl _) ?_
        exact T61_2_40 H X he F l0_1 l1_1 h
    · rw [if_neg (by rw [c]; decide)] at h
      refine q_lr (k := 1) (i := 0) (q := (.aload_n 0, 1, 0, 0, .null)) rfl (fun _ => rfl) l0_1 ?_
      obtain ⟨q21, h21, h⟩ := xbind h
      refine r_call (ix := 2) (as := []) (rest := []) (rv := none) (hp' := xW B q21.2) (pc := 21) rfl xr54 rfl rfl rfl (xkd H (by decide)) (Nat.le_of_ble_eq_true rfl) (Z54_2 H X h21 (by omega)) (Nat.le_refl _) ?_
      refine r_s (fr' := (25, lv1, [.int 1])) (hp' := xW B q21.2) (q := (.iconst 1, 1, 0, 0, .null)) rfl (fun _ => rfl) (Nat.le_refl _) ?_
      obtain rfl := Option.some.inj h
      exact q_ri (q := (.ireturn, 1, 0, 0, .null)) rfl (fun _ => rfl) rfl rfl
  · rw [if_neg (by rw [c]; decide)] at h
    refine r_s (fr' := (8, lv, [.int 0])) (hp' := xW B q1.2) (q := (.iconst 0, 1, 0, 0, .null)) rfl (fun _ => rfl) (Nat.le_refl _) ?_
    obtain rfl := Option.some.inj h
    exact q_ri (q := (.ireturn, 1, 0, 0, .null)) rfl (fun _ => rfl) rfl rfl
set_option maxRecDepth 20000 in
theorem Z61_2 {B : zHp} (H : yH0 B) (X : yTx B) {F : Nat} {m : xS} {x : Int32 × xS} (h : D61_2 F m = some x) {d : Nat} (hd : 2 ≤ d) : zCan d 61 [.ref 2] (xW B m) (some (.int x.1), xW B x.2) := by
  obtain ⟨e, rfl⟩ : ∃ e, d = e + 1 := ⟨d - 1, by omega⟩
  refine zCan_body (nL := 2) (rt := (some .boolean)) (cd := zc61) (xg61) ⟨Nat.le_of_ble_eq_true rfl, by decide⟩ (Nat.le_refl _) ?_
  exact T61_2 H X hd F rfl h
/-- LentTools$RuleReader.endClause -/
def D44_6_2_23 (F : Nat) (v2 : Int32) (w0 : Int32) (m : xS) : Option (Unit × xS) :=
  some ((), (xu m 6 8 w0))
set_option maxRecDepth 20000 in
theorem T44_6_2_23 {B : zHp} (H : yH0 B) (X : yTx B) {e : Nat} (he : 3 ≤ e + 1) (F : Nat) {v2 : Int32} {w0 : Int32} {lv : List (Nat × Value)} {m : xS} {x : Unit × xS} (l0 : zld lv 0 = some (.ref 6)) (l1 : zld lv 1 = some (.ref 2)) (l2 : zld lv 2 = some (.int v2)) (h : D44_6_2_23 F v2 w0 m = some x) : zR none e 3 none zc44 (23, lv, [.int w0, .ref 6]) (xW B m) (none, xW B x.2) := by
  unfold D44_6_2_23 at h
  refine r_pi (s2 := (xu m 6 8 w0)) H (pc := 23) rfl (by decide) rfl rfl ?_
  obtain rfl := Option.some.inj h
  exact r_ret (q := (.return_, 1, 0, 0, .null)) rfl rfl (fun _ => rfl)
def D44_6_2 (F : Nat) (v2 : Int32) (m : xS) : Option (Unit × xS) :=
  (D46_6 F 1 m).bind fun q2 =>
    (D48_6 F v2 q2.2).bind fun q7 =>
      (D61_2 F q7.2).bind fun q12 =>
        if zcmp .eq q12.1 0 = true then
          D44_6_2_23 F v2 4 q12.2
        else
          D44_6_2_23 F v2 0 q12.2
set_option maxRecDepth 20000 in
theorem T44_6_2 {B : zHp} (H : yH0 B) (X : yTx B) {e : Nat} (he : 3 ≤ e + 1) (F : Nat) {v2 : Int32} {lv : List (Nat × Value)} {m : xS} {x : Unit × xS} (l0 : zld lv 0 = some (.ref 6)) (l1 : zld lv 1 = some (.ref 2)) (l2 : zld lv 2 = some (.int v2)) (h : D44_6_2 F v2 m = some x) : zR none e 3 none zc44 (0, lv, []) (xW B m) (none, xW B x.2) := by
  unfold D44_6_2 at h
  refine q_lr (k := 1) (i := 0) (q := (.aload_n 0, 1, 0, 0, .null)) rfl (fun _ => rfl) l0 ?_
  refine r_s (fr' := (2, lv, [.int 1, .ref 6])) (hp' := xW B m) (q := (.iconst 1, 1, 0, 0, .null)) rfl (fun _ => rfl) (Nat.le_refl _) ?_
  obtain ⟨q2, h2, h⟩ := xbind h
  refine r_call (ix := 6) (as := [.int 1]) (rest := []) (rv := none) (hp' := xW B q2.2) (pc := 2) rfl xr46 rfl rfl rfl (xkd H (by decide)) (Nat.le_of_ble_eq_true rfl) (Z46_6 H X h2 (by omega)) (Nat.le_refl _) ?_
  refine q_lr (k := 1) (i := 0) (q := (.aload_n 0, 1, 0, 0, .null)) rfl (fun _ => rfl) l0 ?_
  refine q_li (k := 1) (i := 2) (q := (.iload_n 2, 1, 0, 0, .null)) rfl (fun _ => rfl) l2 ?_
  obtain ⟨q7, h7, h⟩ := xbind h
  refine r_call (ix := 6) (as := [.int v2]) (rest := []) (rv := none) (hp' := xW B q7.2) (pc := 7) rfl xr48 rfl rfl rfl (xkd H (by decide)) (Nat.le_of_ble_eq_true rfl) (Z48_6 H X h7 (by omega)) (Nat.le_refl _) ?_
  refine q_lr (k := 1) (i := 0) (q := (.aload_n 0, 1, 0, 0, .null)) rfl (fun _ => rfl) l0 ?_
  refine q_lr (k := 1) (i := 1) (q := (.aload_n 1, 1, 0, 0, .null)) rfl (fun _ => rfl) l1 ?_
  obtain ⟨q12, h12, h⟩ := xbind h
  refine r_call (ix := 2) (as := []) (rest := [.ref 6]) (rv := some (.int q12.1)) (hp' := xW B q12.2) (pc := 12) rfl xr61 rfl rfl rfl (xkd H (by decide)) (Nat.le_of_ble_eq_true rfl) (Z61_2 H X h12 (by omega)) (Nat.le_refl _) ?_
  refine r_if (len := 3) (a := 22) (b := 0) (v0 := .null) (cn := .eq) (off := 7) rfl (fun c => ?_) (fun c => ?_)
  · rw [if_pos c] at h
    refine r_s (fr' := (23, lv, [.int 4, .ref 6])) (hp' := xW B q12.2) (q := (.iconst 4, 1, 0, 0, .null)) rfl (fun _ => rfl) (Nat.le_refl _) ?_
    exact T44_6_2_23 H X he F l0 l1 l2 h
  · rw [if_neg (by rw [c]; decide)] at h
    refine r_s (fr' := (19, lv, [.int 0, .ref 6])) (hp' := xW B q12.2) (q := (.iconst 0, 1, 0, 0, .null)) rfl (fun _ => rfl) (Nat.le_refl _) ?_
    refine r_s (fr' := (23, lv, [.int 0, .ref 6])) (hp' := xW B q12.2) (q := (.goto 4, 3, 23, 0, .null)) rfl (fun _ => rfl) (Nat.le_refl _) ?_
    exact T44_6_2_23 H X he F l0 l1 l2 h
set_option maxRecDepth 20000 in
theorem Z44_6_2 {B : zHp} (H : yH0 B) (X : yTx B) {F : Nat} {a2 : Int32} {m : xS} {x : Unit × xS} (h : D44_6_2 F a2 m = some x) {d : Nat} (hd : 3 ≤ d) : zCan d 44 [.ref 6, .ref 2, .int a2] (xW B m) (none, xW B x.2) := by
  obtain ⟨e, rfl⟩ : ∃ e, d = e + 1 := ⟨d - 1, by omega⟩
  refine zCan_body (nL := 3) (rt := none) (cd := zc44) (xg44) ⟨Nat.le_of_ble_eq_true rfl, by decide⟩ (Nat.le_refl _) ?_
  exact T44_6_2 H X hd F rfl rfl rfl h
/-- LentTools$RuleReader.endAnswer -/
def D40_6_2 (F : Nat) (m : xS) : Option (Unit × xS) :=
  (D59_2_1005 F m).bind fun q3 =>
    if zcmp .eq q3.1 (-1) = true then
      (D44_6_2 F 14 q3.2).bind fun q27 =>
        some ((), q27.2)
    else
      (D46_6 F 1 q3.2).bind fun q12 =>
        some ((), (xu q12.2 6 8 1))
set_option maxRecDepth 20000 in
theorem T40_6_2 {B : zHp} (H : yH0 B) (X : yTx B) {e : Nat} (he : 7 ≤ e + 1) (F : Nat) {lv : List (Nat × Value)} {m : xS} {x : Unit × xS} (l0 : zld lv 0 = some (.ref 6)) (l1 : zld lv 1 = some (.ref 2)) (h : D40_6_2 F m = some x) : zR none e 2 none zc40 (0, lv, []) (xW B m) (none, xW B x.2) := by
  unfold D40_6_2 at h
  refine q_lr (k := 1) (i := 1) (q := (.aload_n 1, 1, 0, 0, .null)) rfl (fun _ => rfl) l1 ?_
  refine r_s (fr' := (3, lv, [.ref 1005, .ref 2])) (hp' := xW B m) (q := (.ldc 139, 2, 5, 0, .ref 1005)) rfl (fun _ => rfl) (Nat.le_refl _) ?_
  obtain ⟨q3, h3, h⟩ := xbind h
  refine r_call (ix := 2) (as := [.ref 1005]) (rest := []) (rv := some (.int q3.1)) (hp' := xW B q3.2) (pc := 3) rfl xr59 rfl rfl rfl (xkd H (by decide)) (Nat.le_of_ble_eq_true rfl) (Z59_2_1005 H X h3 (by omega)) (Nat.le_refl _) ?_
  refine r_s (fr' := (7, lv, [.int (-1), .int q3.1])) (hp' := xW B q3.2) (q := (.iconst (-1), 1, 0, 0, .null)) rfl (fun _ => rfl) (Nat.le_refl _) ?_
  refine r_ifc (len := 3) (a := 23) (b := 0) (v0 := .null) (cn := .eq) (off := 16) rfl (fun c => ?_) (fun c => ?_)
  · rw [if_pos c] at h
    refine q_lr (k := 1) (i := 0) (q := (.aload_n 0, 1, 0, 0, .null)) rfl (fun _ => rfl) l0 ?_
    refine q_lr (k := 1) (i := 1) (q := (.aload_n 1, 1, 0, 0, .null)) rfl (fun _ => rfl) l1 ?_
    refine r_s (fr' := (27, lv, [.int 14, .ref 2, .ref 6])) (hp' := xW B q3.2) (q := (.bipush 14, 2, 0, 0, .null)) rfl (fun _ => rfl) (Nat.le_refl _) ?_
    obtain ⟨q27, h27, h⟩ := xbind h
    refine r_call (ix := 6) (as := [.ref 2, .int 14]) (rest := []) (rv := none) (hp' := xW B q27.2) (pc := 27) rfl xr44 rfl rfl rfl (xkd H (by decide)) (Nat.le_of_ble_eq_true rfl) (Z44_6_2 H X h27 (by omega)) (Nat.le_refl _) ?_
    obtain rfl := Option.some.inj h
    exact r_ret (q := (.return_, 1, 0, 0, .null)) rfl rfl (fun _ => rfl)
  · rw [if_neg (by rw [c]; decide)] at h
    refine q_lr (k := 1) (i := 0) (q := (.aload_n 0, 1, 0, 0, .null)) rfl (fun _ => rfl) l0 ?_
    refine r_s (fr' := (12, lv, [.int 1, .ref 6])) (hp' := xW B q3.2) (q := (.iconst 1, 1, 0, 0, .null)) rfl (fun _ => rfl) (Nat.le_refl _) ?_
    obtain ⟨q12, h12, h⟩ := xbind h
    refine r_call (ix := 6) (as := [.int 1]) (rest := []) (rv := none) (hp' := xW B q12.2) (pc := 12) rfl xr46 rfl rfl rfl (xkd H (by decide)) (Nat.le_of_ble_eq_true rfl) (Z46_6 H X h12 (by omega)) (Nat.le_refl _) ?_
    refine q_lr (k := 1) (i := 0) (q := (.aload_n 0, 1, 0, 0, .null)) rfl (fun _ => rfl) l0 ?_
    refine r_s (fr' := (17, lv, [.int 1, .ref 6])) (hp' := xW B q12.2) (q := (.iconst 1, 1, 0, 0, .null)) rfl (fun _ => rfl) (Nat.le_refl _) ?_
    refine r_pi (s2 := (xu q12.2 6 8 1)) H (pc := 17) rfl (by decide) rfl rfl ?_
    refine r_s (fr' := (30, lv, [])) (hp' := xW B (xu q12.2 6 8 1)) (q := (.goto 10, 3, 30, 0, .null)) rfl (fun _ => rfl) (Nat.le_refl _) ?_
    obtain rfl := Option.some.inj h
    exact r_ret (q := (.return_, 1, 0, 0, .null)) rfl rfl (fun _ => rfl)
set_option maxRecDepth 20000 in
theorem Z40_6_2 {B : zHp} (H : yH0 B) (X : yTx B) {F : Nat} {m : xS} {x : Unit × xS} (h : D40_6_2 F m = some x) {d : Nat} (hd : 7 ≤ d) : zCan d 40 [.ref 6, .ref 2] (xW B m) (none, xW B x.2) := by
  obtain ⟨e, rfl⟩ : ∃ e, d = e + 1 := ⟨d - 1, by omega⟩
  refine zCan_body (nL := 2) (rt := none) (cd := zc40) (xg40) ⟨Nat.le_of_ble_eq_true rfl, by decide⟩ (Nat.le_refl _) ?_
  exact T40_6_2 H X hd F rfl rfl h
/-- LentTools$Text.passHere -/
def D55_2_24 (F : Nat) (v1 : Int32) (m : xS) : Option (Int32 × xS) :=
  some (0, m)
set_option maxRecDepth 20000 in
theorem T55_2_24 {B : zHp} (H : yH0 B) (X : yTx B) {e : Nat} (he : 1 ≤ e + 1) (F : Nat) {v1 : Int32} {lv : List (Nat × Value)} {m : xS} {x : Int32 × xS} (l0 : zld lv 0 = some (.ref 2)) (l1 : zld lv 1 = some (.int v1)) (h : D55_2_24 F v1 m = some x) : zR none e 2 (some .boolean) zc55 (24, lv, []) (xW B m) (some (.int x.1), xW B x.2) := by
  unfold D55_2_24 at h
  refine r_s (fr' := (25, lv, [.int 0])) (hp' := xW B m) (q := (.iconst 0, 1, 0, 0, .null)) rfl (fun _ => rfl) (Nat.le_refl _) ?_
  obtain rfl := Option.some.inj h
  exact q_ri (q := (.ireturn, 1, 0, 0, .null)) rfl (fun _ => rfl) rfl rfl
def D55_2 (F : Nat) (v1 : Int32) (m : xS) : Option (Int32 × xS) :=
  if zcmp .ge (m.1 2 2) (m.1 2 1) = true then
    D55_2_24 F v1 m
  else
    if xib (m.1 2 2) 400 = true then
      if zcmp .eq (m.1 1 ((m.1 2 2) : Int32).toNatClampNeg) v1 = true then
        some (1, (xu m 2 2 ((m.1 2 2) + 1)))
      else
        D55_2_24 F v1 m
    else none
set_option maxRecDepth 20000 in
theorem T55_2 {B : zHp} (H : yH0 B) (X : yTx B) {e : Nat} (he : 1 ≤ e + 1) (F : Nat) {v1 : Int32} {lv : List (Nat × Value)} {m : xS} {x : Int32 × xS} (l0 : zld lv 0 = some (.ref 2)) (l1 : zld lv 1 = some (.int v1)) (h : D55_2 F v1 m = some x) : zR none e 2 (some .boolean) zc55 (0, lv, []) (xW B m) (some (.int x.1), xW B x.2) := by
  unfold D55_2 at h
  refine q_lr (k := 1) (i := 0) (q := (.aload_n 0, 1, 0, 0, .null)) rfl (fun _ => rfl) l0 ?_
  refine r_gi (v := (m.1 2 2)) H (pc := 1) (i := _) rfl (by decide) (by decide) rfl ?_
  refine q_lr (k := 1) (i := 0) (q := (.aload_n 0, 1, 0, 0, .null)) rfl (fun _ => rfl) l0 ?_
  refine r_gi (v := (m.1 2 1)) H (pc := 5) (i := _) rfl (by decide) (by decide) rfl ?_
  refine r_ifc (len := 3) (a := 24) (b := 0) (v0 := .null) (cn := .ge) (off := 16) rfl (fun c => ?_) (fun c => ?_)
  · rw [if_pos c] at h
    exact T55_2_24 H X he F l0 l1 h
  · rw [if_neg (by rw [c]; decide)] at h
    refine q_lr (k := 1) (i := 0) (q := (.aload_n 0, 1, 0, 0, .null)) rfl (fun _ => rfl) l0 ?_
    refine r_grx H X (pc := 12) rfl ?_
    refine q_lr (k := 1) (i := 0) (q := (.aload_n 0, 1, 0, 0, .null)) rfl (fun _ => rfl) l0 ?_
    refine r_gi (v := (m.1 2 2)) H (pc := 16) (i := _) rfl (by decide) (by decide) rfl ?_
    obtain ⟨c1, h⟩ := xif h
    refine q_al (n := 400) (v := (m.1 1 ((m.1 2 2) : Int32).toNatClampNeg)) H (pc := 19) rfl (by decide) c1 rfl ?_
    refine q_li (k := 1) (i := 1) (q := (.iload_n 1, 1, 0, 0, .null)) rfl (fun _ => rfl) l1 ?_
    refine r_ifc (len := 3) (a := 26) (b := 0) (v0 := .null) (cn := .eq) (off := 5) rfl (fun c => ?_) (fun c => ?_)
    · rw [if_pos c] at h
      refine q_lr (k := 1) (i := 0) (q := (.aload_n 0, 1, 0, 0, .null)) rfl (fun _ => rfl) l0 ?_
      refine r_s (fr' := (28, lv, [.ref 2, .ref 2])) (hp' := xW B m) (q := (.dup, 1, 0, 0, .null)) rfl (fun _ => rfl) (Nat.le_refl _) ?_
      refine r_gi (v := (m.1 2 2)) H (pc := 28) (i := _) rfl (by decide) (by decide) rfl ?_
      refine r_s (fr' := (32, lv, [.int 1, .int (m.1 2 2), .ref 2])) (hp' := xW B m) (q := (.iconst 1, 1, 0, 0, .null)) rfl (fun _ => rfl) (Nat.le_refl _) ?_
      refine r_s (fr' := (33, lv, [.int ((m.1 2 2) + 1), .ref 2])) (hp' := xW B m) (q := (.iadd, 1, 0, 0, .null)) rfl (fun _ => rfl) (Nat.le_refl _) ?_
      refine r_pi (s2 := (xu m 2 2 ((m.1 2 2) + 1))) H (pc := 33) rfl (by decide) rfl rfl ?_
      refine r_s (fr' := (37, lv, [.int 1])) (hp' := xW B (xu m 2 2 ((m.1 2 2) + 1))) (q := (.iconst 1, 1, 0, 0, .null)) rfl (fun _ => rfl) (Nat.le_refl _) ?_
      obtain rfl := Option.some.inj h
      exact q_ri (q := (.ireturn, 1, 0, 0, .null)) rfl (fun _ => rfl) rfl rfl
    · rw [if_neg (by rw [c]; decide)] at h
      exact T55_2_24 H X he F l0 l1 h
set_option maxRecDepth 20000 in
theorem Z55_2 {B : zHp} (H : yH0 B) (X : yTx B) {F : Nat} {a1 : Int32} {m : xS} {x : Int32 × xS} (h : D55_2 F a1 m = some x) {d : Nat} (hd : 1 ≤ d) : zCan d 55 [.ref 2, .int a1] (xW B m) (some (.int x.1), xW B x.2) := by
  obtain ⟨e, rfl⟩ : ∃ e, d = e + 1 := ⟨d - 1, by omega⟩
  refine zCan_body (nL := 2) (rt := (some .boolean)) (cd := zc55) (xg55) ⟨Nat.le_of_ble_eq_true rfl, by decide⟩ (Nat.le_refl _) ?_
  exact T55_2 H X hd F rfl rfl h
/-- LentTools$RuleReader.readSign -/
def D41_6_2_104 (F : Nat) (v2 : Int32) (v3 : Int32) (m : xS) : Option (Unit × xS) :=
  some ((), (xu (xu m 6 9 2) 6 8 2))
set_option maxRecDepth 20000 in
theorem T41_6_2_104 {B : zHp} (H : yH0 B) (X : yTx B) {e : Nat} (he : 4 ≤ e + 1) (F : Nat) {v2 : Int32} {v3 : Int32} {lv : List (Nat × Value)} {m : xS} {x : Unit × xS} (l0 : zld lv 0 = some (.ref 6)) (l1 : zld lv 1 = some (.ref 2)) (l2 : zld lv 2 = some (.int v2)) (l3 : zld lv 3 = some (.int v3)) (h : D41_6_2_104 F v2 v3 m = some x) : zR none e 4 none zc41 (104, lv, []) (xW B m) (none, xW B x.2) := by
  unfold D41_6_2_104 at h
  refine q_lr (k := 1) (i := 0) (q := (.aload_n 0, 1, 0, 0, .null)) rfl (fun _ => rfl) l0 ?_
  refine r_s (fr' := (106, lv, [.int 2, .ref 6])) (hp' := xW B m) (q := (.iconst 2, 1, 0, 0, .null)) rfl (fun _ => rfl) (Nat.le_refl _) ?_
  refine r_pi (s2 := (xu m 6 9 2)) H (pc := 106) rfl (by decide) rfl rfl ?_
  refine q_lr (k := 1) (i := 0) (q := (.aload_n 0, 1, 0, 0, .null)) rfl (fun _ => rfl) l0 ?_
  refine r_s (fr' := (111, lv, [.int 2, .ref 6])) (hp' := xW B (xu m 6 9 2)) (q := (.iconst 2, 1, 0, 0, .null)) rfl (fun _ => rfl) (Nat.le_refl _) ?_
  refine r_pi (s2 := (xu (xu m 6 9 2) 6 8 2)) H (pc := 111) rfl (by decide) rfl rfl ?_
  obtain rfl := Option.some.inj h
  exact r_ret (q := (.return_, 1, 0, 0, .null)) rfl rfl (fun _ => rfl)
def D41_6_2_82 (F : Nat) (v2 : Int32) (v3 : Int32) (w0 : Int32) (m : xS) : Option (Unit × xS) :=
  (D45_6 F w0 m).bind fun q82 =>
    D41_6_2_104 F v2 v3 q82.2
set_option maxRecDepth 20000 in
theorem T41_6_2_82 {B : zHp} (H : yH0 B) (X : yTx B) {e : Nat} (he : 4 ≤ e + 1) (F : Nat) {v2 : Int32} {v3 : Int32} {w0 : Int32} {lv : List (Nat × Value)} {m : xS} {x : Unit × xS} (l0 : zld lv 0 = some (.ref 6)) (l1 : zld lv 1 = some (.ref 2)) (l2 : zld lv 2 = some (.int v2)) (l3 : zld lv 3 = some (.int v3)) (h : D41_6_2_82 F v2 v3 w0 m = some x) : zR none e 4 none zc41 (82, lv, [.int w0, .ref 6]) (xW B m) (none, xW B x.2) := by
  unfold D41_6_2_82 at h
  obtain ⟨q82, h82, h⟩ := xbind h
  refine r_call (ix := 6) (as := [.int w0]) (rest := []) (rv := none) (hp' := xW B q82.2) (pc := 82) rfl xr45 rfl rfl rfl (xkd H (by decide)) (Nat.le_of_ble_eq_true rfl) (Z45_6 H X h82 (by omega)) (Nat.le_refl _) ?_
  refine r_s (fr' := (104, lv, [])) (hp' := xW B q82.2) (q := (.goto 19, 3, 104, 0, .null)) rfl (fun _ => rfl) (Nat.le_refl _) ?_
  exact T41_6_2_104 H X he F l0 l1 l2 l3 h
def D41_6_2_101 (F : Nat) (v2 : Int32) (v3 : Int32) (w0 : Int32) (m : xS) : Option (Unit × xS) :=
  (D45_6 F w0 m).bind fun q101 =>
    D41_6_2_104 F v2 v3 q101.2
set_option maxRecDepth 20000 in
theorem T41_6_2_101 {B : zHp} (H : yH0 B) (X : yTx B) {e : Nat} (he : 4 ≤ e + 1) (F : Nat) {v2 : Int32} {v3 : Int32} {w0 : Int32} {lv : List (Nat × Value)} {m : xS} {x : Unit × xS} (l0 : zld lv 0 = some (.ref 6)) (l1 : zld lv 1 = some (.ref 2)) (l2 : zld lv 2 = some (.int v2)) (l3 : zld lv 3 = some (.int v3)) (h : D41_6_2_101 F v2 v3 w0 m = some x) : zR none e 4 none zc41 (101, lv, [.int w0, .ref 6]) (xW B m) (none, xW B x.2) := by
  unfold D41_6_2_101 at h
  obtain ⟨q101, h101, h⟩ := xbind h
  refine r_call (ix := 6) (as := [.int w0]) (rest := []) (rv := none) (hp' := xW B q101.2) (pc := 101) rfl xr45 rfl rfl rfl (xkd H (by decide)) (Nat.le_of_ble_eq_true rfl) (Z45_6 H X h101 (by omega)) (Nat.le_refl _) ?_
  exact T41_6_2_104 H X he F l0 l1 l2 l3 h
def D41_6_2_35 (F : Nat) (v2 : Int32) (v3 : Int32) (m : xS) : Option (Unit × xS) :=
  (D37_6_2 F v3 m).bind fun q38 =>
    (D54_2 F q38.2).bind fun q42 =>
      if zcmp .ne v2 61 = true then
        (D55_2 F 61 q42.2).bind fun q63 =>
          if zcmp .eq q63.1 0 = true then
            if zcmp .ne v2 60 = true then
              D41_6_2_101 F v2 v3 8 q63.2
            else
              D41_6_2_101 F v2 v3 4 q63.2
          else
            if zcmp .ne v2 60 = true then
              D41_6_2_82 F v2 v3 7 q63.2
            else
              D41_6_2_82 F v2 v3 5 q63.2
      else
        (D45_6 F 6 q42.2).bind fun q54 =>
          D41_6_2_104 F v2 v3 q54.2
set_option maxRecDepth 20000 in
theorem T41_6_2_35 {B : zHp} (H : yH0 B) (X : yTx B) {e : Nat} (he : 4 ≤ e + 1) (F : Nat) {v2 : Int32} {v3 : Int32} {lv : List (Nat × Value)} {m : xS} {x : Unit × xS} (l0 : zld lv 0 = some (.ref 6)) (l1 : zld lv 1 = some (.ref 2)) (l2 : zld lv 2 = some (.int v2)) (l3 : zld lv 3 = some (.int v3)) (h : D41_6_2_35 F v2 v3 m = some x) : zR none e 4 none zc41 (35, lv, []) (xW B m) (none, xW B x.2) := by
  unfold D41_6_2_35 at h
  refine q_lr (k := 1) (i := 0) (q := (.aload_n 0, 1, 0, 0, .null)) rfl (fun _ => rfl) l0 ?_
  refine q_lr (k := 1) (i := 1) (q := (.aload_n 1, 1, 0, 0, .null)) rfl (fun _ => rfl) l1 ?_
  refine q_li (k := 1) (i := 3) (q := (.iload_n 3, 1, 0, 0, .null)) rfl (fun _ => rfl) l3 ?_
  obtain ⟨q38, h38, h⟩ := xbind h
  refine r_call (ix := 6) (as := [.ref 2, .int v3]) (rest := []) (rv := none) (hp' := xW B q38.2) (pc := 38) rfl xr37 rfl rfl rfl (xkd H (by decide)) (Nat.le_of_ble_eq_true rfl) (Z37_6_2 H X h38 (by omega)) (Nat.le_refl _) ?_
  refine q_lr (k := 1) (i := 1) (q := (.aload_n 1, 1, 0, 0, .null)) rfl (fun _ => rfl) l1 ?_
  obtain ⟨q42, h42, h⟩ := xbind h
  refine r_call (ix := 2) (as := []) (rest := []) (rv := none) (hp' := xW B q42.2) (pc := 42) rfl xr54 rfl rfl rfl (xkd H (by decide)) (Nat.le_of_ble_eq_true rfl) (Z54_2 H X h42 (by omega)) (Nat.le_refl _) ?_
  refine q_li (k := 1) (i := 2) (q := (.iload_n 2, 1, 0, 0, .null)) rfl (fun _ => rfl) l2 ?_
  refine r_s (fr' := (48, lv, [.int 61, .int v2])) (hp' := xW B q42.2) (q := (.bipush 61, 2, 0, 0, .null)) rfl (fun _ => rfl) (Nat.le_refl _) ?_
  refine r_ifc (len := 3) (a := 60) (b := 0) (v0 := .null) (cn := .ne) (off := 12) rfl (fun c => ?_) (fun c => ?_)
  · rw [if_pos c] at h
    refine q_lr (k := 1) (i := 1) (q := (.aload_n 1, 1, 0, 0, .null)) rfl (fun _ => rfl) l1 ?_
    refine r_s (fr' := (63, lv, [.int 61, .ref 2])) (hp' := xW B q42.2) (q := (.bipush 61, 2, 0, 0, .null)) rfl (fun _ => rfl) (Nat.le_refl _) ?_
    obtain ⟨q63, h63, h⟩ := xbind h
    refine r_call (ix := 2) (as := [.int 61]) (rest := []) (rv := some (.int q63.1)) (hp' := xW B q63.2) (pc := 63) rfl xr55 rfl rfl rfl (xkd H (by decide)) (Nat.le_of_ble_eq_true rfl) (Z55_2 H X h63 (by omega)) (Nat.le_refl _) ?_
    refine r_if (len := 3) (a := 88) (b := 0) (v0 := .null) (cn := .eq) (off := 22) rfl (fun c => ?_) (fun c => ?_)
    · rw [if_pos c] at h
      refine q_lr (k := 1) (i := 0) (q := (.aload_n 0, 1, 0, 0, .null)) rfl (fun _ => rfl) l0 ?_
      refine q_li (k := 1) (i := 2) (q := (.iload_n 2, 1, 0, 0, .null)) rfl (fun _ => rfl) l2 ?_
      refine r_s (fr' := (92, lv, [.int 60, .int v2, .ref 6])) (hp' := xW B q63.2) (q := (.bipush 60, 2, 0, 0, .null)) rfl (fun _ => rfl) (Nat.le_refl _) ?_
      refine r_ifc (len := 3) (a := 99) (b := 0) (v0 := .null) (cn := .ne) (off := 7) rfl (fun c => ?_) (fun c => ?_)
      · rw [if_pos c] at h
        refine r_s (fr' := (101, lv, [.int 8, .ref 6])) (hp' := xW B q63.2) (q := (.bipush 8, 2, 0, 0, .null)) rfl (fun _ => rfl) (Nat.le_refl _) ?_
        exact T41_6_2_101 H X he F l0 l1 l2 l3 h
      · rw [if_neg (by rw [c]; decide)] at h
        refine r_s (fr' := (96, lv, [.int 4, .ref 6])) (hp' := xW B q63.2) (q := (.iconst 4, 1, 0, 0, .null)) rfl (fun _ => rfl) (Nat.le_refl _) ?_
        refine r_s (fr' := (101, lv, [.int 4, .ref 6])) (hp' := xW B q63.2) (q := (.goto 5, 3, 101, 0, .null)) rfl (fun _ => rfl) (Nat.le_refl _) ?_
        exact T41_6_2_101 H X he F l0 l1 l2 l3 h
    · rw [if_neg (by rw [c]; decide)] at h
      refine q_lr (k := 1) (i := 0) (q := (.aload_n 0, 1, 0, 0, .null)) rfl (fun _ => rfl) l0 ?_
      refine q_li (k := 1) (i := 2) (q := (.iload_n 2, 1, 0, 0, .null)) rfl (fun _ => rfl) l2 ?_
      refine r_s (fr' := (73, lv, [.int 60, .int v2, .ref 6])) (hp' := xW B q63.2) (q := (.bipush 60, 2, 0, 0, .null)) rfl (fun _ => rfl) (Nat.le_refl _) ?_
      refine r_ifc (len := 3) (a := 80) (b := 0) (v0 := .null) (cn := .ne) (off := 7) rfl (fun c => ?_) (fun c => ?_)
      · rw [if_pos c] at h
        refine r_s (fr' := (82, lv, [.int 7, .ref 6])) (hp' := xW B q63.2) (q := (.bipush 7, 2, 0, 0, .null)) rfl (fun _ => rfl) (Nat.le_refl _) ?_
        exact T41_6_2_82 H X he F l0 l1 l2 l3 h
      · rw [if_neg (by rw [c]; decide)] at h
        refine r_s (fr' := (77, lv, [.int 5, .ref 6])) (hp' := xW B q63.2) (q := (.iconst 5, 1, 0, 0, .null)) rfl (fun _ => rfl) (Nat.le_refl _) ?_
        refine r_s (fr' := (82, lv, [.int 5, .ref 6])) (hp' := xW B q63.2) (q := (.goto 5, 3, 82, 0, .null)) rfl (fun _ => rfl) (Nat.le_refl _) ?_
        exact T41_6_2_82 H X he F l0 l1 l2 l3 h
  · rw [if_neg (by rw [c]; decide)] at h
    refine q_lr (k := 1) (i := 0) (q := (.aload_n 0, 1, 0, 0, .null)) rfl (fun _ => rfl) l0 ?_
    refine r_s (fr' := (54, lv, [.int 6, .ref 6])) (hp' := xW B q42.2) (q := (.bipush 6, 2, 0, 0, .null)) rfl (fun _ => rfl) (Nat.le_refl _) ?_
    obtain ⟨q54, h54, h⟩ := xbind h
    refine r_call (ix := 6) (as := [.int 6]) (rest := []) (rv := none) (hp' := xW B q54.2) (pc := 54) rfl xr45 rfl rfl rfl (xkd H (by decide)) (Nat.le_of_ble_eq_true rfl) (Z45_6 H X h54 (by omega)) (Nat.le_refl _) ?_
    refine r_s (fr' := (104, lv, [])) (hp' := xW B q54.2) (q := (.goto 47, 3, 104, 0, .null)) rfl (fun _ => rfl) (Nat.le_refl _) ?_
    exact T41_6_2_104 H X he F l0 l1 l2 l3 h
def D41_6_2 (F : Nat) (m : xS) : Option (Unit × xS) :=
  (D53_2 F m).bind fun q1 =>
    if zcmp .eq q1.1 60 = true then
      D41_6_2_35 F q1.1 (q1.2.1 2 2) q1.2
    else
      if zcmp .eq q1.1 61 = true then
        D41_6_2_35 F q1.1 (q1.2.1 2 2) q1.2
      else
        if zcmp .eq q1.1 62 = true then
          D41_6_2_35 F q1.1 (q1.2.1 2 2) q1.2
        else
          (D52_2 F (q1.2.1 2 2) 0 q1.2).bind fun q31 =>
            some ((), q31.2)
set_option maxRecDepth 20000 in
theorem T41_6_2 {B : zHp} (H : yH0 B) (X : yTx B) {e : Nat} (he : 4 ≤ e + 1) (F : Nat) {lv : List (Nat × Value)} {m : xS} {x : Unit × xS} (l0 : zld lv 0 = some (.ref 6)) (l1 : zld lv 1 = some (.ref 2)) (h : D41_6_2 F m = some x) : zR none e 4 none zc41 (0, lv, []) (xW B m) (none, xW B x.2) := by
  unfold D41_6_2 at h
  refine q_lr (k := 1) (i := 1) (q := (.aload_n 1, 1, 0, 0, .null)) rfl (fun _ => rfl) l1 ?_
  obtain ⟨q1, h1, h⟩ := xbind h
  refine r_call (ix := 2) (as := []) (rest := []) (rv := some (.int q1.1)) (hp' := xW B q1.2) (pc := 1) rfl xr53 rfl rfl rfl (xkd H (by decide)) (Nat.le_of_ble_eq_true rfl) (Z53_2 H X h1 (by omega)) (Nat.le_refl _) ?_
  refine q_si (k := 1) (i := 2) (q := (.istore_n 2, 1, 0, 0, .null)) rfl (fun _ => rfl) (by decide) ?_
  have l0_1 : zld (zs1 lv 2 (.int q1.1)) 0 = some (.ref 6) := x_o1 l0 rfl rfl
  have l1_1 : zld (zs1 lv 2 (.int q1.1)) 1 = some (.ref 2) := x_o1 l1 rfl rfl
  have l2_1 : zld (zs1 lv 2 (.int q1.1)) 2 = some (.int q1.1) := zs1_ld _ _ _
  generalize (zs1 lv 2 (.int q1.1)) = lv1 at *
  refine q_lr (k := 1) (i := 1) (q := (.aload_n 1, 1, 0, 0, .null)) rfl (fun _ => rfl) l1_1 ?_
  refine r_gi (v := (q1.2.1 2 2)) H (pc := 6) (i := _) rfl (by decide) (by decide) rfl ?_
  refine q_si (k := 1) (i := 3) (q := (.istore_n 3, 1, 0, 0, .null)) rfl (fun _ => rfl) (by decide) ?_
  have l0_2 : zld (zs1 lv1 3 (.int (q1.2.1 2 2))) 0 = some (.ref 6) := x_o1 l0_1 rfl rfl
  have l1_2 : zld (zs1 lv1 3 (.int (q1.2.1 2 2))) 1 = some (.ref 2) := x_o1 l1_1 rfl rfl
  have l2_2 : zld (zs1 lv1 3 (.int (q1.2.1 2 2))) 2 = some (.int q1.1) := x_o1 l2_1 rfl rfl
  have l3_2 : zld (zs1 lv1 3 (.int (q1.2.1 2 2))) 3 = some (.int (q1.2.1 2 2)) := zs1_ld _ _ _
  generalize (zs1 lv1 3 (.int (q1.2.1 2 2))) = lv2 at *
  refine q_li (k := 1) (i := 2) (q := (.iload_n 2, 1, 0, 0, .null)) rfl (fun _ => rfl) l2_2 ?_
  refine r_s (fr' := (13, lv2, [.int 60, .int q1.1])) (hp' := xW B q1.2) (q := (.bipush 60, 2, 0, 0, .null)) rfl (fun _ => rfl) (Nat.le_refl _) ?_
  refine r_ifc (len := 3) (a := 35) (b := 0) (v0 := .null) (cn := .eq) (off := 22) rfl (fun c => ?_) (fun c => ?_)
  · rw [if_pos c] at h
    exact T41_6_2_35 H X he F l0_2 l1_2 l2_2 l3_2 h
  · rw [if_neg (by rw [c]; decide)] at h
    refine q_li (k := 1) (i := 2) (q := (.iload_n 2, 1, 0, 0, .null)) rfl (fun _ => rfl) l2_2 ?_
    refine r_s (fr' := (19, lv2, [.int 61, .int q1.1])) (hp' := xW B q1.2) (q := (.bipush 61, 2, 0, 0, .null)) rfl (fun _ => rfl) (Nat.le_refl _) ?_
    refine r_ifc (len := 3) (a := 35) (b := 0) (v0 := .null) (cn := .eq) (off := 16) rfl (fun c => ?_) (fun c => ?_)
    · rw [if_pos c] at h
      exact T41_6_2_35 H X he F l0_2 l1_2 l2_2 l3_2 h
    · rw [if_neg (by rw [c]; decide)] at h
      refine q_li (k := 1) (i := 2) (q := (.iload_n 2, 1, 0, 0, .null)) rfl (fun _ => rfl) l2_2 ?_
      refine r_s (fr' := (25, lv2, [.int 62, .int q1.1])) (hp' := xW B q1.2) (q := (.bipush 62, 2, 0, 0, .null)) rfl (fun _ => rfl) (Nat.le_refl _) ?_
      refine r_ifc (len := 3) (a := 35) (b := 0) (v0 := .null) (cn := .eq) (off := 10) rfl (fun c => ?_) (fun c => ?_)
      · rw [if_pos c] at h
        exact T41_6_2_35 H X he F l0_2 l1_2 l2_2 l3_2 h
      · rw [if_neg (by rw [c]; decide)] at h
        refine q_lr (k := 1) (i := 1) (q := (.aload_n 1, 1, 0, 0, .null)) rfl (fun _ => rfl) l1_2 ?_
        refine q_li (k := 1) (i := 3) (q := (.iload_n 3, 1, 0, 0, .null)) rfl (fun _ => rfl) l3_2 ?_
        refine r_s (fr' := (31, lv2, [.int 0, .int (q1.2.1 2 2), .ref 2])) (hp' := xW B q1.2) (q := (.iconst 0, 1, 0, 0, .null)) rfl (fun _ => rfl) (Nat.le_refl _) ?_
        obtain ⟨q31, h31, h⟩ := xbind h
        refine r_call (ix := 2) (as := [.int (q1.2.1 2 2), .int 0]) (rest := []) (rv := none) (hp' := xW B q31.2) (pc := 31) rfl xr52 rfl rfl rfl (xkd H (by decide)) (Nat.le_of_ble_eq_true rfl) (Z52_2 H X h31 (by omega)) (Nat.le_refl _) ?_
        obtain rfl := Option.some.inj h
        exact r_ret (q := (.return_, 1, 0, 0, .null)) rfl rfl (fun _ => rfl)
set_option maxRecDepth 20000 in
theorem Z41_6_2 {B : zHp} (H : yH0 B) (X : yTx B) {F : Nat} {m : xS} {x : Unit × xS} (h : D41_6_2 F m = some x) {d : Nat} (hd : 4 ≤ d) : zCan d 41 [.ref 6, .ref 2] (xW B m) (none, xW B x.2) := by
  obtain ⟨e, rfl⟩ : ∃ e, d = e + 1 := ⟨d - 1, by omega⟩
  refine zCan_body (nL := 4) (rt := none) (cd := zc41) (xg41) ⟨Nat.le_of_ble_eq_true rfl, by decide⟩ (Nat.le_refl _) ?_
  exact T41_6_2 H X hd F rfl rfl h
/-- java/lang/String.coder -/
def D283_1006 (F : Nat) (m : xS) : Option (Int32 × xS) :=
  if zcmp .eq 1 0 = true then
    some (1, m)
  else
    some (0, m)
set_option maxRecDepth 20000 in
theorem T283_1006 {B : zHp} (H : yH0 B) (X : yTx B) {e : Nat} (he : 1 ≤ e + 1) (F : Nat) {lv : List (Nat × Value)} {m : xS} {x : Int32 × xS} (l0 : zld lv 0 = some (.ref 1006)) (h : D283_1006 F m = some x) : zR none e 1 (some .byte) zc283 (0, lv, []) (xW B m) (some (.int x.1), xW B x.2) := by
  unfold D283_1006 at h
  refine r_s (fr' := (3, lv, [.int 1])) (hp' := xW B m) (q := (.getstatic 38, 3, 0, 0, .int 1)) rfl (fun _ => rfl) (Nat.le_refl _) ?_
  refine r_if (len := 3) (a := 13) (b := 0) (v0 := .null) (cn := .eq) (off := 10) rfl (fun c => ?_) (fun c => ?_)
  · rw [if_pos c] at h
    refine r_s (fr' := (14, lv, [.int 1])) (hp' := xW B m) (q := (.iconst 1, 1, 0, 0, .null)) rfl (fun _ => rfl) (Nat.le_refl _) ?_
    obtain rfl := Option.some.inj h
    exact q_ri (q := (.ireturn, 1, 0, 0, .null)) rfl (fun _ => rfl) rfl rfl
  · rw [if_neg (by rw [c]; decide)] at h
    refine q_lr (k := 1) (i := 0) (q := (.aload_n 0, 1, 0, 0, .null)) rfl (fun _ => rfl) l0 ?_
    refine r_s (fr' := (10, lv, [.int 0])) (hp' := xW B m) (q := (.getfield 15, 3, 100, 1, .null)) rfl (fun _ => rfl) (Nat.le_refl _) ?_
    refine r_s (fr' := (14, lv, [.int 0])) (hp' := xW B m) (q := (.goto 4, 3, 14, 0, .null)) rfl (fun _ => rfl) (Nat.le_refl _) ?_
    obtain rfl := Option.some.inj h
    exact q_ri (q := (.ireturn, 1, 0, 0, .null)) rfl (fun _ => rfl) rfl rfl
set_option maxRecDepth 20000 in
theorem Z283_1006 {B : zHp} (H : yH0 B) (X : yTx B) {F : Nat} {m : xS} {x : Int32 × xS} (h : D283_1006 F m = some x) {d : Nat} (hd : 1 ≤ d) : zCan d 283 [.ref 1006] (xW B m) (some (.int x.1), xW B x.2) := by
  obtain ⟨e, rfl⟩ : ∃ e, d = e + 1 := ⟨d - 1, by omega⟩
  refine zCan_body (nL := 1) (rt := (some .byte)) (cd := zc283) (xg283) ⟨Nat.le_of_ble_eq_true rfl, by decide⟩ (Nat.le_refl _) ?_
  exact T283_1006 H X hd F rfl h
/-- java/lang/String.length -/
def D281_1006 (F : Nat) (m : xS) : Option (Int32 × xS) :=
  (D283_1006 F m).bind fun q6 =>
    some (((Int32.ofNat 7) >>> (q6.1 &&& 31)), q6.2)
set_option maxRecDepth 20000 in
theorem T281_1006 {B : zHp} (H : yH0 B) (X : yTx B) {e : Nat} (he : 2 ≤ e + 1) (F : Nat) {lv : List (Nat × Value)} {m : xS} {x : Int32 × xS} (l0 : zld lv 0 = some (.ref 1006)) (h : D281_1006 F m = some x) : zR none e 1 (some .int) zc281 (0, lv, []) (xW B m) (some (.int x.1), xW B x.2) := by
  unfold D281_1006 at h
  refine q_lr (k := 1) (i := 0) (q := (.aload_n 0, 1, 0, 0, .null)) rfl (fun _ => rfl) l0 ?_
  refine r_s (fr' := (4, lv, [.ref 1025])) (hp' := xW B m) (q := (.getfield 9, 3, 100, 0, .null)) rfl (fun _ => rfl) (Nat.le_refl _) ?_
  refine r_s (fr' := (5, lv, [.int (Int32.ofNat 7)])) (hp' := xW B m) (q := (.arraylength, 1, 0, 0, .null)) rfl (fun _ => rfl) (Nat.le_refl _) ?_
  refine q_lr (k := 1) (i := 0) (q := (.aload_n 0, 1, 0, 0, .null)) rfl (fun _ => rfl) l0 ?_
  obtain ⟨q6, h6, h⟩ := xbind h
  refine r_call (ix := 1006) (as := []) (rest := [.int (Int32.ofNat 7)]) (rv := some (.int q6.1)) (hp' := xW B q6.2) (pc := 6) rfl xr283 rfl rfl rfl rfl (Nat.le_of_ble_eq_true rfl) (Z283_1006 H X h6 (by omega)) (Nat.le_refl _) ?_
  refine r_s (fr' := (10, lv, [.int ((Int32.ofNat 7) >>> (q6.1 &&& 31))])) (hp' := xW B q6.2) (q := (.ishr, 1, 0, 0, .null)) rfl (fun _ => rfl) (Nat.le_refl _) ?_
  obtain rfl := Option.some.inj h
  exact q_ri (q := (.ireturn, 1, 0, 0, .null)) rfl (fun _ => rfl) rfl rfl
set_option maxRecDepth 20000 in
theorem Z281_1006 {B : zHp} (H : yH0 B) (X : yTx B) {F : Nat} {m : xS} {x : Int32 × xS} (h : D281_1006 F m = some x) {d : Nat} (hd : 2 ≤ d) : zCan d 281 [.ref 1006] (xW B m) (some (.int x.1), xW B x.2) := by
  obtain ⟨e, rfl⟩ : ∃ e, d = e + 1 := ⟨d - 1, by omega⟩
  refine zCan_body (nL := 1) (rt := (some .int)) (cd := zc281) (xg281) ⟨Nat.le_of_ble_eq_true rfl, by decide⟩ (Nat.le_refl _) ?_
  exact T281_1006 H X hd F rfl h
/-- java/lang/String.isLatin1 -/
def D284_1006_17 (F : Nat) (m : xS) : Option (Int32 × xS) :=
  some (0, m)
set_option maxRecDepth 20000 in
theorem T284_1006_17 {B : zHp} (H : yH0 B) (X : yTx B) {e : Nat} (he : 1 ≤ e + 1) (F : Nat) {lv : List (Nat × Value)} {m : xS} {x : Int32 × xS} (l0 : zld lv 0 = some (.ref 1006)) (h : D284_1006_17 F m = some x) : zR none e 1 (some .boolean) zc284 (17, lv, []) (xW B m) (some (.int x.1), xW B x.2) := by
  unfold D284_1006_17 at h
  refine r_s (fr' := (18, lv, [.int 0])) (hp' := xW B m) (q := (.iconst 0, 1, 0, 0, .null)) rfl (fun _ => rfl) (Nat.le_refl _) ?_
  obtain rfl := Option.some.inj h
  exact q_ri (q := (.ireturn, 1, 0, 0, .null)) rfl (fun _ => rfl) rfl rfl
def D284_1006 (F : Nat) (m : xS) : Option (Int32 × xS) :=
  if zcmp .eq 1 0 = true then
    D284_1006_17 F m
  else
    if zcmp .ne 0 0 = true then
      D284_1006_17 F m
    else
      some (1, m)
set_option maxRecDepth 20000 in
theorem T284_1006 {B : zHp} (H : yH0 B) (X : yTx B) {e : Nat} (he : 1 ≤ e + 1) (F : Nat) {lv : List (Nat × Value)} {m : xS} {x : Int32 × xS} (l0 : zld lv 0 = some (.ref 1006)) (h : D284_1006 F m = some x) : zR none e 1 (some .boolean) zc284 (0, lv, []) (xW B m) (some (.int x.1), xW B x.2) := by
  unfold D284_1006 at h
  refine r_s (fr' := (3, lv, [.int 1])) (hp' := xW B m) (q := (.getstatic 38, 3, 0, 0, .int 1)) rfl (fun _ => rfl) (Nat.le_refl _) ?_
  refine r_if (len := 3) (a := 17) (b := 0) (v0 := .null) (cn := .eq) (off := 14) rfl (fun c => ?_) (fun c => ?_)
  · rw [if_pos c] at h
    exact T284_1006_17 H X he F l0 h
  · rw [if_neg (by rw [c]; decide)] at h
    refine q_lr (k := 1) (i := 0) (q := (.aload_n 0, 1, 0, 0, .null)) rfl (fun _ => rfl) l0 ?_
    refine r_s (fr' := (10, lv, [.int 0])) (hp' := xW B m) (q := (.getfield 15, 3, 100, 1, .null)) rfl (fun _ => rfl) (Nat.le_refl _) ?_
    refine r_if (len := 3) (a := 17) (b := 0) (v0 := .null) (cn := .ne) (off := 7) rfl (fun c => ?_) (fun c => ?_)
    · rw [if_pos c] at h
      exact T284_1006_17 H X he F l0 h
    · rw [if_neg (by rw [c]; decide)] at h
      refine r_s (fr' := (14, lv, [.int 1])) (hp' := xW B m) (q := (.iconst 1, 1, 0, 0, .null)) rfl (fun _ => rfl) (Nat.le_refl _) ?_
      refine r_s (fr' := (18, lv, [.int 1])) (hp' := xW B m) (q := (.goto 4, 3, 18, 0, .null)) rfl (fun _ => rfl) (Nat.le_refl _) ?_
      obtain rfl := Option.some.inj h
      exact q_ri (q := (.ireturn, 1, 0, 0, .null)) rfl (fun _ => rfl) rfl rfl
set_option maxRecDepth 20000 in
theorem Z284_1006 {B : zHp} (H : yH0 B) (X : yTx B) {F : Nat} {m : xS} {x : Int32 × xS} (h : D284_1006 F m = some x) {d : Nat} (hd : 1 ≤ d) : zCan d 284 [.ref 1006] (xW B m) (some (.int x.1), xW B x.2) := by
  obtain ⟨e, rfl⟩ : ∃ e, d = e + 1 := ⟨d - 1, by omega⟩
  refine zCan_body (nL := 1) (rt := (some .boolean)) (cd := zc284) (xg284) ⟨Nat.le_of_ble_eq_true rfl, by decide⟩ (Nat.le_refl _) ?_
  exact T284_1006 H X hd F rfl h
/-- java/lang/StringLatin1.charAt -/
def D286_1025 (F : Nat) (v1 : Int32) (m : xS) : Option (Int32 × xS) :=
  (D285 F v1 (Int32.ofNat 7) m).bind fun q3 =>
    if xib v1 7 = true then
      if (vp_nar .char ((((zsv 25 (v1 : Int32).toNatClampNeg) &&& 255) : Int32).toUInt32 % 65536).toInt32 == ((((zsv 25 (v1 : Int32).toNatClampNeg) &&& 255) : Int32).toUInt32 % 65536).toInt32) = true then
        some (((((zsv 25 (v1 : Int32).toNatClampNeg) &&& 255) : Int32).toUInt32 % 65536).toInt32, q3.2)
      else none
    else none
set_option maxRecDepth 20000 in
theorem T286_1025 {B : zHp} (H : yH0 B) (X : yTx B) {e : Nat} (he : 3 ≤ e + 1) (F : Nat) {v1 : Int32} {lv : List (Nat × Value)} {m : xS} {x : Int32 × xS} (l0 : zld lv 0 = some (.ref 1025)) (l1 : zld lv 1 = some (.int v1)) (h : D286_1025 F v1 m = some x) : zR none e 2 (some .char) zc286 (0, lv, []) (xW B m) (some (.int x.1), xW B x.2) := by
  unfold D286_1025 at h
  refine q_li (k := 1) (i := 1) (q := (.iload_n 1, 1, 0, 0, .null)) rfl (fun _ => rfl) l1 ?_
  refine q_lr (k := 1) (i := 0) (q := (.aload_n 0, 1, 0, 0, .null)) rfl (fun _ => rfl) l0 ?_
  refine r_s (fr' := (3, lv, [.int (Int32.ofNat 7), .int v1])) (hp' := xW B m) (q := (.arraylength, 1, 0, 0, .null)) rfl (fun _ => rfl) (Nat.le_refl _) ?_
  obtain ⟨q3, h3, h⟩ := xbind h
  refine r_callS (as := [.int v1, .int (Int32.ofNat 7)]) (rest := []) (rv := none) (hp' := xW B q3.2) (pc := 3) rfl xr285 rfl rfl rfl (Nat.le_of_ble_eq_true rfl) (Z285 H X h3 (by omega)) (Nat.le_refl _) ?_
  refine q_lr (k := 1) (i := 0) (q := (.aload_n 0, 1, 0, 0, .null)) rfl (fun _ => rfl) l0 ?_
  refine q_li (k := 1) (i := 1) (q := (.iload_n 1, 1, 0, 0, .null)) rfl (fun _ => rfl) l1 ?_
  obtain ⟨c1, h⟩ := xif h
  refine q_sbl (n := 7) (f := zsv 25) (i := 1025) (pc := 8) rfl (by decide) rfl c1 ?_
  refine r_s (fr' := (12, lv, [.int 255, .int (zsv 25 (v1 : Int32).toNatClampNeg)])) (hp' := xW B q3.2) (q := (.sipush 255, 3, 0, 0, .null)) rfl (fun _ => rfl) (Nat.le_refl _) ?_
  refine r_s (fr' := (13, lv, [.int ((zsv 25 (v1 : Int32).toNatClampNeg) &&& 255)])) (hp' := xW B q3.2) (q := (.iand, 1, 0, 0, .null)) rfl (fun _ => rfl) (Nat.le_refl _) ?_
  refine r_s (fr' := (14, lv, [.int ((((zsv 25 (v1 : Int32).toNatClampNeg) &&& 255) : Int32).toUInt32 % 65536).toInt32])) (hp' := xW B q3.2) (q := (.i2c, 1, 0, 0, .null)) rfl (fun _ => rfl) (Nat.le_refl _) ?_
  obtain ⟨c2, h⟩ := xif h
  obtain rfl := Option.some.inj h
  exact q_ri (q := (.ireturn, 1, 0, 0, .null)) rfl (fun _ => rfl) rfl (xnar_ok rfl c2)
set_option maxRecDepth 20000 in
theorem Z286_1025 {B : zHp} (H : yH0 B) (X : yTx B) {F : Nat} {a1 : Int32} {m : xS} {x : Int32 × xS} (h : D286_1025 F a1 m = some x) {d : Nat} (hd : 3 ≤ d) : zCan d 286 [.ref 1025, .int a1] (xW B m) (some (.int x.1), xW B x.2) := by
  obtain ⟨e, rfl⟩ : ∃ e, d = e + 1 := ⟨d - 1, by omega⟩
  refine zCan_body (nL := 2) (rt := (some .char)) (cd := zc286) (xg286) ⟨Nat.le_of_ble_eq_true rfl, by decide⟩ (Nat.le_refl _) ?_
  exact T286_1025 H X hd F rfl rfl h
/-- java/lang/StringUTF16.length -/
def D288_1025 (F : Nat) (m : xS) : Option (Int32 × xS) :=
  some (((Int32.ofNat 7) >>> (1 &&& 31)), m)
set_option maxRecDepth 20000 in
theorem T288_1025 {B : zHp} (H : yH0 B) (X : yTx B) {e : Nat} (he : 1 ≤ e + 1) (F : Nat) {lv : List (Nat × Value)} {m : xS} {x : Int32 × xS} (l0 : zld lv 0 = some (.ref 1025)) (h : D288_1025 F m = some x) : zR none e 1 (some .int) zc288 (0, lv, []) (xW B m) (some (.int x.1), xW B x.2) := by
  unfold D288_1025 at h
  refine q_lr (k := 1) (i := 0) (q := (.aload_n 0, 1, 0, 0, .null)) rfl (fun _ => rfl) l0 ?_
  refine r_s (fr' := (2, lv, [.int (Int32.ofNat 7)])) (hp' := xW B m) (q := (.arraylength, 1, 0, 0, .null)) rfl (fun _ => rfl) (Nat.le_refl _) ?_
  refine r_s (fr' := (3, lv, [.int 1, .int (Int32.ofNat 7)])) (hp' := xW B m) (q := (.iconst 1, 1, 0, 0, .null)) rfl (fun _ => rfl) (Nat.le_refl _) ?_
  refine r_s (fr' := (4, lv, [.int ((Int32.ofNat 7) >>> (1 &&& 31))])) (hp' := xW B m) (q := (.ishr, 1, 0, 0, .null)) rfl (fun _ => rfl) (Nat.le_refl _) ?_
  obtain rfl := Option.some.inj h
  exact q_ri (q := (.ireturn, 1, 0, 0, .null)) rfl (fun _ => rfl) rfl rfl
set_option maxRecDepth 20000 in
theorem Z288_1025 {B : zHp} (H : yH0 B) (X : yTx B) {F : Nat} {m : xS} {x : Int32 × xS} (h : D288_1025 F m = some x) {d : Nat} (hd : 1 ≤ d) : zCan d 288 [.ref 1025] (xW B m) (some (.int x.1), xW B x.2) := by
  obtain ⟨e, rfl⟩ : ∃ e, d = e + 1 := ⟨d - 1, by omega⟩
  refine zCan_body (nL := 1) (rt := (some .int)) (cd := zc288) (xg288) ⟨Nat.le_of_ble_eq_true rfl, by decide⟩ (Nat.le_refl _) ?_
  exact T288_1025 H X hd F rfl h
/-- java/lang/StringUTF16.checkIndex -/
def D290_1025 (F : Nat) (v0 : Int32) (m : xS) : Option (Unit × xS) :=
  (D288_1025 F m).bind fun q2 =>
    (D285 F v0 q2.1 q2.2).bind fun q5 =>
      some ((), q5.2)
set_option maxRecDepth 20000 in
theorem T290_1025 {B : zHp} (H : yH0 B) (X : yTx B) {e : Nat} (he : 3 ≤ e + 1) (F : Nat) {v0 : Int32} {lv : List (Nat × Value)} {m : xS} {x : Unit × xS} (l0 : zld lv 0 = some (.int v0)) (l1 : zld lv 1 = some (.ref 1025)) (h : D290_1025 F v0 m = some x) : zR none e 2 none zc290 (0, lv, []) (xW B m) (none, xW B x.2) := by
  unfold D290_1025 at h
  refine q_li (k := 1) (i := 0) (q := (.iload_n 0, 1, 0, 0, .null)) rfl (fun _ => rfl) l0 ?_
  refine q_lr (k := 1) (i := 1) (q := (.aload_n 1, 1, 0, 0, .null)) rfl (fun _ => rfl) l1 ?_
  obtain ⟨q2, h2, h⟩ := xbind h
  refine r_callS (as := [.ref 1025]) (rest := [.int v0]) (rv := some (.int q2.1)) (hp' := xW B q2.2) (pc := 2) rfl xr288 rfl rfl rfl (Nat.le_of_ble_eq_true rfl) (Z288_1025 H X h2 (by omega)) (Nat.le_refl _) ?_
  obtain ⟨q5, h5, h⟩ := xbind h
  refine r_callS (as := [.int v0, .int q2.1]) (rest := []) (rv := none) (hp' := xW B q5.2) (pc := 5) rfl xr285 rfl rfl rfl (Nat.le_of_ble_eq_true rfl) (Z285 H X h5 (by omega)) (Nat.le_refl _) ?_
  obtain rfl := Option.some.inj h
  exact r_ret (q := (.return_, 1, 0, 0, .null)) rfl rfl (fun _ => rfl)
set_option maxRecDepth 20000 in
theorem Z290_1025 {B : zHp} (H : yH0 B) (X : yTx B) {F : Nat} {a0 : Int32} {m : xS} {x : Unit × xS} (h : D290_1025 F a0 m = some x) {d : Nat} (hd : 3 ≤ d) : zCan d 290 [.int a0, .ref 1025] (xW B m) (none, xW B x.2) := by
  obtain ⟨e, rfl⟩ : ∃ e, d = e + 1 := ⟨d - 1, by omega⟩
  refine zCan_body (nL := 2) (rt := none) (cd := zc290) (xg290) ⟨Nat.le_of_ble_eq_true rfl, by decide⟩ (Nat.le_refl _) ?_
  exact T290_1025 H X hd F rfl rfl h
/-- java/lang/StringUTF16.getChar -/
def D287_1025 (F : Nat) (v1 : Int32) (m : xS) : Option (Int32 × xS) :=
  none
set_option maxRecDepth 20000 in
theorem T287_1025 {B : zHp} (H : yH0 B) (X : yTx B) {e : Nat} (he : 1 ≤ e + 1) (F : Nat) {v1 : Int32} {lv : List (Nat × Value)} {m : xS} {x : Int32 × xS} (l0 : zld lv 0 = some (.ref 1025)) (l1 : zld lv 1 = some (.int v1)) (h : D287_1025 F v1 m = some x) : zR none e 2 (some .char) zc287 (0, lv, []) (xW B m) (some (.int x.1), xW B x.2) := by
  unfold D287_1025 at h
  cases h
set_option maxRecDepth 20000 in
theorem Z287_1025 {B : zHp} (H : yH0 B) (X : yTx B) {F : Nat} {a1 : Int32} {m : xS} {x : Int32 × xS} (h : D287_1025 F a1 m = some x) {d : Nat} (hd : 1 ≤ d) : zCan d 287 [.ref 1025, .int a1] (xW B m) (some (.int x.1), xW B x.2) := by
  obtain ⟨e, rfl⟩ : ∃ e, d = e + 1 := ⟨d - 1, by omega⟩
  refine zCan_body (nL := 2) (rt := (some .char)) (cd := zc287) (xg287) ⟨Nat.le_of_ble_eq_true rfl, by decide⟩ (Nat.le_refl _) ?_
  exact T287_1025 H X hd F rfl rfl h
/-- java/lang/StringUTF16.charAt -/
def D289_1025 (F : Nat) (v1 : Int32) (m : xS) : Option (Int32 × xS) :=
  (D290_1025 F v1 m).bind fun q2 =>
    (D287_1025 F v1 q2.2).bind fun q7 =>
      if (vp_nar .char q7.1 == q7.1) = true then
        some (q7.1, q7.2)
      else none
set_option maxRecDepth 20000 in
theorem T289_1025 {B : zHp} (H : yH0 B) (X : yTx B) {e : Nat} (he : 4 ≤ e + 1) (F : Nat) {v1 : Int32} {lv : List (Nat × Value)} {m : xS} {x : Int32 × xS} (l0 : zld lv 0 = some (.ref 1025)) (l1 : zld lv 1 = some (.int v1)) (h : D289_1025 F v1 m = some x) : zR none e 2 (some .char) zc289 (0, lv, []) (xW B m) (some (.int x.1), xW B x.2) := by
  unfold D289_1025 at h
  refine q_li (k := 1) (i := 1) (q := (.iload_n 1, 1, 0, 0, .null)) rfl (fun _ => rfl) l1 ?_
  refine q_lr (k := 1) (i := 0) (q := (.aload_n 0, 1, 0, 0, .null)) rfl (fun _ => rfl) l0 ?_
  obtain ⟨q2, h2, h⟩ := xbind h
  refine r_callS (as := [.int v1, .ref 1025]) (rest := []) (rv := none) (hp' := xW B q2.2) (pc := 2) rfl xr290 rfl rfl rfl (Nat.le_of_ble_eq_true rfl) (Z290_1025 H X h2 (by omega)) (Nat.le_refl _) ?_
  refine q_lr (k := 1) (i := 0) (q := (.aload_n 0, 1, 0, 0, .null)) rfl (fun _ => rfl) l0 ?_
  refine q_li (k := 1) (i := 1) (q := (.iload_n 1, 1, 0, 0, .null)) rfl (fun _ => rfl) l1 ?_
  obtain ⟨q7, h7, h⟩ := xbind h
  refine r_callS (as := [.ref 1025, .int v1]) (rest := []) (rv := some (.int q7.1)) (hp' := xW B q7.2) (pc := 7) rfl xr287 rfl rfl rfl (Nat.le_of_ble_eq_true rfl) (Z287_1025 H X h7 (by omega)) (Nat.le_refl _) ?_
  obtain ⟨c1, h⟩ := xif h
  obtain rfl := Option.some.inj h
  exact q_ri (q := (.ireturn, 1, 0, 0, .null)) rfl (fun _ => rfl) rfl (xnar_ok rfl c1)
set_option maxRecDepth 20000 in
theorem Z289_1025 {B : zHp} (H : yH0 B) (X : yTx B) {F : Nat} {a1 : Int32} {m : xS} {x : Int32 × xS} (h : D289_1025 F a1 m = some x) {d : Nat} (hd : 4 ≤ d) : zCan d 289 [.ref 1025, .int a1] (xW B m) (some (.int x.1), xW B x.2) := by
  obtain ⟨e, rfl⟩ : ∃ e, d = e + 1 := ⟨d - 1, by omega⟩
  refine zCan_body (nL := 2) (rt := (some .char)) (cd := zc289) (xg289) ⟨Nat.le_of_ble_eq_true rfl, by decide⟩ (Nat.le_refl _) ?_
  exact T289_1025 H X hd F rfl rfl h
/-- java/lang/String.charAt -/
def D282_1006 (F : Nat) (v1 : Int32) (m : xS) : Option (Int32 × xS) :=
  (D284_1006 F m).bind fun q1 =>
    if zcmp .eq q1.1 0 = true then
      (D289_1025 F v1 q1.2).bind fun q21 =>
        if (vp_nar .char q21.1 == q21.1) = true then
          some (q21.1, q21.2)
        else none
    else
      (D286_1025 F v1 q1.2).bind fun q12 =>
        if (vp_nar .char q12.1 == q12.1) = true then
          some (q12.1, q12.2)
        else none
set_option maxRecDepth 20000 in
theorem T282_1006 {B : zHp} (H : yH0 B) (X : yTx B) {e : Nat} (he : 5 ≤ e + 1) (F : Nat) {v1 : Int32} {lv : List (Nat × Value)} {m : xS} {x : Int32 × xS} (l0 : zld lv 0 = some (.ref 1006)) (l1 : zld lv 1 = some (.int v1)) (h : D282_1006 F v1 m = some x) : zR none e 2 (some .char) zc282 (0, lv, []) (xW B m) (some (.int x.1), xW B x.2) := by
  unfold D282_1006 at h
  refine q_lr (k := 1) (i := 0) (q := (.aload_n 0, 1, 0, 0, .null)) rfl (fun _ => rfl) l0 ?_
  obtain ⟨q1, h1, h⟩ := xbind h
  refine r_call (ix := 1006) (as := []) (rest := []) (rv := some (.int q1.1)) (hp' := xW B q1.2) (pc := 1) rfl xr284 rfl rfl rfl rfl (Nat.le_of_ble_eq_true rfl) (Z284_1006 H X h1 (by omega)) (Nat.le_refl _) ?_
  refine r_if (len := 3) (a := 16) (b := 0) (v0 := .null) (cn := .eq) (off := 12) rfl (fun c => ?_) (fun c => ?_)
  · rw [if_pos c] at h
    refine q_lr (k := 1) (i := 0) (q := (.aload_n 0, 1, 0, 0, .null)) rfl (fun _ => rfl) l0 ?_
    refine r_s (fr' := (20, lv, [.ref 1025])) (hp' := xW B q1.2) (q := (.getfield 9, 3, 100, 0, .null)) rfl (fun _ => rfl) (Nat.le_refl _) ?_
    refine q_li (k := 1) (i := 1) (q := (.iload_n 1, 1, 0, 0, .null)) rfl (fun _ => rfl) l1 ?_
    obtain ⟨q21, h21, h⟩ := xbind h
    refine r_callS (as := [.ref 1025, .int v1]) (rest := []) (rv := some (.int q21.1)) (hp' := xW B q21.2) (pc := 21) rfl xr289 rfl rfl rfl (Nat.le_of_ble_eq_true rfl) (Z289_1025 H X h21 (by omega)) (Nat.le_refl _) ?_
    obtain ⟨c1, h⟩ := xif h
    obtain rfl := Option.some.inj h
    exact q_ri (q := (.ireturn, 1, 0, 0, .null)) rfl (fun _ => rfl) rfl (xnar_ok rfl c1)
  · rw [if_neg (by rw [c]; decide)] at h
    refine q_lr (k := 1) (i := 0) (q := (.aload_n 0, 1, 0, 0, .null)) rfl (fun _ => rfl) l0 ?_
    refine r_s (fr' := (11, lv, [.ref 1025])) (hp' := xW B q1.2) (q := (.getfield 9, 3, 100, 0, .null)) rfl (fun _ => rfl) (Nat.le_refl _) ?_
    refine q_li (k := 1) (i := 1) (q := (.iload_n 1, 1, 0, 0, .null)) rfl (fun _ => rfl) l1 ?_
    obtain ⟨q12, h12, h⟩ := xbind h
    refine r_callS (as := [.ref 1025, .int v1]) (rest := []) (rv := some (.int q12.1)) (hp' := xW B q12.2) (pc := 12) rfl xr286 rfl rfl rfl (Nat.le_of_ble_eq_true rfl) (Z286_1025 H X h12 (by omega)) (Nat.le_refl _) ?_
    obtain ⟨c2, h⟩ := xif h
    obtain rfl := Option.some.inj h
    exact q_ri (q := (.ireturn, 1, 0, 0, .null)) rfl (fun _ => rfl) rfl (xnar_ok rfl c2)
set_option maxRecDepth 20000 in
theorem Z282_1006 {B : zHp} (H : yH0 B) (X : yTx B) {F : Nat} {a1 : Int32} {m : xS} {x : Int32 × xS} (h : D282_1006 F a1 m = some x) {d : Nat} (hd : 5 ≤ d) : zCan d 282 [.ref 1006, .int a1] (xW B m) (some (.int x.1), xW B x.2) := by
  obtain ⟨e, rfl⟩ : ∃ e, d = e + 1 := ⟨d - 1, by omega⟩
  refine zCan_body (nL := 2) (rt := (some .char)) (cd := zc282) (xg282) ⟨Nat.le_of_ble_eq_true rfl, by decide⟩ (Nat.le_refl _) ?_
  exact T282_1006 H X hd F rfl rfl h
/-- LentTools$Text.passWord -/
def D59_2_1006_138 (F : Nat) (g55 : Int32 → Int32 → Int32 → Int32 → xS → Option (Int32 × xS)) (v2 : Int32) (v3 : Int32) (v4 : Int32) (v5 : Int32) (m : xS) : Option (Int32 × xS) :=
  g55 v2 v3 v4 (v5 + Int32.ofInt 1) m
set_option maxRecDepth 20000 in
theorem T59_2_1006_138 {B : zHp} (H : yH0 B) (X : yTx B) {e : Nat} (he : 6 ≤ e + 1) (F : Nat) (g55 : Int32 → Int32 → Int32 → Int32 → xS → Option (Int32 × xS)) (k55 : ∀ {v2 : Int32} {v3 : Int32} {v4 : Int32} {v5 : Int32} {lv : List (Nat × Value)} {m : xS} {x : Int32 × xS}, zld lv 0 = some (.ref 2) → zld lv 1 = some (.ref 1006) → zld lv 2 = some (.int v2) → zld lv 3 = some (.int v3) → zld lv 4 = some (.int v4) → zld lv 5 = some (.int v5) → g55 v2 v3 v4 v5 m = some x → zR none e 6 (some .int) zc59 (55, lv, []) (xW B m) (some (.int x.1), xW B x.2)) {v2 : Int32} {v3 : Int32} {v4 : Int32} {v5 : Int32} {lv : List (Nat × Value)} {m : xS} {x : Int32 × xS} (l0 : zld lv 0 = some (.ref 2)) (l1 : zld lv 1 = some (.ref 1006)) (l2 : zld lv 2 = some (.int v2)) (l3 : zld lv 3 = some (.int v3)) (l4 : zld lv 4 = some (.int v4)) (l5 : zld lv 5 = some (.int v5)) (h : D59_2_1006_138 F g55 v2 v3 v4 v5 m = some x) : zR none e 6 (some .int) zc59 (138, lv, []) (xW B m) (some (.int x.1), xW B x.2) := by
  unfold D59_2_1006_138 at h
  refine q_inc (i := 5) (n := 1) (q := (.iinc 5 1, 3, 0, 0, .null)) rfl (fun _ => rfl) l5 (by decide) ?_
  have l0_1 : zld (zs1 lv 5 (.int (v5 + Int32.ofInt 1))) 0 = some (.ref 2) := x_o1 l0 rfl rfl
  have l1_1 : zld (zs1 lv 5 (.int (v5 + Int32.ofInt 1))) 1 = some (.ref 1006) := x_o1 l1 rfl rfl
  have l2_1 : zld (zs1 lv 5 (.int (v5 + Int32.ofInt 1))) 2 = some (.int v2) := x_o1 l2 rfl rfl
  have l3_1 : zld (zs1 lv 5 (.int (v5 + Int32.ofInt 1))) 3 = some (.int v3) := x_o1 l3 rfl rfl
  have l4_1 : zld (zs1 lv 5 (.int (v5 + Int32.ofInt 1))) 4 = some (.int v4) := x_o1 l4 rfl rfl
  have l5_1 : zld (zs1 lv 5 (.int (v5 + Int32.ofInt 1))) 5 = some (.int (v5 + Int32.ofInt 1)) := zs1_ld _ _ _
  generalize (zs1 lv 5 (.int (v5 + Int32.ofInt 1))) = lv1 at *
  refine r_s (fr' := (55, lv1, [])) (hp' := xW B m) (q := (.goto (-86), 3, 55, 0, .null)) rfl (fun _ => rfl) (Nat.le_refl _) ?_
  exact k55 l0_1 l1_1 l2_1 l3_1 l4_1 l5_1 h
def D59_2_1006_111 (F : Nat) (g55 : Int32 → Int32 → Int32 → Int32 → xS → Option (Int32 × xS)) (v2 : Int32) (v3 : Int32) (v4 : Int32) (v5 : Int32) (w0 : Int32) (m : xS) : Option (Int32 × xS) :=
  D59_2_1006_138 F g55 v2 v3 w0 v5 m
set_option maxRecDepth 20000 in
theorem T59_2_1006_111 {B : zHp} (H : yH0 B) (X : yTx B) {e : Nat} (he : 6 ≤ e + 1) (F : Nat) (g55 : Int32 → Int32 → Int32 → Int32 → xS → Option (Int32 × xS)) (k55 : ∀ {v2 : Int32} {v3 : Int32} {v4 : Int32} {v5 : Int32} {lv : List (Nat × Value)} {m : xS} {x : Int32 × xS}, zld lv 0 = some (.ref 2) → zld lv 1 = some (.ref 1006) → zld lv 2 = some (.int v2) → zld lv 3 = some (.int v3) → zld lv 4 = some (.int v4) → zld lv 5 = some (.int v5) → g55 v2 v3 v4 v5 m = some x → zR none e 6 (some .int) zc59 (55, lv, []) (xW B m) (some (.int x.1), xW B x.2)) {v2 : Int32} {v3 : Int32} {v4 : Int32} {v5 : Int32} {w0 : Int32} {lv : List (Nat × Value)} {m : xS} {x : Int32 × xS} (l0 : zld lv 0 = some (.ref 2)) (l1 : zld lv 1 = some (.ref 1006)) (l2 : zld lv 2 = some (.int v2)) (l3 : zld lv 3 = some (.int v3)) (l4 : zld lv 4 = some (.int v4)) (l5 : zld lv 5 = some (.int v5)) (h : D59_2_1006_111 F g55 v2 v3 v4 v5 w0 m = some x) : zR none e 6 (some .int) zc59 (111, lv, [.int w0]) (xW B m) (some (.int x.1), xW B x.2) := by
  unfold D59_2_1006_111 at h
  refine q_si (k := 2) (i := 4) (q := (.istore 4, 2, 0, 0, .null)) rfl (fun _ => rfl) (by decide) ?_
  have l0_1 : zld (zs1 lv 4 (.int w0)) 0 = some (.ref 2) := x_o1 l0 rfl rfl
  have l1_1 : zld (zs1 lv 4 (.int w0)) 1 = some (.ref 1006) := x_o1 l1 rfl rfl
  have l2_1 : zld (zs1 lv 4 (.int w0)) 2 = some (.int v2) := x_o1 l2 rfl rfl
  have l3_1 : zld (zs1 lv 4 (.int w0)) 3 = some (.int v3) := x_o1 l3 rfl rfl
  have l4_1 : zld (zs1 lv 4 (.int w0)) 4 = some (.int w0) := zs1_ld _ _ _
  have l5_1 : zld (zs1 lv 4 (.int w0)) 5 = some (.int v5) := x_o1 l5 rfl rfl
  generalize (zs1 lv 4 (.int w0)) = lv1 at *
  refine r_s (fr' := (138, lv1, [])) (hp' := xW B m) (q := (.goto 25, 3, 138, 0, .null)) rfl (fun _ => rfl) (Nat.le_refl _) ?_
  exact T59_2_1006_138 H X he F _ k55 l0_1 l1_1 l2_1 l3_1 l4_1 l5_1 h
def D59_2_1006_110 (F : Nat) (g55 : Int32 → Int32 → Int32 → Int32 → xS → Option (Int32 × xS)) (v2 : Int32) (v3 : Int32) (v4 : Int32) (v5 : Int32) (m : xS) : Option (Int32 × xS) :=
  D59_2_1006_111 F g55 v2 v3 v4 v5 (-1) m
set_option maxRecDepth 20000 in
theorem T59_2_1006_110 {B : zHp} (H : yH0 B) (X : yTx B) {e : Nat} (he : 6 ≤ e + 1) (F : Nat) (g55 : Int32 → Int32 → Int32 → Int32 → xS → Option (Int32 × xS)) (k55 : ∀ {v2 : Int32} {v3 : Int32} {v4 : Int32} {v5 : Int32} {lv : List (Nat × Value)} {m : xS} {x : Int32 × xS}, zld lv 0 = some (.ref 2) → zld lv 1 = some (.ref 1006) → zld lv 2 = some (.int v2) → zld lv 3 = some (.int v3) → zld lv 4 = some (.int v4) → zld lv 5 = some (.int v5) → g55 v2 v3 v4 v5 m = some x → zR none e 6 (some .int) zc59 (55, lv, []) (xW B m) (some (.int x.1), xW B x.2)) {v2 : Int32} {v3 : Int32} {v4 : Int32} {v5 : Int32} {lv : List (Nat × Value)} {m : xS} {x : Int32 × xS} (l0 : zld lv 0 = some (.ref 2)) (l1 : zld lv 1 = some (.ref 1006)) (l2 : zld lv 2 = some (.int v2)) (l3 : zld lv 3 = some (.int v3)) (l4 : zld lv 4 = some (.int v4)) (l5 : zld lv 5 = some (.int v5)) (h : D59_2_1006_110 F g55 v2 v3 v4 v5 m = some x) : zR none e 6 (some .int) zc59 (110, lv, []) (xW B m) (some (.int x.1), xW B x.2) := by
  unfold D59_2_1006_110 at h
  refine r_s (fr' := (111, lv, [.int (-1)])) (hp' := xW B m) (q := (.iconst (-1), 1, 0, 0, .null)) rfl (fun _ => rfl) (Nat.le_refl _) ?_
  exact T59_2_1006_111 H X he F _ k55 l0 l1 l2 l3 l4 l5 h
def D59_2_1006_55 (F : Nat) : Nat → Int32 → Int32 → Int32 → Int32 → xS → Option (Int32 × xS)
  | 0, _, _, _, _, _ => none
  | f + 1, v2, v3, v4, v5, m =>
    (D281_1006 F m).bind fun q58 =>
      if zcmp .ge v5 q58.1 = true then
        some ((-1), q58.2)
      else
        (D282_1006 F v5 q58.2).bind fun q67 =>
          if zcmp .eq q67.1 32 = true then
            if zcmp .ne v4 v2 = true then
              D59_2_1006_138 F (D59_2_1006_55 F f) v2 (v3 + Int32.ofInt 1) (q67.2.1 2 3) v5 q67.2
            else
              some (v3, (xu q67.2 2 2 v2))
          else
            if zcmp .eq v4 (-1) = true then
              D59_2_1006_110 F (D59_2_1006_55 F f) v2 v3 v4 v5 q67.2
            else
              if zcmp .ge v4 v2 = true then
                D59_2_1006_110 F (D59_2_1006_55 F f) v2 v3 v4 v5 q67.2
              else
                if xib v4 400 = true then
                  (D282_1006 F v5 q67.2).bind fun q97 =>
                    if zcmp .ne (q67.2.1 1 (v4 : Int32).toNatClampNeg) q97.1 = true then
                      D59_2_1006_110 F (D59_2_1006_55 F f) v2 v3 v4 v5 q97.2
                    else
                      D59_2_1006_111 F (D59_2_1006_55 F f) v2 v3 v4 v5 (v4 + 1) q97.2
                else none
set_option maxRecDepth 20000 in
theorem T59_2_1006_55 {B : zHp} (H : yH0 B) (X : yTx B) {e : Nat} (he : 6 ≤ e + 1) (F : Nat) : ∀ (f : Nat) {v2 : Int32} {v3 : Int32} {v4 : Int32} {v5 : Int32} {lv : List (Nat × Value)} {m : xS} {x : Int32 × xS}, zld lv 0 = some (.ref 2) → zld lv 1 = some (.ref 1006) → zld lv 2 = some (.int v2) → zld lv 3 = some (.int v3) → zld lv 4 = some (.int v4) → zld lv 5 = some (.int v5) → D59_2_1006_55 F f v2 v3 v4 v5 m = some x → zR none e 6 (some .int) zc59 (55, lv, []) (xW B m) (some (.int x.1), xW B x.2) := by
  intro f
  induction f with
  | zero => intro v2 v3 v4 v5 lv m x l0 l1 l2 l3 l4 l5 h; cases h
  | succ f ih =>
    intro v2 v3 v4 v5 lv m x l0 l1 l2 l3 l4 l5 h
    unfold D59_2_1006_55 at h
    refine q_li (k := 2) (i := 5) (q := (.iload 5, 2, 0, 0, .null)) rfl (fun _ => rfl) l5 ?_
    refine q_lr (k := 1) (i := 1) (q := (.aload_n 1, 1, 0, 0, .null)) rfl (fun _ => rfl) l1 ?_
    obtain ⟨q58, h58, h⟩ := xbind h
    refine r_call (ix := 1006) (as := []) (rest := [.int v5]) (rv := some (.int q58.1)) (hp' := xW B q58.2) (pc := 58) rfl xr281 rfl rfl rfl rfl (Nat.le_of_ble_eq_true rfl) (Z281_1006 H X h58 (by omega)) (Nat.le_refl _) ?_
    refine r_ifc (len := 3) (a := 144) (b := 0) (v0 := .null) (cn := .ge) (off := 83) rfl (fun c => ?_) (fun c => ?_)
    · rw [if_pos c] at h
      refine r_s (fr' := (145, lv, [.int (-1)])) (hp' := xW B q58.2) (q := (.iconst (-1), 1, 0, 0, .null)) rfl (fun _ => rfl) (Nat.le_refl _) ?_
      obtain rfl := Option.some.inj h
      exact q_ri (q := (.ireturn, 1, 0, 0, .null)) rfl (fun _ => rfl) rfl rfl
    · rw [if_neg (by rw [c]; decide)] at h
      refine q_lr (k := 1) (i := 1) (q := (.aload_n 1, 1, 0, 0, .null)) rfl (fun _ => rfl) l1 ?_
      refine q_li (k := 2) (i := 5) (q := (.iload 5, 2, 0, 0, .null)) rfl (fun _ => rfl) l5 ?_
      obtain ⟨q67, h67, h⟩ := xbind h
      refine r_call (ix := 1006) (as := [.int v5]) (rest := []) (rv := some (.int q67.1)) (hp' := xW B q67.2) (pc := 67) rfl xr282 rfl rfl rfl rfl (Nat.le_of_ble_eq_true rfl) (Z282_1006 H X h67 (by omega)) (Nat.le_refl _) ?_
      refine r_s (fr' := (72, lv, [.int 32, .int q67.1])) (hp' := xW B q67.2) (q := (.bipush 32, 2, 0, 0, .null)) rfl (fun _ => rfl) (Nat.le_refl _) ?_
      refine r_ifc (len := 3) (a := 116) (b := 0) (v0 := .null) (cn := .eq) (off := 44) rfl (fun c => ?_) (fun c => ?_)
      · rw [if_pos c] at h
        refine q_li (k := 2) (i := 4) (q := (.iload 4, 2, 0, 0, .null)) rfl (fun _ => rfl) l4 ?_
        refine q_li (k := 1) (i := 2) (q := (.iload_n 2, 1, 0, 0, .null)) rfl (fun _ => rfl) l2 ?_
        refine r_ifc (len := 3) (a := 129) (b := 0) (v0 := .null) (cn := .ne) (off := 10) rfl (fun c => ?_) (fun c => ?_)
        · rw [if_pos c] at h
          refine q_inc (i := 3) (n := 1) (q := (.iinc 3 1, 3, 0, 0, .null)) rfl (fun _ => rfl) l3 (by decide) ?_
          have l0_1 : zld (zs1 lv 3 (.int (v3 + Int32.ofInt 1))) 0 = some (.ref 2) := x_o1 l0 rfl rfl
          have l1_1 : zld (zs1 lv 3 (.int (v3 + Int32.ofInt 1))) 1 = some (.ref 1006) := x_o1 l1 rfl rfl
          have l2_1 : zld (zs1 lv 3 (.int (v3 + Int32.ofInt 1))) 2 = some (.int v2) := x_o1 l2 rfl rfl
          have l3_1 : zld (zs1 lv 3 (.int (v3 + Int32.ofInt 1))) 3 = some (.int (v3 + Int32.ofInt 1)) := zs1_ld _ _ _
          have l4_1 : zld (zs1 lv 3 (.int (v3 + Int32.ofInt 1))) 4 = some (.int v4) := x_o1 l4 rfl rfl
          have l5_1 : zld (zs1 lv 3 (.int (v3 + Int32.ofInt 1))) 5 = some (.int v5) := x_o1 l5 rfl rfl
          generalize (zs1 lv 3 (.int (v3 + Int32.ofInt 1))) = lv1 at *
          refine q_lr (k := 1) (i := 0) (q := (.aload_n 0, 1, 0, 0, .null)) rfl (fun _ => rfl) l0_1 ?_
          refine r_gi (v := (q67.2.1 2 3)) H (pc := 133) (i := _) rfl (by decide) (by decide) rfl ?_
          refine q_si (k := 2) (i := 4) (q := (.istore 4, 2, 0, 0, .null)) rfl (fun _ => rfl) (by decide) ?_
          have l0_2 : zld (zs1 lv1 4 (.int (q67.2.1 2 3))) 0 = some (.ref 2) := x_o1 l0_1 rfl rfl
          have l1_2 : zld (zs1 lv1 4 (.int (q67.2.1 2 3))) 1 = some (.ref 1006) := x_o1 l1_1 rfl rfl
          have l2_2 : zld (zs1 lv1 4 (.int (q67.2.1 2 3))) 2 = some (.int v2) := x_o1 l2_1 rfl rfl
          have l3_2 : zld (zs1 lv1 4 (.int (q67.2.1 2 3))) 3 = some (.int (v3 + Int32.ofInt 1)) := x_o1 l3_1 rfl rfl
          have l4_2 : zld (zs1 lv1 4 (.int (q67.2.1 2 3))) 4 = some (.int (q67.2.1 2 3)) := zs1_ld _ _ _
          have l5_2 : zld (zs1 lv1 4 (.int (q67.2.1 2 3))) 5 = some (.int v5) := x_o1 l5_1 rfl rfl
          generalize (zs1 lv1 4 (.int (q67.2.1 2 3))) = lv2 at *
          exact T59_2_1006_138 H X he F _ ih l0_2 l1_2 l2_2 l3_2 l4_2 l5_2 h
        · rw [if_neg (by rw [c]; decide)] at h
          refine q_lr (k := 1) (i := 0) (q := (.aload_n 0, 1, 0, 0, .null)) rfl (fun _ => rfl) l0 ?_
          refine q_li (k := 1) (i := 2) (q := (.iload_n 2, 1, 0, 0, .null)) rfl (fun _ => rfl) l2 ?_
          refine r_pi (s2 := (xu q67.2 2 2 v2)) H (pc := 124) rfl (by decide) rfl rfl ?_
          refine q_li (k := 1) (i := 3) (q := (.iload_n 3, 1, 0, 0, .null)) rfl (fun _ => rfl) l3 ?_
          obtain rfl := Option.some.inj h
          exact q_ri (q := (.ireturn, 1, 0, 0, .null)) rfl (fun _ => rfl) rfl rfl
      · rw [if_neg (by rw [c]; decide)] at h
        refine q_li (k := 2) (i := 4) (q := (.iload 4, 2, 0, 0, .null)) rfl (fun _ => rfl) l4 ?_
        refine r_s (fr' := (78, lv, [.int (-1), .int v4])) (hp' := xW B q67.2) (q := (.iconst (-1), 1, 0, 0, .null)) rfl (fun _ => rfl) (Nat.le_refl _) ?_
        refine r_ifc (len := 3) (a := 110) (b := 0) (v0 := .null) (cn := .eq) (off := 32) rfl (fun c => ?_) (fun c => ?_)
        · rw [if_pos c] at h
          exact T59_2_1006_110 H X he F _ ih l0 l1 l2 l3 l4 l5 h
        · rw [if_neg (by rw [c]; decide)] at h
          refine q_li (k := 2) (i := 4) (q := (.iload 4, 2, 0, 0, .null)) rfl (fun _ => rfl) l4 ?_
          refine q_li (k := 1) (i := 2) (q := (.iload_n 2, 1, 0, 0, .null)) rfl (fun _ => rfl) l2 ?_
          refine r_ifc (len := 3) (a := 110) (b := 0) (v0 := .null) (cn := .ge) (off := 26) rfl (fun c => ?_) (fun c => ?_)
          · rw [if_pos c] at h
            exact T59_2_1006_110 H X he F _ ih l0 l1 l2 l3 l4 l5 h
          · rw [if_neg (by rw [c]; decide)] at h
            refine q_lr (k := 1) (i := 0) (q := (.aload_n 0, 1, 0, 0, .null)) rfl (fun _ => rfl) l0 ?_
            refine r_grx H X (pc := 88) rfl ?_
            refine q_li (k := 2) (i := 4) (q := (.iload 4, 2, 0, 0, .null)) rfl (fun _ => rfl) l4 ?_
            obtain ⟨c3, h⟩ := xif h
            refine q_al (n := 400) (v := (q67.2.1 1 (v4 : Int32).toNatClampNeg)) H (pc := 93) rfl (by decide) c3 rfl ?_
            refine q_lr (k := 1) (i := 1) (q := (.aload_n 1, 1, 0, 0, .null)) rfl (fun _ => rfl) l1 ?_
            refine q_li (k := 2) (i := 5) (q := (.iload 5, 2, 0, 0, .null)) rfl (fun _ => rfl) l5 ?_
            obtain ⟨q97, h97, h⟩ := xbind h
            refine r_call (ix := 1006) (as := [.int v5]) (rest := [.int (q67.2.1 1 (v4 : Int32).toNatClampNeg)]) (rv := some (.int q97.1)) (hp' := xW B q97.2) (pc := 97) rfl xr282 rfl rfl rfl rfl (Nat.le_of_ble_eq_true rfl) (Z282_1006 H X h97 (by omega)) (Nat.le_refl _) ?_
            refine r_ifc (len := 3) (a := 110) (b := 0) (v0 := .null) (cn := .ne) (off := 10) rfl (fun c => ?_) (fun c => ?_)
            · rw [if_pos c] at h
              exact T59_2_1006_110 H X he F _ ih l0 l1 l2 l3 l4 l5 h
            · rw [if_neg (by rw [c]; decide)] at h
              refine q_li (k := 2) (i := 4) (q := (.iload 4, 2, 0, 0, .null)) rfl (fun _ => rfl) l4 ?_
              refine r_s (fr' := (106, lv, [.int 1, .int v4])) (hp' := xW B q97.2) (q := (.iconst 1, 1, 0, 0, .null)) rfl (fun _ => rfl) (Nat.le_refl _) ?_
              refine r_s (fr' := (107, lv, [.int (v4 + 1)])) (hp' := xW B q97.2) (q := (.iadd, 1, 0, 0, .null)) rfl (fun _ => rfl) (Nat.le_refl _) ?_
              refine r_s (fr' := (111, lv, [.int (v4 + 1)])) (hp' := xW B q97.2) (q := (.goto 4, 3, 111, 0, .null)) rfl (fun _ => rfl) (Nat.le_refl _) ?_
              exact T59_2_1006_111 H X he F _ ih l0 l1 l2 l3 l4 l5 h
def D59_2_1006_44 (F : Nat) (v2 : Int32) (m : xS) : Option (Int32 × xS) :=
  D59_2_1006_55 F F v2 0 (m.1 2 3) 0 m
set_option maxRecDepth 20000 in
theorem T59_2_1006_44 {B : zHp} (H : yH0 B) (X : yTx B) {e : Nat} (he : 6 ≤ e + 1) (F : Nat) {v2 : Int32} {lv : List (Nat × Value)} {m : xS} {x : Int32 × xS} (l0 : zld lv 0 = some (.ref 2)) (l1 : zld lv 1 = some (.ref 1006)) (l2 : zld lv 2 = some (.int v2)) (h : D59_2_1006_44 F v2 m = some x) : zR none e 6 (some .int) zc59 (44, lv, []) (xW B m) (some (.int x.1), xW B x.2) := by
  unfold D59_2_1006_44 at h
  refine r_s (fr' := (45, lv, [.int 0])) (hp' := xW B m) (q := (.iconst 0, 1, 0, 0, .null)) rfl (fun _ => rfl) (Nat.le_refl _) ?_
  refine q_si (k := 1) (i := 3) (q := (.istore_n 3, 1, 0, 0, .null)) rfl (fun _ => rfl) (by decide) ?_
  have l0_1 : zld (zs1 lv 3 (.int 0)) 0 = some (.ref 2) := x_o1 l0 rfl rfl
  have l1_1 : zld (zs1 lv 3 (.int 0)) 1 = some (.ref 1006) := x_o1 l1 rfl rfl
  have l2_1 : zld (zs1 lv 3 (.int 0)) 2 = some (.int v2) := x_o1 l2 rfl rfl
  have l3_1 : zld (zs1 lv 3 (.int 0)) 3 = some (.int 0) := zs1_ld _ _ _
  generalize (zs1 lv 3 (.int 0)) = lv1 at *
  refine q_lr (k := 1) (i := 0) (q := (.aload_n 0, 1, 0, 0, .null)) rfl (fun _ => rfl) l0_1 ?_
  refine r_gi (v := (m.1 2 3)) H (pc := 47) (i := _) rfl (by decide) (by decide) rfl ?_
  refine q_si (k := 2) (i := 4) (q := (.istore 4, 2, 0, 0, .null)) rfl (fun _ => rfl) (by decide) ?_
  have l0_2 : zld (zs1 lv1 4 (.int (m.1 2 3))) 0 = some (.ref 2) := x_o1 l0_1 rfl rfl
  have l1_2 : zld (zs1 lv1 4 (.int (m.1 2 3))) 1 = some (.ref 1006) := x_o1 l1_1 rfl rfl
  have l2_2 : zld (zs1 lv1 4 (.int (m.1 2 3))) 2 = some (.int v2) := x_o1 l2_1 rfl rfl
  have l3_2 : zld (zs1 lv1 4 (.int (m.1 2 3))) 3 = some (.int 0) := x_o1 l3_1 rfl rfl
  have l4_2 : zld (zs1 lv1 4 (.int (m.1 2 3))) 4 = some (.int (m.1 2 3)) := zs1_ld _ _ _
  generalize (zs1 lv1 4 (.int (m.1 2 3))) = lv2 at *
  refine r_s (fr' := (53, lv2, [.int 0])) (hp' := xW B m) (q := (.iconst 0, 1, 0, 0, .null)) rfl (fun _ => rfl) (Nat.le_refl _) ?_
  refine q_si (k := 2) (i := 5) (q := (.istore 5, 2, 0, 0, .null)) rfl (fun _ => rfl) (by decide) ?_
  have l0_3 : zld (zs1 lv2 5 (.int 0)) 0 = some (.ref 2) := x_o1 l0_2 rfl rfl
  have l1_3 : zld (zs1 lv2 5 (.int 0)) 1 = some (.ref 1006) := x_o1 l1_2 rfl rfl
  have l2_3 : zld (zs1 lv2 5 (.int 0)) 2 = some (.int v2) := x_o1 l2_2 rfl rfl
  have l3_3 : zld (zs1 lv2 5 (.int 0)) 3 = some (.int 0) := x_o1 l3_2 rfl rfl
  have l4_3 : zld (zs1 lv2 5 (.int 0)) 4 = some (.int (m.1 2 3)) := x_o1 l4_2 rfl rfl
  have l5_3 : zld (zs1 lv2 5 (.int 0)) 5 = some (.int 0) := zs1_ld _ _ _
  generalize (zs1 lv2 5 (.int 0)) = lv3 at *
  exact T59_2_1006_55 H X he F F l0_3 l1_3 l2_3 l3_3 l4_3 l5_3 h
def D59_2_1006_18 (F : Nat) : Nat → Int32 → xS → Option (Int32 × xS)
  | 0, _, _ => none
  | f + 1, v2, m =>
    if zcmp .ge v2 (m.1 2 1) = true then
      D59_2_1006_44 F v2 m
    else
      if xib v2 400 = true then
        (D57 F (m.1 1 (v2 : Int32).toNatClampNeg) m).bind fun q32 =>
          if zcmp .eq q32.1 0 = true then
            D59_2_1006_44 F v2 q32.2
          else
            D59_2_1006_18 F f (v2 + Int32.ofInt 1) q32.2
      else none
set_option maxRecDepth 20000 in
theorem T59_2_1006_18 {B : zHp} (H : yH0 B) (X : yTx B) {e : Nat} (he : 6 ≤ e + 1) (F : Nat) : ∀ (f : Nat) {v2 : Int32} {lv : List (Nat × Value)} {m : xS} {x : Int32 × xS}, zld lv 0 = some (.ref 2) → zld lv 1 = some (.ref 1006) → zld lv 2 = some (.int v2) → D59_2_1006_18 F f v2 m = some x → zR none e 6 (some .int) zc59 (18, lv, []) (xW B m) (some (.int x.1), xW B x.2) := by
  intro f
  induction f with
  | zero => intro v2 lv m x l0 l1 l2 h; cases h
  | succ f ih =>
    intro v2 lv m x l0 l1 l2 h
    unfold D59_2_1006_18 at h
    refine q_li (k := 1) (i := 2) (q := (.iload_n 2, 1, 0, 0, .null)) rfl (fun _ => rfl) l2 ?_
    refine q_lr (k := 1) (i := 0) (q := (.aload_n 0, 1, 0, 0, .null)) rfl (fun _ => rfl) l0 ?_
    refine r_gi (v := (m.1 2 1)) H (pc := 20) (i := _) rfl (by decide) (by decide) rfl ?_
    refine r_ifc (len := 3) (a := 44) (b := 0) (v0 := .null) (cn := .ge) (off := 21) rfl (fun c => ?_) (fun c => ?_)
    · rw [if_pos c] at h
      exact T59_2_1006_44 H X he F l0 l1 l2 h
    · rw [if_neg (by rw [c]; decide)] at h
      refine q_lr (k := 1) (i := 0) (q := (.aload_n 0, 1, 0, 0, .null)) rfl (fun _ => rfl) l0 ?_
      refine r_grx H X (pc := 27) rfl ?_
      refine q_li (k := 1) (i := 2) (q := (.iload_n 2, 1, 0, 0, .null)) rfl (fun _ => rfl) l2 ?_
      obtain ⟨c1, h⟩ := xif h
      refine q_al (n := 400) (v := (m.1 1 (v2 : Int32).toNatClampNeg)) H (pc := 31) rfl (by decide) c1 rfl ?_
      obtain ⟨q32, h32, h⟩ := xbind h
      refine r_callS (as := [.int (m.1 1 (v2 : Int32).toNatClampNeg)]) (rest := []) (rv := some (.int q32.1)) (hp' := xW B q32.2) (pc := 32) rfl xr57 rfl rfl rfl (Nat.le_of_ble_eq_true rfl) (Z57 H X h32 (by omega)) (Nat.le_refl _) ?_
      refine r_if (len := 3) (a := 44) (b := 0) (v0 := .null) (cn := .eq) (off := 9) rfl (fun c => ?_) (fun c => ?_)
      · rw [if_pos c] at h
        exact T59_2_1006_44 H X he F l0 l1 l2 h
      · rw [if_neg (by rw [c]; decide)] at h
        refine q_inc (i := 2) (n := 1) (q := (.iinc 2 1, 3, 0, 0, .null)) rfl (fun _ => rfl) l2 (by decide) ?_
        have l0_2 : zld (zs1 lv 2 (.int (v2 + Int32.ofInt 1))) 0 = some (.ref 2) := x_o1 l0 rfl rfl
        have l1_2 : zld (zs1 lv 2 (.int (v2 + Int32.ofInt 1))) 1 = some (.ref 1006) := x_o1 l1 rfl rfl
        have l2_2 : zld (zs1 lv 2 (.int (v2 + Int32.ofInt 1))) 2 = some (.int (v2 + Int32.ofInt 1)) := zs1_ld _ _ _
        generalize (zs1 lv 2 (.int (v2 + Int32.ofInt 1))) = lv2 at *
        refine r_s (fr' := (18, lv2, [])) (hp' := xW B q32.2) (q := (.goto (-23), 3, 18, 0, .null)) rfl (fun _ => rfl) (Nat.le_refl _) ?_
        exact ih l0_2 l1_2 l2_2 h
def D59_2_1006 (F : Nat) (m : xS) : Option (Int32 × xS) :=
  (D53_2 F m).bind fun q1 =>
    D59_2_1006_18 F F (q1.2.1 2 2) (xu q1.2 2 3 (q1.2.1 2 2))
set_option maxRecDepth 20000 in
theorem T59_2_1006 {B : zHp} (H : yH0 B) (X : yTx B) {e : Nat} (he : 6 ≤ e + 1) (F : Nat) {lv : List (Nat × Value)} {m : xS} {x : Int32 × xS} (l0 : zld lv 0 = some (.ref 2)) (l1 : zld lv 1 = some (.ref 1006)) (h : D59_2_1006 F m = some x) : zR none e 6 (some .int) zc59 (0, lv, []) (xW B m) (some (.int x.1), xW B x.2) := by
  unfold D59_2_1006 at h
  refine q_lr (k := 1) (i := 0) (q := (.aload_n 0, 1, 0, 0, .null)) rfl (fun _ => rfl) l0 ?_
  obtain ⟨q1, h1, h⟩ := xbind h
  refine r_call (ix := 2) (as := []) (rest := []) (rv := some (.int q1.1)) (hp' := xW B q1.2) (pc := 1) rfl xr53 rfl rfl rfl (xkd H (by decide)) (Nat.le_of_ble_eq_true rfl) (Z53_2 H X h1 (by omega)) (Nat.le_refl _) ?_
  refine r_s (fr' := (5, lv, [])) (hp' := xW B q1.2) (q := (.pop, 1, 0, 0, .null)) rfl (fun _ => rfl) (Nat.le_refl _) ?_
  refine q_lr (k := 1) (i := 0) (q := (.aload_n 0, 1, 0, 0, .null)) rfl (fun _ => rfl) l0 ?_
  refine q_lr (k := 1) (i := 0) (q := (.aload_n 0, 1, 0, 0, .null)) rfl (fun _ => rfl) l0 ?_
  refine r_gi (v := (q1.2.1 2 2)) H (pc := 7) (i := _) rfl (by decide) (by decide) rfl ?_
  refine r_pi (s2 := (xu q1.2 2 3 (q1.2.1 2 2))) H (pc := 10) rfl (by decide) rfl rfl ?_
  refine q_lr (k := 1) (i := 0) (q := (.aload_n 0, 1, 0, 0, .null)) rfl (fun _ => rfl) l0 ?_
  refine r_gi (v := (q1.2.1 2 2)) H (pc := 14) (i := _) rfl (by decide) (by decide) rfl ?_
  refine q_si (k := 1) (i := 2) (q := (.istore_n 2, 1, 0, 0, .null)) rfl (fun _ => rfl) (by decide) ?_
  have l0_1 : zld (zs1 lv 2 (.int (q1.2.1 2 2))) 0 = some (.ref 2) := x_o1 l0 rfl rfl
  have l1_1 : zld (zs1 lv 2 (.int (q1.2.1 2 2))) 1 = some (.ref 1006) := x_o1 l1 rfl rfl
  have l2_1 : zld (zs1 lv 2 (.int (q1.2.1 2 2))) 2 = some (.int (q1.2.1 2 2)) := zs1_ld _ _ _
  generalize (zs1 lv 2 (.int (q1.2.1 2 2))) = lv1 at *
  exact T59_2_1006_18 H X he F F l0_1 l1_1 l2_1 h
set_option maxRecDepth 20000 in
theorem Z59_2_1006 {B : zHp} (H : yH0 B) (X : yTx B) {F : Nat} {m : xS} {x : Int32 × xS} (h : D59_2_1006 F m = some x) {d : Nat} (hd : 6 ≤ d) : zCan d 59 [.ref 2, .ref 1006] (xW B m) (some (.int x.1), xW B x.2) := by
  obtain ⟨e, rfl⟩ : ∃ e, d = e + 1 := ⟨d - 1, by omega⟩
  refine zCan_body (nL := 6) (rt := (some .int)) (cd := zc59) (xg59) ⟨Nat.le_of_ble_eq_true rfl, by decide⟩ (Nat.le_refl _) ?_
  exact T59_2_1006 H X hd F rfl rfl h
/-- LentTools$RuleReader.closeBracket -/
def D43_6_22 (F : Nat) (m : xS) : Option (Unit × xS) :=
  some ((), (xu (xu (xu m 6 7 ((m.1 6 7) - 1)) 6 6 ((m.1 6 6) - 1)) 6 9 3))
set_option maxRecDepth 20000 in
theorem T43_6_22 {B : zHp} (H : yH0 B) (X : yTx B) {e : Nat} (he : 3 ≤ e + 1) (F : Nat) {lv : List (Nat × Value)} {m : xS} {x : Unit × xS} (l0 : zld lv 0 = some (.ref 6)) (h : D43_6_22 F m = some x) : zR none e 1 none zc43 (22, lv, []) (xW B m) (none, xW B x.2) := by
  unfold D43_6_22 at h
  refine q_lr (k := 1) (i := 0) (q := (.aload_n 0, 1, 0, 0, .null)) rfl (fun _ => rfl) l0 ?_
  refine r_s (fr' := (24, lv, [.ref 6, .ref 6])) (hp' := xW B m) (q := (.dup, 1, 0, 0, .null)) rfl (fun _ => rfl) (Nat.le_refl _) ?_
  refine r_gi (v := (m.1 6 7)) H (pc := 24) (i := _) rfl (by decide) (by decide) rfl ?_
  refine r_s (fr' := (28, lv, [.int 1, .int (m.1 6 7), .ref 6])) (hp' := xW B m) (q := (.iconst 1, 1, 0, 0, .null)) rfl (fun _ => rfl) (Nat.le_refl _) ?_
  refine r_s (fr' := (29, lv, [.int ((m.1 6 7) - 1), .ref 6])) (hp' := xW B m) (q := (.isub, 1, 0, 0, .null)) rfl (fun _ => rfl) (Nat.le_refl _) ?_
  refine r_pi (s2 := (xu m 6 7 ((m.1 6 7) - 1))) H (pc := 29) rfl (by decide) rfl rfl ?_
  refine q_lr (k := 1) (i := 0) (q := (.aload_n 0, 1, 0, 0, .null)) rfl (fun _ => rfl) l0 ?_
  refine r_s (fr' := (34, lv, [.ref 6, .ref 6])) (hp' := xW B (xu m 6 7 ((m.1 6 7) - 1))) (q := (.dup, 1, 0, 0, .null)) rfl (fun _ => rfl) (Nat.le_refl _) ?_
  refine r_gi (v := (m.1 6 6)) H (pc := 34) (i := _) rfl (by decide) (by decide) rfl ?_
  refine r_s (fr' := (38, lv, [.int 1, .int (m.1 6 6), .ref 6])) (hp' := xW B (xu m 6 7 ((m.1 6 7) - 1))) (q := (.iconst 1, 1, 0, 0, .null)) rfl (fun _ => rfl) (Nat.le_refl _) ?_
  refine r_s (fr' := (39, lv, [.int ((m.1 6 6) - 1), .ref 6])) (hp' := xW B (xu m 6 7 ((m.1 6 7) - 1))) (q := (.isub, 1, 0, 0, .null)) rfl (fun _ => rfl) (Nat.le_refl _) ?_
  refine r_pi (s2 := (xu (xu m 6 7 ((m.1 6 7) - 1)) 6 6 ((m.1 6 6) - 1))) H (pc := 39) rfl (by decide) rfl rfl ?_
  refine q_lr (k := 1) (i := 0) (q := (.aload_n 0, 1, 0, 0, .null)) rfl (fun _ => rfl) l0 ?_
  refine r_s (fr' := (44, lv, [.int 3, .ref 6])) (hp' := xW B (xu (xu m 6 7 ((m.1 6 7) - 1)) 6 6 ((m.1 6 6) - 1))) (q := (.iconst 3, 1, 0, 0, .null)) rfl (fun _ => rfl) (Nat.le_refl _) ?_
  refine r_pi (s2 := (xu (xu (xu m 6 7 ((m.1 6 7) - 1)) 6 6 ((m.1 6 6) - 1)) 6 9 3)) H (pc := 44) rfl (by decide) rfl rfl ?_
  obtain rfl := Option.some.inj h
  exact r_ret (q := (.return_, 1, 0, 0, .null)) rfl rfl (fun _ => rfl)
def D43_6 (F : Nat) (m : xS) : Option (Unit × xS) :=
  (D46_6 F 1 m).bind fun q2 =>
    if zcmp .le (q2.2.1 6 3) 0 = true then
      D43_6_22 F q2.2
    else
      D43_6_22 F (xu q2.2 6 3 ((q2.2.1 6 3) - 1))
set_option maxRecDepth 20000 in
theorem T43_6 {B : zHp} (H : yH0 B) (X : yTx B) {e : Nat} (he : 3 ≤ e + 1) (F : Nat) {lv : List (Nat × Value)} {m : xS} {x : Unit × xS} (l0 : zld lv 0 = some (.ref 6)) (h : D43_6 F m = some x) : zR none e 1 none zc43 (0, lv, []) (xW B m) (none, xW B x.2) := by
  unfold D43_6 at h
  refine q_lr (k := 1) (i := 0) (q := (.aload_n 0, 1, 0, 0, .null)) rfl (fun _ => rfl) l0 ?_
  refine r_s (fr' := (2, lv, [.int 1, .ref 6])) (hp' := xW B m) (q := (.iconst 1, 1, 0, 0, .null)) rfl (fun _ => rfl) (Nat.le_refl _) ?_
  obtain ⟨q2, h2, h⟩ := xbind h
  refine r_call (ix := 6) (as := [.int 1]) (rest := []) (rv := none) (hp' := xW B q2.2) (pc := 2) rfl xr46 rfl rfl rfl (xkd H (by decide)) (Nat.le_of_ble_eq_true rfl) (Z46_6 H X h2 (by omega)) (Nat.le_refl _) ?_
  refine q_lr (k := 1) (i := 0) (q := (.aload_n 0, 1, 0, 0, .null)) rfl (fun _ => rfl) l0 ?_
  refine r_gi (v := (q2.2.1 6 3)) H (pc := 6) (i := _) rfl (by decide) (by decide) rfl ?_
  refine r_if (len := 3) (a := 22) (b := 0) (v0 := .null) (cn := .le) (off := 13) rfl (fun c => ?_) (fun c => ?_)
  · rw [if_pos c] at h
    exact T43_6_22 H X he F l0 h
  · rw [if_neg (by rw [c]; decide)] at h
    refine q_lr (k := 1) (i := 0) (q := (.aload_n 0, 1, 0, 0, .null)) rfl (fun _ => rfl) l0 ?_
    refine r_s (fr' := (14, lv, [.ref 6, .ref 6])) (hp' := xW B q2.2) (q := (.dup, 1, 0, 0, .null)) rfl (fun _ => rfl) (Nat.le_refl _) ?_
    refine r_gi (v := (q2.2.1 6 3)) H (pc := 14) (i := _) rfl (by decide) (by decide) rfl ?_
    refine r_s (fr' := (18, lv, [.int 1, .int (q2.2.1 6 3), .ref 6])) (hp' := xW B q2.2) (q := (.iconst 1, 1, 0, 0, .null)) rfl (fun _ => rfl) (Nat.le_refl _) ?_
    refine r_s (fr' := (19, lv, [.int ((q2.2.1 6 3) - 1), .ref 6])) (hp' := xW B q2.2) (q := (.isub, 1, 0, 0, .null)) rfl (fun _ => rfl) (Nat.le_refl _) ?_
    refine r_pi (s2 := (xu q2.2 6 3 ((q2.2.1 6 3) - 1))) H (pc := 19) rfl (by decide) rfl rfl ?_
    exact T43_6_22 H X he F l0 h
set_option maxRecDepth 20000 in
theorem Z43_6 {B : zHp} (H : yH0 B) (X : yTx B) {F : Nat} {m : xS} {x : Unit × xS} (h : D43_6 F m = some x) {d : Nat} (hd : 3 ≤ d) : zCan d 43 [.ref 6] (xW B m) (none, xW B x.2) := by
  obtain ⟨e, rfl⟩ : ∃ e, d = e + 1 := ⟨d - 1, by omega⟩
  refine zCan_body (nL := 1) (rt := none) (cd := zc43) (xg43) ⟨Nat.le_of_ble_eq_true rfl, by decide⟩ (Nat.le_refl _) ?_
  exact T43_6 H X hd F rfl h
/-- LentTools$RuleReader.endFact -/
def D42_6_2_22 (F : Nat) (v2 : Int32) (w0 : Int32) (m : xS) : Option (Unit × xS) :=
  (D45_6 F w0 m).bind fun q22 =>
    some ((), (xu q22.2 6 8 1))
set_option maxRecDepth 20000 in
theorem T42_6_2_22 {B : zHp} (H : yH0 B) (X : yTx B) {e : Nat} (he : 7 ≤ e + 1) (F : Nat) {v2 : Int32} {w0 : Int32} {lv : List (Nat × Value)} {m : xS} {x : Unit × xS} (l0 : zld lv 0 = some (.ref 6)) (l1 : zld lv 1 = some (.ref 2)) (l2 : zld lv 2 = some (.int v2)) (h : D42_6_2_22 F v2 w0 m = some x) : zR none e 3 none zc42 (22, lv, [.int w0, .ref 6]) (xW B m) (none, xW B x.2) := by
  unfold D42_6_2_22 at h
  obtain ⟨q22, h22, h⟩ := xbind h
  refine r_call (ix := 6) (as := [.int w0]) (rest := []) (rv := none) (hp' := xW B q22.2) (pc := 22) rfl xr45 rfl rfl rfl (xkd H (by decide)) (Nat.le_of_ble_eq_true rfl) (Z45_6 H X h22 (by omega)) (Nat.le_refl _) ?_
  refine q_lr (k := 1) (i := 0) (q := (.aload_n 0, 1, 0, 0, .null)) rfl (fun _ => rfl) l0 ?_
  refine r_s (fr' := (27, lv, [.int 1, .ref 6])) (hp' := xW B q22.2) (q := (.iconst 1, 1, 0, 0, .null)) rfl (fun _ => rfl) (Nat.le_refl _) ?_
  refine r_pi (s2 := (xu q22.2 6 8 1)) H (pc := 27) rfl (by decide) rfl rfl ?_
  refine r_s (fr' := (79, lv, [])) (hp' := xW B (xu q22.2 6 8 1)) (q := (.goto 49, 3, 79, 0, .null)) rfl (fun _ => rfl) (Nat.le_refl _) ?_
  obtain rfl := Option.some.inj h
  exact r_ret (q := (.return_, 1, 0, 0, .null)) rfl rfl (fun _ => rfl)
def D42_6_2 (F : Nat) (m : xS) : Option (Unit × xS) :=
  (D59_2_1006 F m).bind fun q3 =>
    if zcmp .eq q3.1 (-1) = true then
      if zcmp .ne (q3.2.1 6 7) 0 = true then
        (D53_2 F q3.2).bind fun q51 =>
          if zcmp .ne q51.1 93 = true then
            (D52_2 F (q51.2.1 2 2) 0 q51.2).bind fun q76 =>
              some ((), q76.2)
          else
            (D54_2 F q51.2).bind fun q60 =>
              (D43_6 F q60.2).bind fun q64 =>
                some ((), q64.2)
      else
        (D44_6_2 F 15 q3.2).bind fun q44 =>
          some ((), q44.2)
    else
      if zcmp .ne q3.1 0 = true then
        D42_6_2_22 F q3.1 1 q3.2
      else
        D42_6_2_22 F q3.1 2 q3.2
set_option maxRecDepth 20000 in
theorem T42_6_2 {B : zHp} (H : yH0 B) (X : yTx B) {e : Nat} (he : 7 ≤ e + 1) (F : Nat) {lv : List (Nat × Value)} {m : xS} {x : Unit × xS} (l0 : zld lv 0 = some (.ref 6)) (l1 : zld lv 1 = some (.ref 2)) (h : D42_6_2 F m = some x) : zR none e 3 none zc42 (0, lv, []) (xW B m) (none, xW B x.2) := by
  unfold D42_6_2 at h
  refine q_lr (k := 1) (i := 1) (q := (.aload_n 1, 1, 0, 0, .null)) rfl (fun _ => rfl) l1 ?_
  refine r_s (fr' := (3, lv, [.ref 1006, .ref 2])) (hp' := xW B m) (q := (.ldc 150, 2, 6, 0, .ref 1006)) rfl (fun _ => rfl) (Nat.le_refl _) ?_
  obtain ⟨q3, h3, h⟩ := xbind h
  refine r_call (ix := 2) (as := [.ref 1006]) (rest := []) (rv := some (.int q3.1)) (hp' := xW B q3.2) (pc := 3) rfl xr59 rfl rfl rfl (xkd H (by decide)) (Nat.le_of_ble_eq_true rfl) (Z59_2_1006 H X h3 (by omega)) (Nat.le_refl _) ?_
  refine q_si (k := 1) (i := 2) (q := (.istore_n 2, 1, 0, 0, .null)) rfl (fun _ => rfl) (by decide) ?_
  have l0_1 : zld (zs1 lv 2 (.int q3.1)) 0 = some (.ref 6) := x_o1 l0 rfl rfl
  have l1_1 : zld (zs1 lv 2 (.int q3.1)) 1 = some (.ref 2) := x_o1 l1 rfl rfl
  have l2_1 : zld (zs1 lv 2 (.int q3.1)) 2 = some (.int q3.1) := zs1_ld _ _ _
  generalize (zs1 lv 2 (.int q3.1)) = lv1 at *
  refine q_li (k := 1) (i := 2) (q := (.iload_n 2, 1, 0, 0, .null)) rfl (fun _ => rfl) l2_1 ?_
  refine r_s (fr' := (9, lv1, [.int (-1), .int q3.1])) (hp' := xW B q3.2) (q := (.iconst (-1), 1, 0, 0, .null)) rfl (fun _ => rfl) (Nat.le_refl _) ?_
  refine r_ifc (len := 3) (a := 33) (b := 0) (v0 := .null) (cn := .eq) (off := 24) rfl (fun c => ?_) (fun c => ?_)
  · rw [if_pos c] at h
    refine q_lr (k := 1) (i := 0) (q := (.aload_n 0, 1, 0, 0, .null)) rfl (fun _ => rfl) l0_1 ?_
    refine r_gi (v := (q3.2.1 6 7)) H (pc := 34) (i := _) rfl (by decide) (by decide) rfl ?_
    refine r_if (len := 3) (a := 50) (b := 0) (v0 := .null) (cn := .ne) (off := 13) rfl (fun c => ?_) (fun c => ?_)
    · rw [if_pos c] at h
      refine q_lr (k := 1) (i := 1) (q := (.aload_n 1, 1, 0, 0, .null)) rfl (fun _ => rfl) l1_1 ?_
      obtain ⟨q51, h51, h⟩ := xbind h
      refine r_call (ix := 2) (as := []) (rest := []) (rv := some (.int q51.1)) (hp' := xW B q51.2) (pc := 51) rfl xr53 rfl rfl rfl (xkd H (by decide)) (Nat.le_of_ble_eq_true rfl) (Z53_2 H X h51 (by omega)) (Nat.le_refl _) ?_
      refine r_s (fr' := (56, lv1, [.int 93, .int q51.1])) (hp' := xW B q51.2) (q := (.bipush 93, 2, 0, 0, .null)) rfl (fun _ => rfl) (Nat.le_refl _) ?_
      refine r_ifc (len := 3) (a := 70) (b := 0) (v0 := .null) (cn := .ne) (off := 14) rfl (fun c => ?_) (fun c => ?_)
      · rw [if_pos c] at h
        refine q_lr (k := 1) (i := 1) (q := (.aload_n 1, 1, 0, 0, .null)) rfl (fun _ => rfl) l1_1 ?_
        refine q_lr (k := 1) (i := 1) (q := (.aload_n 1, 1, 0, 0, .null)) rfl (fun _ => rfl) l1_1 ?_
        refine r_gi (v := (q51.2.1 2 2)) H (pc := 72) (i := _) rfl (by decide) (by decide) rfl ?_
        refine r_s (fr' := (76, lv1, [.int 0, .int (q51.2.1 2 2), .ref 2])) (hp' := xW B q51.2) (q := (.iconst 0, 1, 0, 0, .null)) rfl (fun _ => rfl) (Nat.le_refl _) ?_
        obtain ⟨q76, h76, h⟩ := xbind h
        refine r_call (ix := 2) (as := [.int (q51.2.1 2 2), .int 0]) (rest := []) (rv := none) (hp' := xW B q76.2) (pc := 76) rfl xr52 rfl rfl rfl (xkd H (by decide)) (Nat.le_of_ble_eq_true rfl) (Z52_2 H X h76 (by omega)) (Nat.le_refl _) ?_
        obtain rfl := Option.some.inj h
        exact r_ret (q := (.return_, 1, 0, 0, .null)) rfl rfl (fun _ => rfl)
      · rw [if_neg (by rw [c]; decide)] at h
        refine q_lr (k := 1) (i := 1) (q := (.aload_n 1, 1, 0, 0, .null)) rfl (fun _ => rfl) l1_1 ?_
        obtain ⟨q60, h60, h⟩ := xbind h
        refine r_call (ix := 2) (as := []) (rest := []) (rv := none) (hp' := xW B q60.2) (pc := 60) rfl xr54 rfl rfl rfl (xkd H (by decide)) (Nat.le_of_ble_eq_true rfl) (Z54_2 H X h60 (by omega)) (Nat.le_refl _) ?_
        refine q_lr (k := 1) (i := 0) (q := (.aload_n 0, 1, 0, 0, .null)) rfl (fun _ => rfl) l0_1 ?_
        obtain ⟨q64, h64, h⟩ := xbind h
        refine r_call (ix := 6) (as := []) (rest := []) (rv := none) (hp' := xW B q64.2) (pc := 64) rfl xr43 rfl rfl rfl (xkd H (by decide)) (Nat.le_of_ble_eq_true rfl) (Z43_6 H X h64 (by omega)) (Nat.le_refl _) ?_
        refine r_s (fr' := (79, lv1, [])) (hp' := xW B q64.2) (q := (.goto 12, 3, 79, 0, .null)) rfl (fun _ => rfl) (Nat.le_refl _) ?_
        obtain rfl := Option.some.inj h
        exact r_ret (q := (.return_, 1, 0, 0, .null)) rfl rfl (fun _ => rfl)
    · rw [if_neg (by rw [c]; decide)] at h
      refine q_lr (k := 1) (i := 0) (q := (.aload_n 0, 1, 0, 0, .null)) rfl (fun _ => rfl) l0_1 ?_
      refine q_lr (k := 1) (i := 1) (q := (.aload_n 1, 1, 0, 0, .null)) rfl (fun _ => rfl) l1_1 ?_
      refine r_s (fr' := (44, lv1, [.int 15, .ref 2, .ref 6])) (hp' := xW B q3.2) (q := (.bipush 15, 2, 0, 0, .null)) rfl (fun _ => rfl) (Nat.le_refl _) ?_
      obtain ⟨q44, h44, h⟩ := xbind h
      refine r_call (ix := 6) (as := [.ref 2, .int 15]) (rest := []) (rv := none) (hp' := xW B q44.2) (pc := 44) rfl xr44 rfl rfl rfl (xkd H (by decide)) (Nat.le_of_ble_eq_true rfl) (Z44_6_2 H X h44 (by omega)) (Nat.le_refl _) ?_
      refine r_s (fr' := (79, lv1, [])) (hp' := xW B q44.2) (q := (.goto 32, 3, 79, 0, .null)) rfl (fun _ => rfl) (Nat.le_refl _) ?_
      obtain rfl := Option.some.inj h
      exact r_ret (q := (.return_, 1, 0, 0, .null)) rfl rfl (fun _ => rfl)
  · rw [if_neg (by rw [c]; decide)] at h
    refine q_lr (k := 1) (i := 0) (q := (.aload_n 0, 1, 0, 0, .null)) rfl (fun _ => rfl) l0_1 ?_
    refine q_li (k := 1) (i := 2) (q := (.iload_n 2, 1, 0, 0, .null)) rfl (fun _ => rfl) l2_1 ?_
    refine r_if (len := 3) (a := 21) (b := 0) (v0 := .null) (cn := .ne) (off := 7) rfl (fun c => ?_) (fun c => ?_)
    · rw [if_pos c] at h
      refine r_s (fr' := (22, lv1, [.int 1, .ref 6])) (hp' := xW B q3.2) (q := (.iconst 1, 1, 0, 0, .null)) rfl (fun _ => rfl) (Nat.le_refl _) ?_
      exact T42_6_2_22 H X he F l0_1 l1_1 l2_1 h
    · rw [if_neg (by rw [c]; decide)] at h
      refine r_s (fr' := (18, lv1, [.int 2, .ref 6])) (hp' := xW B q3.2) (q := (.iconst 2, 1, 0, 0, .null)) rfl (fun _ => rfl) (Nat.le_refl _) ?_
      refine r_s (fr' := (22, lv1, [.int 2, .ref 6])) (hp' := xW B q3.2) (q := (.goto 4, 3, 22, 0, .null)) rfl (fun _ => rfl) (Nat.le_refl _) ?_
      exact T42_6_2_22 H X he F l0_1 l1_1 l2_1 h
set_option maxRecDepth 20000 in
theorem Z42_6_2 {B : zHp} (H : yH0 B) (X : yTx B) {F : Nat} {m : xS} {x : Unit × xS} (h : D42_6_2 F m = some x) {d : Nat} (hd : 7 ≤ d) : zCan d 42 [.ref 6, .ref 2] (xW B m) (none, xW B x.2) := by
  obtain ⟨e, rfl⟩ : ∃ e, d = e + 1 := ⟨d - 1, by omega⟩
  refine zCan_body (nL := 3) (rt := none) (cd := zc42) (xg42) ⟨Nat.le_of_ble_eq_true rfl, by decide⟩ (Nat.le_refl _) ?_
  exact T42_6_2 H X hd F rfl rfl h
/-- LentTools$RuleReader.readJoint -/
def D38_6_2_19 (F : Nat) (w0 : Int32) (m : xS) : Option (Unit × xS) :=
  if zcmp .eq w0 (-1) = true then
    if zcmp .ne (m.1 6 9) 0 = true then
      if zcmp .ne (m.1 6 9) 1 = true then
        (D42_6_2 F m).bind fun q75 =>
          some ((), q75.2)
      else
        (D41_6_2 F m).bind fun q67 =>
          some ((), q67.2)
    else
      (D40_6_2 F m).bind fun q51 =>
        some ((), q51.2)
  else
    (D54_2 F m).bind fun q26 =>
      (D45_6 F w0 q26.2).bind fun q31 =>
        some ((), (xu q31.2 6 8 2))
set_option maxRecDepth 20000 in
theorem T38_6_2_19 {B : zHp} (H : yH0 B) (X : yTx B) {e : Nat} (he : 8 ≤ e + 1) (F : Nat) {w0 : Int32} {lv : List (Nat × Value)} {m : xS} {x : Unit × xS} (l0 : zld lv 0 = some (.ref 6)) (l1 : zld lv 1 = some (.ref 2)) (h : D38_6_2_19 F w0 m = some x) : zR none e 3 none zc38 (19, lv, [.int w0]) (xW B m) (none, xW B x.2) := by
  unfold D38_6_2_19 at h
  refine q_si (k := 1) (i := 2) (q := (.istore_n 2, 1, 0, 0, .null)) rfl (fun _ => rfl) (by decide) ?_
  have l0_1 : zld (zs1 lv 2 (.int w0)) 0 = some (.ref 6) := x_o1 l0 rfl rfl
  have l1_1 : zld (zs1 lv 2 (.int w0)) 1 = some (.ref 2) := x_o1 l1 rfl rfl
  have l2_1 : zld (zs1 lv 2 (.int w0)) 2 = some (.int w0) := zs1_ld _ _ _
  generalize (zs1 lv 2 (.int w0)) = lv1 at *
  refine q_li (k := 1) (i := 2) (q := (.iload_n 2, 1, 0, 0, .null)) rfl (fun _ => rfl) l2_1 ?_
  refine r_s (fr' := (22, lv1, [.int (-1), .int w0])) (hp' := xW B m) (q := (.iconst (-1), 1, 0, 0, .null)) rfl (fun _ => rfl) (Nat.le_refl _) ?_
  refine r_ifc (len := 3) (a := 42) (b := 0) (v0 := .null) (cn := .eq) (off := 20) rfl (fun c => ?_) (fun c => ?_)
  · rw [if_pos c] at h
    refine q_lr (k := 1) (i := 0) (q := (.aload_n 0, 1, 0, 0, .null)) rfl (fun _ => rfl) l0_1 ?_
    refine r_gi (v := (m.1 6 9)) H (pc := 43) (i := _) rfl (by decide) (by decide) rfl ?_
    refine r_if (len := 3) (a := 57) (b := 0) (v0 := .null) (cn := .ne) (off := 11) rfl (fun c => ?_) (fun c => ?_)
    · rw [if_pos c] at h
      refine q_lr (k := 1) (i := 0) (q := (.aload_n 0, 1, 0, 0, .null)) rfl (fun _ => rfl) l0_1 ?_
      refine r_gi (v := (m.1 6 9)) H (pc := 58) (i := _) rfl (by decide) (by decide) rfl ?_
      refine r_s (fr' := (62, lv1, [.int 1, .int (m.1 6 9)])) (hp' := xW B m) (q := (.iconst 1, 1, 0, 0, .null)) rfl (fun _ => rfl) (Nat.le_refl _) ?_
      refine r_ifc (len := 3) (a := 73) (b := 0) (v0 := .null) (cn := .ne) (off := 11) rfl (fun c => ?_) (fun c => ?_)
      · rw [if_pos c] at h
        refine q_lr (k := 1) (i := 0) (q := (.aload_n 0, 1, 0, 0, .null)) rfl (fun _ => rfl) l0_1 ?_
        refine q_lr (k := 1) (i := 1) (q := (.aload_n 1, 1, 0, 0, .null)) rfl (fun _ => rfl) l1_1 ?_
        obtain ⟨q75, h75, h⟩ := xbind h
        refine r_call (ix := 6) (as := [.ref 2]) (rest := []) (rv := none) (hp' := xW B q75.2) (pc := 75) rfl xr42 rfl rfl rfl (xkd H (by decide)) (Nat.le_of_ble_eq_true rfl) (Z42_6_2 H X h75 (by omega)) (Nat.le_refl _) ?_
        obtain rfl := Option.some.inj h
        exact r_ret (q := (.return_, 1, 0, 0, .null)) rfl rfl (fun _ => rfl)
      · rw [if_neg (by rw [c]; decide)] at h
        refine q_lr (k := 1) (i := 0) (q := (.aload_n 0, 1, 0, 0, .null)) rfl (fun _ => rfl) l0_1 ?_
        refine q_lr (k := 1) (i := 1) (q := (.aload_n 1, 1, 0, 0, .null)) rfl (fun _ => rfl) l1_1 ?_
        obtain ⟨q67, h67, h⟩ := xbind h
        refine r_call (ix := 6) (as := [.ref 2]) (rest := []) (rv := none) (hp' := xW B q67.2) (pc := 67) rfl xr41 rfl rfl rfl (xkd H (by decide)) (Nat.le_of_ble_eq_true rfl) (Z41_6_2 H X h67 (by omega)) (Nat.le_refl _) ?_
        refine r_s (fr' := (78, lv1, [])) (hp' := xW B q67.2) (q := (.goto 8, 3, 78, 0, .null)) rfl (fun _ => rfl) (Nat.le_refl _) ?_
        obtain rfl := Option.some.inj h
        exact r_ret (q := (.return_, 1, 0, 0, .null)) rfl rfl (fun _ => rfl)
    · rw [if_neg (by rw [c]; decide)] at h
      refine q_lr (k := 1) (i := 0) (q := (.aload_n 0, 1, 0, 0, .null)) rfl (fun _ => rfl) l0_1 ?_
      refine q_lr (k := 1) (i := 1) (q := (.aload_n 1, 1, 0, 0, .null)) rfl (fun _ => rfl) l1_1 ?_
      obtain ⟨q51, h51, h⟩ := xbind h
      refine r_call (ix := 6) (as := [.ref 2]) (rest := []) (rv := none) (hp' := xW B q51.2) (pc := 51) rfl xr40 rfl rfl rfl (xkd H (by decide)) (Nat.le_of_ble_eq_true rfl) (Z40_6_2 H X h51 (by omega)) (Nat.le_refl _) ?_
      refine r_s (fr' := (78, lv1, [])) (hp' := xW B q51.2) (q := (.goto 24, 3, 78, 0, .null)) rfl (fun _ => rfl) (Nat.le_refl _) ?_
      obtain rfl := Option.some.inj h
      exact r_ret (q := (.return_, 1, 0, 0, .null)) rfl rfl (fun _ => rfl)
  · rw [if_neg (by rw [c]; decide)] at h
    refine q_lr (k := 1) (i := 1) (q := (.aload_n 1, 1, 0, 0, .null)) rfl (fun _ => rfl) l1_1 ?_
    obtain ⟨q26, h26, h⟩ := xbind h
    refine r_call (ix := 2) (as := []) (rest := []) (rv := none) (hp' := xW B q26.2) (pc := 26) rfl xr54 rfl rfl rfl (xkd H (by decide)) (Nat.le_of_ble_eq_true rfl) (Z54_2 H X h26 (by omega)) (Nat.le_refl _) ?_
    refine q_lr (k := 1) (i := 0) (q := (.aload_n 0, 1, 0, 0, .null)) rfl (fun _ => rfl) l0_1 ?_
    refine q_li (k := 1) (i := 2) (q := (.iload_n 2, 1, 0, 0, .null)) rfl (fun _ => rfl) l2_1 ?_
    obtain ⟨q31, h31, h⟩ := xbind h
    refine r_call (ix := 6) (as := [.int w0]) (rest := []) (rv := none) (hp' := xW B q31.2) (pc := 31) rfl xr45 rfl rfl rfl (xkd H (by decide)) (Nat.le_of_ble_eq_true rfl) (Z45_6 H X h31 (by omega)) (Nat.le_refl _) ?_
    refine q_lr (k := 1) (i := 0) (q := (.aload_n 0, 1, 0, 0, .null)) rfl (fun _ => rfl) l0_1 ?_
    refine r_s (fr' := (36, lv1, [.int 2, .ref 6])) (hp' := xW B q31.2) (q := (.iconst 2, 1, 0, 0, .null)) rfl (fun _ => rfl) (Nat.le_refl _) ?_
    refine r_pi (s2 := (xu q31.2 6 8 2)) H (pc := 36) rfl (by decide) rfl rfl ?_
    refine r_s (fr' := (78, lv1, [])) (hp' := xW B (xu q31.2 6 8 2)) (q := (.goto 39, 3, 78, 0, .null)) rfl (fun _ => rfl) (Nat.le_refl _) ?_
    obtain rfl := Option.some.inj h
    exact r_ret (q := (.return_, 1, 0, 0, .null)) rfl rfl (fun _ => rfl)
def D38_6_2 (F : Nat) (m : xS) : Option (Unit × xS) :=
  if zcmp .ne (m.1 6 9) 3 = true then
    (D53_2 F m).bind fun q13 =>
      (D39 F q13.1 q13.2).bind fun q16 =>
        D38_6_2_19 F q16.1 q16.2
  else
    D38_6_2_19 F (-1) m
set_option maxRecDepth 20000 in
theorem T38_6_2 {B : zHp} (H : yH0 B) (X : yTx B) {e : Nat} (he : 8 ≤ e + 1) (F : Nat) {lv : List (Nat × Value)} {m : xS} {x : Unit × xS} (l0 : zld lv 0 = some (.ref 6)) (l1 : zld lv 1 = some (.ref 2)) (h : D38_6_2 F m = some x) : zR none e 3 none zc38 (0, lv, []) (xW B m) (none, xW B x.2) := by
  unfold D38_6_2 at h
  refine q_lr (k := 1) (i := 0) (q := (.aload_n 0, 1, 0, 0, .null)) rfl (fun _ => rfl) l0 ?_
  refine r_gi (v := (m.1 6 9)) H (pc := 1) (i := _) rfl (by decide) (by decide) rfl ?_
  refine r_s (fr' := (5, lv, [.int 3, .int (m.1 6 9)])) (hp' := xW B m) (q := (.iconst 3, 1, 0, 0, .null)) rfl (fun _ => rfl) (Nat.le_refl _) ?_
  refine r_ifc (len := 3) (a := 12) (b := 0) (v0 := .null) (cn := .ne) (off := 7) rfl (fun c => ?_) (fun c => ?_)
  · rw [if_pos c] at h
    refine q_lr (k := 1) (i := 1) (q := (.aload_n 1, 1, 0, 0, .null)) rfl (fun _ => rfl) l1 ?_
    obtain ⟨q13, h13, h⟩ := xbind h
    refine r_call (ix := 2) (as := []) (rest := []) (rv := some (.int q13.1)) (hp' := xW B q13.2) (pc := 13) rfl xr53 rfl rfl rfl (xkd H (by decide)) (Nat.le_of_ble_eq_true rfl) (Z53_2 H X h13 (by omega)) (Nat.le_refl _) ?_
    obtain ⟨q16, h16, h⟩ := xbind h
    refine r_callS (as := [.int q13.1]) (rest := []) (rv := some (.int q16.1)) (hp' := xW B q16.2) (pc := 16) rfl xr39 rfl rfl rfl (Nat.le_of_ble_eq_true rfl) (Z39 H X h16 (by omega)) (Nat.le_refl _) ?_
    exact T38_6_2_19 H X he F l0 l1 h
  · rw [if_neg (by rw [c]; decide)] at h
    refine r_s (fr' := (9, lv, [.int (-1)])) (hp' := xW B m) (q := (.iconst (-1), 1, 0, 0, .null)) rfl (fun _ => rfl) (Nat.le_refl _) ?_
    refine r_s (fr' := (19, lv, [.int (-1)])) (hp' := xW B m) (q := (.goto 10, 3, 19, 0, .null)) rfl (fun _ => rfl) (Nat.le_refl _) ?_
    exact T38_6_2_19 H X he F l0 l1 h
set_option maxRecDepth 20000 in
theorem Z38_6_2 {B : zHp} (H : yH0 B) (X : yTx B) {F : Nat} {m : xS} {x : Unit × xS} (h : D38_6_2 F m = some x) {d : Nat} (hd : 8 ≤ d) : zCan d 38 [.ref 6, .ref 2] (xW B m) (none, xW B x.2) := by
  obtain ⟨e, rfl⟩ : ∃ e, d = e + 1 := ⟨d - 1, by omega⟩
  refine zCan_body (nL := 3) (rt := none) (cd := zc38) (xg38) ⟨Nat.le_of_ble_eq_true rfl, by decide⟩ (Nat.le_refl _) ?_
  exact T38_6_2 H X hd F rfl rfl h
