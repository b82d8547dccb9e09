/-! Methods as functions over the memory. -/
set_option maxRecDepth 4000 in
theorem xg15 : zg zms 15 = some (zm15.2.2.1, zm15.2.2.2.1, zc15) := rfl
theorem xr15 : zar 15 = (0, 2) := by decide +kernel
set_option maxRecDepth 4000 in
theorem xg70 : zg zms 70 = some (zm70.2.2.1, zm70.2.2.2.1, zc70) := rfl
theorem xr70 : zar 70 = (1, 8) := by decide +kernel
/-- LentTools$Village.copyFrom -/
def D70_9_11t (F : Nat) (m : xS) : Option (Unit × xS) :=
  some ((), (xcp m 10 12 114))
set_option maxRecDepth 20000 in
theorem T70_9_11t {B : zHp} (H : yH0 B) {e : Nat} (he : 1 ≤ e + 1) (F : Nat) {lv : List (Nat × Value)} {m : xS} {x : Unit × xS} (l0 : zld lv 0 = some (.ref 9)) (l1 : zld lv 1 = some (.ref 11)) (h : D70_9_11t F m = some x) : zR none e 2 none zc70 (0, lv, []) (xW B m) (none, xW B x.2) := by
  unfold D70_9_11t at h
  refine q_lr (k := 1) (i := 1) (q := (.aload_n 1, 1, 0, 0, .null)) rfl (fun _ => rfl) l1 ?_
  refine r_gr (c := 12) H (pc := 1) rfl (by decide) (by decide) ?_
  refine r_s (fr' := (5, lv, [.int 0, .ref 12])) (hp' := xW B m) (q := (.iconst 0, 1, 0, 0, .null)) rfl (fun _ => rfl) (Nat.le_refl _) ?_
  refine q_lr (k := 1) (i := 0) (q := (.aload_n 0, 1, 0, 0, .null)) rfl (fun _ => rfl) l0 ?_
  refine r_gr (c := 10) H (pc := 6) rfl (by decide) (by decide) ?_
  refine r_s (fr' := (10, lv, [.int 0, .ref 10, .int 0, .ref 12])) (hp' := xW B m) (q := (.iconst 0, 1, 0, 0, .null)) rfl (fun _ => rfl) (Nat.le_refl _) ?_
  refine r_s (fr' := (12, lv, [.int 114, .int 0, .ref 10, .int 0, .ref 12])) (hp' := xW B m) (q := (.bipush 114, 2, 0, 0, .null)) rfl (fun _ => rfl) (Nat.le_refl _) ?_
  refine q_cpy (n := 114) (n0 := 114) (n1 := 114) H (pc := 12) rfl (by decide) (by decide) (by decide) (by decide) (by decide) (Nat.le_of_ble_eq_true rfl) ?_
  obtain rfl := Option.some.inj h
  exact r_ret (q := (.return_, 1, 0, 0, .null)) rfl rfl (fun _ => rfl)
set_option maxRecDepth 20000 in
theorem Z70_9_11t {B : zHp} (H : yH0 B) {F : Nat} {m : xS} {x : Unit × xS} (h : D70_9_11t F m = some x) {d : Nat} (hd : 1 ≤ d) : zCan d 70 [.ref 9, .ref 11] (xW B m) (none, xW B x.2) := by
  obtain ⟨e, rfl⟩ : ∃ e, d = e + 1 := ⟨d - 1, by omega⟩
  refine zCan_body (nL := 2) (rt := none) (cd := zc70) (xg70) ⟨Nat.le_of_ble_eq_true rfl, by decide⟩ (Nat.le_refl _) ?_
  exact T70_9_11t H hd F rfl rfl h
/-- LentTools$History.forget -/
def D15_14 (F : Nat) (m : xS) : Option (Unit × xS) :=
  some ((), (xu m 14 2 0))
set_option maxRecDepth 20000 in
theorem T15_14 {B : zHp} (H : yH0 B) {e : Nat} (he : 1 ≤ e + 1) (F : Nat) {lv : List (Nat × Value)} {m : xS} {x : Unit × xS} (l0 : zld lv 0 = some (.ref 14)) (h : D15_14 F m = some x) : zR none e 1 none zc15 (0, lv, []) (xW B m) (none, xW B x.2) := by
  unfold D15_14 at h
  refine q_lr (k := 1) (i := 0) (q := (.aload_n 0, 1, 0, 0, .null)) rfl (fun _ => rfl) l0 ?_
  refine r_s (fr' := (2, lv, [.int 0, .ref 14])) (hp' := xW B m) (q := (.iconst 0, 1, 0, 0, .null)) rfl (fun _ => rfl) (Nat.le_refl _) ?_
  refine r_pi (s2 := (xu m 14 2 0)) H (pc := 2) rfl (by decide) rfl rfl ?_
  obtain rfl := Option.some.inj h
  exact r_ret (q := (.return_, 1, 0, 0, .null)) rfl rfl (fun _ => rfl)
set_option maxRecDepth 20000 in
theorem Z15_14 {B : zHp} (H : yH0 B) {F : Nat} {m : xS} {x : Unit × xS} (h : D15_14 F m = some x) {d : Nat} (hd : 1 ≤ d) : zCan d 15 [.ref 14] (xW B m) (none, xW B x.2) := by
  obtain ⟨e, rfl⟩ : ∃ e, d = e + 1 := ⟨d - 1, by omega⟩
  refine zCan_body (nL := 1) (rt := none) (cd := zc15) (xg15) ⟨Nat.le_of_ble_eq_true rfl, by decide⟩ (Nat.le_refl _) ?_
  exact T15_14 H hd F rfl h
/-- LentTools$Village.tools -/
def D79_9 (F : Nat) (m : xS) : Option (Int32 × xS) :=
  some ((m.1 10 2), m)
set_option maxRecDepth 20000 in
theorem T79_9 {B : zHp} (H : yH0 B) {e : Nat} (he : 1 ≤ e + 1) (F : Nat) {lv : List (Nat × Value)} {m : xS} {x : Int32 × xS} (l0 : zld lv 0 = some (.ref 9)) (h : D79_9 F m = some x) : zR none e 1 (some .int) zc79 (0, lv, []) (xW B m) (some (.int x.1), xW B x.2) := by
  unfold D79_9 at h
  refine q_lr (k := 1) (i := 0) (q := (.aload_n 0, 1, 0, 0, .null)) rfl (fun _ => rfl) l0 ?_
  refine r_gr (c := 10) H (pc := 1) rfl (by decide) (by decide) ?_
  refine r_s (fr' := (5, lv, [.int 2, .ref 10])) (hp' := xW B m) (q := (.iconst 2, 1, 0, 0, .null)) rfl (fun _ => rfl) (Nat.le_refl _) ?_
  refine q_al (n := 114) (v := (m.1 10 2)) H (pc := 5) rfl (by decide) (by decide) rfl ?_
  obtain rfl := Option.some.inj h
  exact q_ri (q := (.ireturn, 1, 0, 0, .null)) rfl (fun _ => rfl) rfl rfl
set_option maxRecDepth 20000 in
theorem Z79_9 {B : zHp} (H : yH0 B) {F : Nat} {m : xS} {x : Int32 × xS} (h : D79_9 F m = some x) {d : Nat} (hd : 1 ≤ d) : zCan d 79 [.ref 9] (xW B m) (some (.int x.1), xW B x.2) := by
  obtain ⟨e, rfl⟩ : ∃ e, d = e + 1 := ⟨d - 1, by omega⟩
  refine zCan_body (nL := 1) (rt := (some .int)) (cd := zc79) (xg79) ⟨Nat.le_of_ble_eq_true rfl, by decide⟩ (Nat.le_refl _) ?_
  exact T79_9 H hd F rfl h
