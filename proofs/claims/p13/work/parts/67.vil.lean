section
/-! Methods as functions over the memory. -/
set_option maxRecDepth 4000 in
theorem xg71 : zg zms 71 = some (zm71.2.2.1, zm71.2.2.2.1, zc71) := rfl
theorem xr71 : zar 71 = (2, 8) := by decide +kernel
set_option maxRecDepth 4000 in
theorem xg72 : zg zms 72 = some (zm72.2.2.1, zm72.2.2.2.1, zc72) := rfl
theorem xr72 : zar 72 = (3, 8) := by decide +kernel
set_option maxRecDepth 4000 in
theorem xg73 : zg zms 73 = some (zm73.2.2.1, zm73.2.2.2.1, zc73) := rfl
theorem xr73 : zar 73 = (4, 8) := by decide +kernel
set_option maxRecDepth 4000 in
theorem xg74 : zg zms 74 = some (zm74.2.2.1, zm74.2.2.2.1, zc74) := rfl
theorem xr74 : zar 74 = (2, 8) := by decide +kernel
set_option maxRecDepth 4000 in
theorem xg75 : zg zms 75 = some (zm75.2.2.1, zm75.2.2.2.1, zc75) := rfl
theorem xr75 : zar 75 = (3, 8) := by decide +kernel
set_option maxRecDepth 4000 in
theorem xg77 : zg zms 77 = some (zm77.2.2.1, zm77.2.2.2.1, zc77) := rfl
theorem xr77 : zar 77 = (0, 8) := by decide +kernel
set_option maxRecDepth 4000 in
theorem xg79 : zg zms 79 = some (zm79.2.2.1, zm79.2.2.2.1, zc79) := rfl
theorem xr79 : zar 79 = (0, 8) := by decide +kernel
set_option maxRecDepth 4000 in
theorem xg80 : zg zms 80 = some (zm80.2.2.1, zm80.2.2.2.1, zc80) := rfl
theorem xr80 : zar 80 = (0, 8) := by decide +kernel
set_option maxRecDepth 4000 in
theorem xg88 : zg zms 88 = some (zm88.2.2.1, zm88.2.2.2.1, zc88) := rfl
theorem xr88 : zar 88 = (3, 8) := by decide +kernel
set_option maxRecDepth 4000 in
theorem xg90 : zg zms 90 = some (zm90.2.2.1, zm90.2.2.2.1, zc90) := rfl
theorem xr90 : zar 90 = (3, 8) := by decide +kernel
set_option maxRecDepth 4000 in
theorem xg116 : zg zms 116 = some (zm116.2.2.1, zm116.2.2.2.1, zc116) := rfl
theorem xr116 : zar 116 = (2, 9) := by decide +kernel
set_option maxRecDepth 4000 in
theorem xg117 : zg zms 117 = some (zm117.2.2.1, zm117.2.2.2.1, zc117) := rfl
theorem xr117 : zar 117 = (3, 9) := by decide +kernel
set_option maxRecDepth 4000 in
theorem xg118 : zg zms 118 = some (zm118.2.2.1, zm118.2.2.2.1, zc118) := rfl
theorem xr118 : zar 118 = (3, 200) := by decide +kernel
set_option maxRecDepth 4000 in
theorem xg119 : zg zms 119 = some (zm119.2.2.1, zm119.2.2.2.1, zc119) := rfl
theorem xr119 : zar 119 = (3, 9) := by decide +kernel
set_option maxRecDepth 4000 in
theorem xg120 : zg zms 120 = some (zm120.2.2.1, zm120.2.2.2.1, zc120) := rfl
theorem xr120 : zar 120 = (2, 9) := by decide +kernel
set_option maxRecDepth 4000 in
theorem xg291 : zg zms 291 = some (zm291.2.2.1, zm291.2.2.2.1, zc291) := rfl
theorem xr291 : zar 291 = (2, 200) := by decide +kernel
/-- java/lang/String.coder -/
def D283_1001 (F : Nat) (m : xS) : Option (Int32 × xS) :=
  if zcmp .eq 1 0 = true then
    some (1, m)
  else
    some (0, m)
set_option maxRecDepth 20000 in
theorem T283_1001 {B : zHp} (H : yH0 B) (X : yTx B) {e : Nat} (he : 1 ≤ e + 1) (F : Nat) {lv : List (Nat × Value)} {m : xS} {x : Int32 × xS} (l0 : zld lv 0 = some (.ref 1001)) (h : D283_1001 F m = some x) : zR none e 1 (some .byte) zc283 (0, lv, []) (xW B m) (some (.int x.1), xW B x.2) := by
  unfold D283_1001 at h
  refine r_s (fr' := (3, lv, [.int 1])) (hp' := xW B m) (q := (.getstatic 38, 3, 0, 0, .int 1)) rfl (fun _ => rfl) (Nat.le_refl _) ?_
  refine r_if (len := 3) (a := 13) (b := 0) (v0 := .null) (cn := .eq) (off := 10) rfl (fun c => ?_) (fun c => ?_)
  · rw [if_pos c] at h
    refine r_s (fr' := (14, lv, [.int 1])) (hp' := xW B m) (q := (.iconst 1, 1, 0, 0, .null)) rfl (fun _ => rfl) (Nat.le_refl _) ?_
    obtain rfl := Option.some.inj h
    exact q_ri (q := (.ireturn, 1, 0, 0, .null)) rfl (fun _ => rfl) rfl rfl
  · rw [if_neg (by rw [c]; decide)] at h
    refine q_lr (k := 1) (i := 0) (q := (.aload_n 0, 1, 0, 0, .null)) rfl (fun _ => rfl) l0 ?_
    refine r_s (fr' := (10, lv, [.int 0])) (hp' := xW B m) (q := (.getfield 15, 3, 100, 1, .null)) rfl (fun _ => rfl) (Nat.le_refl _) ?_
    refine r_s (fr' := (14, lv, [.int 0])) (hp' := xW B m) (q := (.goto 4, 3, 14, 0, .null)) rfl (fun _ => rfl) (Nat.le_refl _) ?_
    obtain rfl := Option.some.inj h
    exact q_ri (q := (.ireturn, 1, 0, 0, .null)) rfl (fun _ => rfl) rfl rfl
set_option maxRecDepth 20000 in
theorem Z283_1001 {B : zHp} (H : yH0 B) (X : yTx B) {F : Nat} {m : xS} {x : Int32 × xS} (h : D283_1001 F m = some x) {d : Nat} (hd : 1 ≤ d) : zCan d 283 [.ref 1001] (xW B m) (some (.int x.1), xW B x.2) := by
  obtain ⟨e, rfl⟩ : ∃ e, d = e + 1 := ⟨d - 1, by omega⟩
  refine zCan_body (nL := 1) (rt := (some .byte)) (cd := zc283) (xg283) ⟨Nat.le_of_ble_eq_true rfl, by decide⟩ (Nat.le_refl _) ?_
  exact T283_1001 H X hd F rfl h
/-- java/lang/String.length -/
def D281_1001 (F : Nat) (m : xS) : Option (Int32 × xS) :=
  (D283_1001 F m).bind fun q6 =>
    some (((Int32.ofNat 31) >>> (q6.1 &&& 31)), q6.2)
set_option maxRecDepth 20000 in
theorem T281_1001 {B : zHp} (H : yH0 B) (X : yTx B) {e : Nat} (he : 2 ≤ e + 1) (F : Nat) {lv : List (Nat × Value)} {m : xS} {x : Int32 × xS} (l0 : zld lv 0 = some (.ref 1001)) (h : D281_1001 F m = some x) : zR none e 1 (some .int) zc281 (0, lv, []) (xW B m) (some (.int x.1), xW B x.2) := by
  unfold D281_1001 at h
  refine q_lr (k := 1) (i := 0) (q := (.aload_n 0, 1, 0, 0, .null)) rfl (fun _ => rfl) l0 ?_
  refine r_s (fr' := (4, lv, [.ref 1020])) (hp' := xW B m) (q := (.getfield 9, 3, 100, 0, .null)) rfl (fun _ => rfl) (Nat.le_refl _) ?_
  refine r_s (fr' := (5, lv, [.int (Int32.ofNat 31)])) (hp' := xW B m) (q := (.arraylength, 1, 0, 0, .null)) rfl (fun _ => rfl) (Nat.le_refl _) ?_
  refine q_lr (k := 1) (i := 0) (q := (.aload_n 0, 1, 0, 0, .null)) rfl (fun _ => rfl) l0 ?_
  obtain ⟨q6, h6, h⟩ := xbind h
  refine r_call (ix := 1001) (as := []) (rest := [.int (Int32.ofNat 31)]) (rv := some (.int q6.1)) (hp' := xW B q6.2) (pc := 6) rfl xr283 rfl rfl rfl rfl (Nat.le_of_ble_eq_true rfl) (Z283_1001 H X h6 (by omega)) (Nat.le_refl _) ?_
  refine r_s (fr' := (10, lv, [.int ((Int32.ofNat 31) >>> (q6.1 &&& 31))])) (hp' := xW B q6.2) (q := (.ishr, 1, 0, 0, .null)) rfl (fun _ => rfl) (Nat.le_refl _) ?_
  obtain rfl := Option.some.inj h
  exact q_ri (q := (.ireturn, 1, 0, 0, .null)) rfl (fun _ => rfl) rfl rfl
set_option maxRecDepth 20000 in
theorem Z281_1001 {B : zHp} (H : yH0 B) (X : yTx B) {F : Nat} {m : xS} {x : Int32 × xS} (h : D281_1001 F m = some x) {d : Nat} (hd : 2 ≤ d) : zCan d 281 [.ref 1001] (xW B m) (some (.int x.1), xW B x.2) := by
  obtain ⟨e, rfl⟩ : ∃ e, d = e + 1 := ⟨d - 1, by omega⟩
  refine zCan_body (nL := 1) (rt := (some .int)) (cd := zc281) (xg281) ⟨Nat.le_of_ble_eq_true rfl, by decide⟩ (Nat.le_refl _) ?_
  exact T281_1001 H X hd F rfl h
/-- java/lang/String.isLatin1 -/
def D284_1001_17 (F : Nat) (m : xS) : Option (Int32 × xS) :=
  some (0, m)
set_option maxRecDepth 20000 in
theorem T284_1001_17 {B : zHp} (H : yH0 B) (X : yTx B) {e : Nat} (he : 1 ≤ e + 1) (F : Nat) {lv : List (Nat × Value)} {m : xS} {x : Int32 × xS} (l0 : zld lv 0 = some (.ref 1001)) (h : D284_1001_17 F m = some x) : zR none e 1 (some .boolean) zc284 (17, lv, []) (xW B m) (some (.int x.1), xW B x.2) := by
  unfold D284_1001_17 at h
  refine r_s (fr' := (18, lv, [.int 0])) (hp' := xW B m) (q := (.iconst 0, 1, 0, 0, .null)) rfl (fun _ => rfl) (Nat.le_refl _) ?_
  obtain rfl := Option.some.inj h
  exact q_ri (q := (.ireturn, 1, 0, 0, .null)) rfl (fun _ => rfl) rfl rfl
def D284_1001 (F : Nat) (m : xS) : Option (Int32 × xS) :=
  if zcmp .eq 1 0 = true then
    D284_1001_17 F m
  else
    if zcmp .ne 0 0 = true then
      D284_1001_17 F m
    else
      some (1, m)
set_option maxRecDepth 20000 in
theorem T284_1001 {B : zHp} (H : yH0 B) (X : yTx B) {e : Nat} (he : 1 ≤ e + 1) (F : Nat) {lv : List (Nat × Value)} {m : xS} {x : Int32 × xS} (l0 : zld lv 0 = some (.ref 1001)) (h : D284_1001 F m = some x) : zR none e 1 (some .boolean) zc284 (0, lv, []) (xW B m) (some (.int x.1), xW B x.2) := by
  unfold D284_1001 at h
  refine r_s (fr' := (3, lv, [.int 1])) (hp' := xW B m) (q := (.getstatic 38, 3, 0, 0, .int 1)) rfl (fun _ => rfl) (Nat.le_refl _) ?_
  refine r_if (len := 3) (a := 17) (b := 0) (v0 := .null) (cn := .eq) (off := 14) rfl (fun c => ?_) (fun c => ?_)
  · rw [if_pos c] at h
    exact T284_1001_17 H X he F l0 h
  · rw [if_neg (by rw [c]; decide)] at h
    refine q_lr (k := 1) (i := 0) (q := (.aload_n 0, 1, 0, 0, .null)) rfl (fun _ => rfl) l0 ?_
    refine r_s (fr' := (10, lv, [.int 0])) (hp' := xW B m) (q := (.getfield 15, 3, 100, 1, .null)) rfl (fun _ => rfl) (Nat.le_refl _) ?_
    refine r_if (len := 3) (a := 17) (b := 0) (v0 := .null) (cn := .ne) (off := 7) rfl (fun c => ?_) (fun c => ?_)
    · rw [if_pos c] at h
      exact T284_1001_17 H X he F l0 h
    · rw [if_neg (by rw [c]; decide)] at h
      refine r_s (fr' := (14, lv, [.int 1])) (hp' := xW B m) (q := (.iconst 1, 1, 0, 0, .null)) rfl (fun _ => rfl) (Nat.le_refl _) ?_
      refine r_s (fr' := (18, lv, [.int 1])) (hp' := xW B m) (q := (.goto 4, 3, 18, 0, .null)) rfl (fun _ => rfl) (Nat.le_refl _) ?_
      obtain rfl := Option.some.inj h
      exact q_ri (q := (.ireturn, 1, 0, 0, .null)) rfl (fun _ => rfl) rfl rfl
set_option maxRecDepth 20000 in
theorem Z284_1001 {B : zHp} (H : yH0 B) (X : yTx B) {F : Nat} {m : xS} {x : Int32 × xS} (h : D284_1001 F m = some x) {d : Nat} (hd : 1 ≤ d) : zCan d 284 [.ref 1001] (xW B m) (some (.int x.1), xW B x.2) := by
  obtain ⟨e, rfl⟩ : ∃ e, d = e + 1 := ⟨d - 1, by omega⟩
  refine zCan_body (nL := 1) (rt := (some .boolean)) (cd := zc284) (xg284) ⟨Nat.le_of_ble_eq_true rfl, by decide⟩ (Nat.le_refl _) ?_
  exact T284_1001 H X hd F rfl h
/-- java/lang/StringLatin1.charAt -/
def D286_1020 (F : Nat) (v1 : Int32) (m : xS) : Option (Int32 × xS) :=
  (D285 F v1 (Int32.ofNat 31) m).bind fun q3 =>
    if xib v1 31 = true then
      if (vp_nar .char ((((zsv 20 (v1 : Int32).toNatClampNeg) &&& 255) : Int32).toUInt32 % 65536).toInt32 == ((((zsv 20 (v1 : Int32).toNatClampNeg) &&& 255) : Int32).toUInt32 % 65536).toInt32) = true then
        some (((((zsv 20 (v1 : Int32).toNatClampNeg) &&& 255) : Int32).toUInt32 % 65536).toInt32, q3.2)
      else none
    else none
set_option maxRecDepth 20000 in
theorem T286_1020 {B : zHp} (H : yH0 B) (X : yTx B) {e : Nat} (he : 3 ≤ e + 1) (F : Nat) {v1 : Int32} {lv : List (Nat × Value)} {m : xS} {x : Int32 × xS} (l0 : zld lv 0 = some (.ref 1020)) (l1 : zld lv 1 = some (.int v1)) (h : D286_1020 F v1 m = some x) : zR none e 2 (some .char) zc286 (0, lv, []) (xW B m) (some (.int x.1), xW B x.2) := by
  unfold D286_1020 at h
  refine q_li (k := 1) (i := 1) (q := (.iload_n 1, 1, 0, 0, .null)) rfl (fun _ => rfl) l1 ?_
  refine q_lr (k := 1) (i := 0) (q := (.aload_n 0, 1, 0, 0, .null)) rfl (fun _ => rfl) l0 ?_
  refine r_s (fr' := (3, lv, [.int (Int32.ofNat 31), .int v1])) (hp' := xW B m) (q := (.arraylength, 1, 0, 0, .null)) rfl (fun _ => rfl) (Nat.le_refl _) ?_
  obtain ⟨q3, h3, h⟩ := xbind h
  refine r_callS (as := [.int v1, .int (Int32.ofNat 31)]) (rest := []) (rv := none) (hp' := xW B q3.2) (pc := 3) rfl xr285 rfl rfl rfl (Nat.le_of_ble_eq_true rfl) (Z285 H X h3 (by omega)) (Nat.le_refl _) ?_
  refine q_lr (k := 1) (i := 0) (q := (.aload_n 0, 1, 0, 0, .null)) rfl (fun _ => rfl) l0 ?_
  refine q_li (k := 1) (i := 1) (q := (.iload_n 1, 1, 0, 0, .null)) rfl (fun _ => rfl) l1 ?_
  obtain ⟨c1, h⟩ := xif h
  refine q_sbl (n := 31) (f := zsv 20) (i := 1020) (pc := 8) rfl (by decide) rfl c1 ?_
  refine r_s (fr' := (12, lv, [.int 255, .int (zsv 20 (v1 : Int32).toNatClampNeg)])) (hp' := xW B q3.2) (q := (.sipush 255, 3, 0, 0, .null)) rfl (fun _ => rfl) (Nat.le_refl _) ?_
  refine r_s (fr' := (13, lv, [.int ((zsv 20 (v1 : Int32).toNatClampNeg) &&& 255)])) (hp' := xW B q3.2) (q := (.iand, 1, 0, 0, .null)) rfl (fun _ => rfl) (Nat.le_refl _) ?_
  refine r_s (fr' := (14, lv, [.int ((((zsv 20 (v1 : Int32).toNatClampNeg) &&& 255) : Int32).toUInt32 % 65536).toInt32])) (hp' := xW B q3.2) (q := (.i2c, 1, 0, 0, .null)) rfl (fun _ => rfl) (Nat.le_refl _) ?_
  obtain ⟨c2, h⟩ := xif h
  obtain rfl := Option.some.inj h
  exact q_ri (q := (.ireturn, 1, 0, 0, .null)) rfl (fun _ => rfl) rfl (xnar_ok rfl c2)
set_option maxRecDepth 20000 in
theorem Z286_1020 {B : zHp} (H : yH0 B) (X : yTx B) {F : Nat} {a1 : Int32} {m : xS} {x : Int32 × xS} (h : D286_1020 F a1 m = some x) {d : Nat} (hd : 3 ≤ d) : zCan d 286 [.ref 1020, .int a1] (xW B m) (some (.int x.1), xW B x.2) := by
  obtain ⟨e, rfl⟩ : ∃ e, d = e + 1 := ⟨d - 1, by omega⟩
  refine zCan_body (nL := 2) (rt := (some .char)) (cd := zc286) (xg286) ⟨Nat.le_of_ble_eq_true rfl, by decide⟩ (Nat.le_refl _) ?_
  exact T286_1020 H X hd F rfl rfl h
/-- java/lang/StringUTF16.length -/
def D288_1020 (F : Nat) (m : xS) : Option (Int32 × xS) :=
  some (((Int32.ofNat 31) >>> (1 &&& 31)), m)
set_option maxRecDepth 20000 in
theorem T288_1020 {B : zHp} (H : yH0 B) (X : yTx B) {e : Nat} (he : 1 ≤ e + 1) (F : Nat) {lv : List (Nat × Value)} {m : xS} {x : Int32 × xS} (l0 : zld lv 0 = some (.ref 1020)) (h : D288_1020 F m = some x) : zR none e 1 (some .int) zc288 (0, lv, []) (xW B m) (some (.int x.1), xW B x.2) := by
  unfold D288_1020 at h
  refine q_lr (k := 1) (i := 0) (q := (.aload_n 0, 1, 0, 0, .null)) rfl (fun _ => rfl) l0 ?_
  refine r_s (fr' := (2, lv, [.int (Int32.ofNat 31)])) (hp' := xW B m) (q := (.arraylength, 1, 0, 0, .null)) rfl (fun _ => rfl) (Nat.le_refl _) ?_
  refine r_s (fr' := (3, lv, [.int 1, .int (Int32.ofNat 31)])) (hp' := xW B m) (q := (.iconst 1, 1, 0, 0, .null)) rfl (fun _ => rfl) (Nat.le_refl _) ?_
  refine r_s (fr' := (4, lv, [.int ((Int32.ofNat 31) >>> (1 &&& 31))])) (hp' := xW B m) (q := (.ishr, 1, 0, 0, .null)) rfl (fun _ => rfl) (Nat.le_refl _) ?_
  obtain rfl := Option.some.inj h
  exact q_ri (q := (.ireturn, 1, 0, 0, .null)) rfl (fun _ => rfl) rfl rfl
set_option maxRecDepth 20000 in
theorem Z288_1020 {B : zHp} (H : yH0 B) (X : yTx B) {F : Nat} {m : xS} {x : Int32 × xS} (h : D288_1020 F m = some x) {d : Nat} (hd : 1 ≤ d) : zCan d 288 [.ref 1020] (xW B m) (some (.int x.1), xW B x.2) := by
  obtain ⟨e, rfl⟩ : ∃ e, d = e + 1 := ⟨d - 1, by omega⟩
  refine zCan_body (nL := 1) (rt := (some .int)) (cd := zc288) (xg288) ⟨Nat.le_of_ble_eq_true rfl, by decide⟩ (Nat.le_refl _) ?_
  exact T288_1020 H X hd F rfl h
/-- java/lang/StringUTF16.checkIndex -/
def D290_1020 (F : Nat) (v0 : Int32) (m : xS) : Option (Unit × xS) :=
  (D288_1020 F m).bind fun q2 =>
    (D285 F v0 q2.1 q2.2).bind fun q5 =>
      some ((), q5.2)
set_option maxRecDepth 20000 in
theorem T290_1020 {B : zHp} (H : yH0 B) (X : yTx B) {e : Nat} (he : 3 ≤ e + 1) (F : Nat) {v0 : Int32} {lv : List (Nat × Value)} {m : xS} {x : Unit × xS} (l0 : zld lv 0 = some (.int v0)) (l1 : zld lv 1 = some (.ref 1020)) (h : D290_1020 F v0 m = some x) : zR none e 2 none zc290 (0, lv, []) (xW B m) (none, xW B x.2) := by
  unfold D290_1020 at h
  refine q_li (k := 1) (i := 0) (q := (.iload_n 0, 1, 0, 0, .null)) rfl (fun _ => rfl) l0 ?_
  refine q_lr (k := 1) (i := 1) (q := (.aload_n 1, 1, 0, 0, .null)) rfl (fun _ => rfl) l1 ?_
  obtain ⟨q2, h2, h⟩ := xbind h
  refine r_callS (as := [.ref 1020]) (rest := [.int v0]) (rv := some (.int q2.1)) (hp' := xW B q2.2) (pc := 2) rfl xr288 rfl rfl rfl (Nat.le_of_ble_eq_true rfl) (Z288_1020 H X h2 (by omega)) (Nat.le_refl _) ?_
  obtain ⟨q5, h5, h⟩ := xbind h
  refine r_callS (as := [.int v0, .int q2.1]) (rest := []) (rv := none) (hp' := xW B q5.2) (pc := 5) rfl xr285 rfl rfl rfl (Nat.le_of_ble_eq_true rfl) (Z285 H X h5 (by omega)) (Nat.le_refl _) ?_
  obtain rfl := Option.some.inj h
  exact r_ret (q := (.return_, 1, 0, 0, .null)) rfl rfl (fun _ => rfl)
set_option maxRecDepth 20000 in
theorem Z290_1020 {B : zHp} (H : yH0 B) (X : yTx B) {F : Nat} {a0 : Int32} {m : xS} {x : Unit × xS} (h : D290_1020 F a0 m = some x) {d : Nat} (hd : 3 ≤ d) : zCan d 290 [.int a0, .ref 1020] (xW B m) (none, xW B x.2) := by
  obtain ⟨e, rfl⟩ : ∃ e, d = e + 1 := ⟨d - 1, by omega⟩
  refine zCan_body (nL := 2) (rt := none) (cd := zc290) (xg290) ⟨Nat.le_of_ble_eq_true rfl, by decide⟩ (Nat.le_refl _) ?_
  exact T290_1020 H X hd F rfl rfl h
/-- java/lang/StringUTF16.getChar -/
def D287_1020 (F : Nat) (v1 : Int32) (m : xS) : Option (Int32 × xS) :=
  none
set_option maxRecDepth 20000 in
theorem T287_1020 {B : zHp} (H : yH0 B) (X : yTx B) {e : Nat} (he : 1 ≤ e + 1) (F : Nat) {v1 : Int32} {lv : List (Nat × Value)} {m : xS} {x : Int32 × xS} (l0 : zld lv 0 = some (.ref 1020)) (l1 : zld lv 1 = some (.int v1)) (h : D287_1020 F v1 m = some x) : zR none e 2 (some .char) zc287 (0, lv, []) (xW B m) (some (.int x.1), xW B x.2) := by
  unfold D287_1020 at h
  cases h
set_option maxRecDepth 20000 in
theorem Z287_1020 {B : zHp} (H : yH0 B) (X : yTx B) {F : Nat} {a1 : Int32} {m : xS} {x : Int32 × xS} (h : D287_1020 F a1 m = some x) {d : Nat} (hd : 1 ≤ d) : zCan d 287 [.ref 1020, .int a1] (xW B m) (some (.int x.1), xW B x.2) := by
  obtain ⟨e, rfl⟩ : ∃ e, d = e + 1 := ⟨d - 1, by omega⟩
  refine zCan_body (nL := 2) (rt := (some .char)) (cd := zc287) (xg287) ⟨Nat.le_of_ble_eq_true rfl, by decide⟩ (Nat.le_refl _) ?_
  exact T287_1020 H X hd F rfl rfl h
/-- java/lang/StringUTF16.charAt -/
def D289_1020 (F : Nat) (v1 : Int32) (m : xS) : Option (Int32 × xS) :=
  (D290_1020 F v1 m).bind fun q2 =>
    (D287_1020 F v1 q2.2).bind fun q7 =>
      if (vp_nar .char q7.1 == q7.1) = true then
        some (q7.1, q7.2)
      else none
set_option maxRecDepth 20000 in
theorem T289_1020 {B : zHp} (H : yH0 B) (X : yTx B) {e : Nat} (he : 4 ≤ e + 1) (F : Nat) {v1 : Int32} {lv : List (Nat × Value)} {m : xS} {x : Int32 × xS} (l0 : zld lv 0 = some (.ref 1020)) (l1 : zld lv 1 = some (.int v1)) (h : D289_1020 F v1 m = some x) : zR none e 2 (some .char) zc289 (0, lv, []) (xW B m) (some (.int x.1), xW B x.2) := by
  unfold D289_1020 at h
  refine q_li (k := 1) (i := 1) (q := (.iload_n 1, 1, 0, 0, .null)) rfl (fun _ => rfl) l1 ?_
  refine q_lr (k := 1) (i := 0) (q := (.aload_n 0, 1, 0, 0, .null)) rfl (fun _ => rfl) l0 ?_
  obtain ⟨q2, h2, h⟩ := xbind h
  refine r_callS (as := [.int v1, .ref 1020]) (rest := []) (rv := none) (hp' := xW B q2.2) (pc := 2) rfl xr290 rfl rfl rfl (Nat.le_of_ble_eq_true rfl) (Z290_1020 H X h2 (by omega)) (Nat.le_refl _) ?_
  refine q_lr (k := 1) (i := 0) (q := (.aload_n 0, 1, 0, 0, .null)) rfl (fun _ => rfl) l0 ?_
  refine q_li (k := 1) (i := 1) (q := (.iload_n 1, 1, 0, 0, .null)) rfl (fun _ => rfl) l1 ?_
  obtain ⟨q7, h7, h⟩ := xbind h
  refine r_callS (as := [.ref 1020, .int v1]) (rest := []) (rv := some (.int q7.1)) (hp' := xW B q7.2) (pc := 7) rfl xr287 rfl rfl rfl (Nat.le_of_ble_eq_true rfl) (Z287_1020 H X h7 (by omega)) (Nat.le_refl _) ?_
  obtain ⟨c1, h⟩ := xif h
  obtain rfl := Option.some.inj h
  exact q_ri (q := (.ireturn, 1, 0, 0, .null)) rfl (fun _ => rfl) rfl (xnar_ok rfl c1)
set_option maxRecDepth 20000 in
theorem Z289_1020 {B : zHp} (H : yH0 B) (X : yTx B) {F : Nat} {a1 : Int32} {m : xS} {x : Int32 × xS} (h : D289_1020 F a1 m = some x) {d : Nat} (hd : 4 ≤ d) : zCan d 289 [.ref 1020, .int a1] (xW B m) (some (.int x.1), xW B x.2) := by
  obtain ⟨e, rfl⟩ : ∃ e, d = e + 1 := ⟨d - 1, by omega⟩
  refine zCan_body (nL := 2) (rt := (some .char)) (cd := zc289) (xg289) ⟨Nat.le_of_ble_eq_true rfl, by decide⟩ (Nat.le_refl _) ?_
  exact T289_1020 H X hd F rfl rfl h
/-- java/lang/String.charAt -/
def D282_1001 (F : Nat) (v1 : Int32) (m : xS) : Option (Int32 × xS) :=
  (D284_1001 F m).bind fun q1 =>
    if zcmp .eq q1.1 0 = true then
      (D289_1020 F v1 q1.2).bind fun q21 =>
        if (vp_nar .char q21.1 == q21.1) = true then
          some (q21.1, q21.2)
        else none
    else
      (D286_1020 F v1 q1.2).bind fun q12 =>
        if (vp_nar .char q12.1 == q12.1) = true then
          some (q12.1, q12.2)
        else none
set_option maxRecDepth 20000 in
theorem T282_1001 {B : zHp} (H : yH0 B) (X : yTx B) {e : Nat} (he : 5 ≤ e + 1) (F : Nat) {v1 : Int32} {lv : List (Nat × Value)} {m : xS} {x : Int32 × xS} (l0 : zld lv 0 = some (.ref 1001)) (l1 : zld lv 1 = some (.int v1)) (h : D282_1001 F v1 m = some x) : zR none e 2 (some .char) zc282 (0, lv, []) (xW B m) (some (.int x.1), xW B x.2) := by
  unfold D282_1001 at h
  refine q_lr (k := 1) (i := 0) (q := (.aload_n 0, 1, 0, 0, .null)) rfl (fun _ => rfl) l0 ?_
  obtain ⟨q1, h1, h⟩ := xbind h
  refine r_call (ix := 1001) (as := []) (rest := []) (rv := some (.int q1.1)) (hp' := xW B q1.2) (pc := 1) rfl xr284 rfl rfl rfl rfl (Nat.le_of_ble_eq_true rfl) (Z284_1001 H X h1 (by omega)) (Nat.le_refl _) ?_
  refine r_if (len := 3) (a := 16) (b := 0) (v0 := .null) (cn := .eq) (off := 12) rfl (fun c => ?_) (fun c => ?_)
  · rw [if_pos c] at h
    refine q_lr (k := 1) (i := 0) (q := (.aload_n 0, 1, 0, 0, .null)) rfl (fun _ => rfl) l0 ?_
    refine r_s (fr' := (20, lv, [.ref 1020])) (hp' := xW B q1.2) (q := (.getfield 9, 3, 100, 0, .null)) rfl (fun _ => rfl) (Nat.le_refl _) ?_
    refine q_li (k := 1) (i := 1) (q := (.iload_n 1, 1, 0, 0, .null)) rfl (fun _ => rfl) l1 ?_
    obtain ⟨q21, h21, h⟩ := xbind h
    refine r_callS (as := [.ref 1020, .int v1]) (rest := []) (rv := some (.int q21.1)) (hp' := xW B q21.2) (pc := 21) rfl xr289 rfl rfl rfl (Nat.le_of_ble_eq_true rfl) (Z289_1020 H X h21 (by omega)) (Nat.le_refl _) ?_
    obtain ⟨c1, h⟩ := xif h
    obtain rfl := Option.some.inj h
    exact q_ri (q := (.ireturn, 1, 0, 0, .null)) rfl (fun _ => rfl) rfl (xnar_ok rfl c1)
  · rw [if_neg (by rw [c]; decide)] at h
    refine q_lr (k := 1) (i := 0) (q := (.aload_n 0, 1, 0, 0, .null)) rfl (fun _ => rfl) l0 ?_
    refine r_s (fr' := (11, lv, [.ref 1020])) (hp' := xW B q1.2) (q := (.getfield 9, 3, 100, 0, .null)) rfl (fun _ => rfl) (Nat.le_refl _) ?_
    refine q_li (k := 1) (i := 1) (q := (.iload_n 1, 1, 0, 0, .null)) rfl (fun _ => rfl) l1 ?_
    obtain ⟨q12, h12, h⟩ := xbind h
    refine r_callS (as := [.ref 1020, .int v1]) (rest := []) (rv := some (.int q12.1)) (hp' := xW B q12.2) (pc := 12) rfl xr286 rfl rfl rfl (Nat.le_of_ble_eq_true rfl) (Z286_1020 H X h12 (by omega)) (Nat.le_refl _) ?_
    obtain ⟨c2, h⟩ := xif h
    obtain rfl := Option.some.inj h
    exact q_ri (q := (.ireturn, 1, 0, 0, .null)) rfl (fun _ => rfl) rfl (xnar_ok rfl c2)
set_option maxRecDepth 20000 in
theorem Z282_1001 {B : zHp} (H : yH0 B) (X : yTx B) {F : Nat} {a1 : Int32} {m : xS} {x : Int32 × xS} (h : D282_1001 F a1 m = some x) {d : Nat} (hd : 5 ≤ d) : zCan d 282 [.ref 1001, .int a1] (xW B m) (some (.int x.1), xW B x.2) := by
  obtain ⟨e, rfl⟩ : ∃ e, d = e + 1 := ⟨d - 1, by omega⟩
  refine zCan_body (nL := 2) (rt := (some .char)) (cd := zc282) (xg282) ⟨Nat.le_of_ble_eq_true rfl, by decide⟩ (Nat.le_refl _) ?_
  exact T282_1001 H X hd F rfl rfl h
/-- LentTools$Text.passWord -/
def D59_2_1001_138 (F : Nat) (g55 : Int32 → Int32 → Int32 → Int32 → xS → Option (Int32 × xS)) (v2 : Int32) (v3 : Int32) (v4 : Int32) (v5 : Int32) (m : xS) : Option (Int32 × xS) :=
  g55 v2 v3 v4 (v5 + Int32.ofInt 1) m
set_option maxRecDepth 20000 in
theorem T59_2_1001_138 {B : zHp} (H : yH0 B) (X : yTx B) {e : Nat} (he : 6 ≤ e + 1) (F : Nat) (g55 : Int32 → Int32 → Int32 → Int32 → xS → Option (Int32 × xS)) (k55 : ∀ {v2 : Int32} {v3 : Int32} {v4 : Int32} {v5 : Int32} {lv : List (Nat × Value)} {m : xS} {x : Int32 × xS}, zld lv 0 = some (.ref 2) → zld lv 1 = some (.ref 1001) → zld lv 2 = some (.int v2) → zld lv 3 = some (.int v3) → zld lv 4 = some (.int v4) → zld lv 5 = some (.int v5) → g55 v2 v3 v4 v5 m = some x → zR none e 6 (some .int) zc59 (55, lv, []) (xW B m) (some (.int x.1), xW B x.2)) {v2 : Int32} {v3 : Int32} {v4 : Int32} {v5 : Int32} {lv : List (Nat × Value)} {m : xS} {x : Int32 × xS} (l0 : zld lv 0 = some (.ref 2)) (l1 : zld lv 1 = some (.ref 1001)) (l2 : zld lv 2 = some (.int v2)) (l3 : zld lv 3 = some (.int v3)) (l4 : zld lv 4 = some (.int v4)) (l5 : zld lv 5 = some (.int v5)) (h : D59_2_1001_138 F g55 v2 v3 v4 v5 m = some x) : zR none e 6 (some .int) zc59 (138, lv, []) (xW B m) (some (.int x.1), xW B x.2) := by
  unfold D59_2_1001_138 at h
  refine q_inc (i := 5) (n := 1) (q := (.iinc 5 1, 3, 0, 0, .null)) rfl (fun _ => rfl) l5 (by decide) ?_
  have l0_1 : zld (zs1 lv 5 (.int (v5 + Int32.ofInt 1))) 0 = some (.ref 2) := x_o1 l0 rfl rfl
  have l1_1 : zld (zs1 lv 5 (.int (v5 + Int32.ofInt 1))) 1 = some (.ref 1001) := x_o1 l1 rfl rfl
  have l2_1 : zld (zs1 lv 5 (.int (v5 + Int32.ofInt 1))) 2 = some (.int v2) := x_o1 l2 rfl rfl
  have l3_1 : zld (zs1 lv 5 (.int (v5 + Int32.ofInt 1))) 3 = some (.int v3) := x_o1 l3 rfl rfl
  have l4_1 : zld (zs1 lv 5 (.int (v5 + Int32.ofInt 1))) 4 = some (.int v4) := x_o1 l4 rfl rfl
  have l5_1 : zld (zs1 lv 5 (.int (v5 + Int32.ofInt 1))) 5 = some (.int (v5 + Int32.ofInt 1)) := zs1_ld _ _ _
  generalize (zs1 lv 5 (.int (v5 + Int32.ofInt 1))) = lv1 at *
  refine r_s (fr' := (55, lv1, [])) (hp' := xW B m) (q := (.goto (-86), 3, 55, 0, .null)) rfl (fun _ => rfl) (Nat.le_refl _) ?_
  exact k55 l0_1 l1_1 l2_1 l3_1 l4_1 l5_1 h
def D59_2_1001_111 (F : Nat) (g55 : Int32 → Int32 → Int32 → Int32 → xS → Option (Int32 × xS)) (v2 : Int32) (v3 : Int32) (v4 : Int32) (v5 : Int32) (w0 : Int32) (m : xS) : Option (Int32 × xS) :=
  D59_2_1001_138 F g55 v2 v3 w0 v5 m
set_option maxRecDepth 20000 in
theorem T59_2_1001_111 {B : zHp} (H : yH0 B) (X : yTx B) {e : Nat} (he : 6 ≤ e + 1) (F : Nat) (g55 : Int32 → Int32 → Int32 → Int32 → xS → Option (Int32 × xS)) (k55 : ∀ {v2 : Int32} {v3 : Int32} {v4 : Int32} {v5 : Int32} {lv : List (Nat × Value)} {m : xS} {x : Int32 × xS}, zld lv 0 = some (.ref 2) → zld lv 1 = some (.ref 1001) → zld lv 2 = some (.int v2) → zld lv 3 = some (.int v3) → zld lv 4 = some (.int v4) → zld lv 5 = some (.int v5) → g55 v2 v3 v4 v5 m = some x → zR none e 6 (some .int) zc59 (55, lv, []) (xW B m) (some (.int x.1), xW B x.2)) {v2 : Int32} {v3 : Int32} {v4 : Int32} {v5 : Int32} {w0 : Int32} {lv : List (Nat × Value)} {m : xS} {x : Int32 × xS} (l0 : zld lv 0 = some (.ref 2)) (l1 : zld lv 1 = some (.ref 1001)) (l2 : zld lv 2 = some (.int v2)) (l3 : zld lv 3 = some (.int v3)) (l4 : zld lv 4 = some (.int v4)) (l5 : zld lv 5 = some (.int v5)) (h : D59_2_1001_111 F g55 v2 v3 v4 v5 w0 m = some x) : zR none e 6 (some .int) zc59 (111, lv, [.int w0]) (xW B m) (some (.int x.1), xW B x.2) := by
  unfold D59_2_1001_111 at h
  refine q_si (k := 2) (i := 4) (q := (.istore 4, 2, 0, 0, .null)) rfl (fun _ => rfl) (by decide) ?_
  have l0_1 : zld (zs1 lv 4 (.int w0)) 0 = some (.ref 2) := x_o1 l0 rfl rfl
  have l1_1 : zld (zs1 lv 4 (.int w0)) 1 = some (.ref 1001) := x_o1 l1 rfl rfl
  have l2_1 : zld (zs1 lv 4 (.int w0)) 2 = some (.int v2) := x_o1 l2 rfl rfl
  have l3_1 : zld (zs1 lv 4 (.int w0)) 3 = some (.int v3) := x_o1 l3 rfl rfl
  have l4_1 : zld (zs1 lv 4 (.int w0)) 4 = some (.int w0) := zs1_ld _ _ _
  have l5_1 : zld (zs1 lv 4 (.int w0)) 5 = some (.int v5) := x_o1 l5 rfl rfl
  generalize (zs1 lv 4 (.int w0)) = lv1 at *
  refine r_s (fr' := (138, lv1, [])) (hp' := xW B m) (q := (.goto 25, 3, 138, 0, .null)) rfl (fun _ => rfl) (Nat.le_refl _) ?_
  exact T59_2_1001_138 H X he F _ k55 l0_1 l1_1 l2_1 l3_1 l4_1 l5_1 h
def D59_2_1001_110 (F : Nat) (g55 : Int32 → Int32 → Int32 → Int32 → xS → Option (Int32 × xS)) (v2 : Int32) (v3 : Int32) (v4 : Int32) (v5 : Int32) (m : xS) : Option (Int32 × xS) :=
  D59_2_1001_111 F g55 v2 v3 v4 v5 (-1) m
set_option maxRecDepth 20000 in
theorem T59_2_1001_110 {B : zHp} (H : yH0 B) (X : yTx B) {e : Nat} (he : 6 ≤ e + 1) (F : Nat) (g55 : Int32 → Int32 → Int32 → Int32 → xS → Option (Int32 × xS)) (k55 : ∀ {v2 : Int32} {v3 : Int32} {v4 : Int32} {v5 : Int32} {lv : List (Nat × Value)} {m : xS} {x : Int32 × xS}, zld lv 0 = some (.ref 2) → zld lv 1 = some (.ref 1001) → zld lv 2 = some (.int v2) → zld lv 3 = some (.int v3) → zld lv 4 = some (.int v4) → zld lv 5 = some (.int v5) → g55 v2 v3 v4 v5 m = some x → zR none e 6 (some .int) zc59 (55, lv, []) (xW B m) (some (.int x.1), xW B x.2)) {v2 : Int32} {v3 : Int32} {v4 : Int32} {v5 : Int32} {lv : List (Nat × Value)} {m : xS} {x : Int32 × xS} (l0 : zld lv 0 = some (.ref 2)) (l1 : zld lv 1 = some (.ref 1001)) (l2 : zld lv 2 = some (.int v2)) (l3 : zld lv 3 = some (.int v3)) (l4 : zld lv 4 = some (.int v4)) (l5 : zld lv 5 = some (.int v5)) (h : D59_2_1001_110 F g55 v2 v3 v4 v5 m = some x) : zR none e 6 (some .int) zc59 (110, lv, []) (xW B m) (some (.int x.1), xW B x.2) := by
  unfold D59_2_1001_110 at h
  refine r_s (fr' := (111, lv, [.int (-1)])) (hp' := xW B m) (q := (.iconst (-1), 1, 0, 0, .null)) rfl (fun _ => rfl) (Nat.le_refl _) ?_
  exact T59_2_1001_111 H X he F _ k55 l0 l1 l2 l3 l4 l5 h
def D59_2_1001_55 (F : Nat) : Nat → Int32 → Int32 → Int32 → Int32 → xS → Option (Int32 × xS)
  | 0, _, _, _, _, _ => none
  | f + 1, v2, v3, v4, v5, m =>
    (D281_1001 F m).bind fun q58 =>
      if zcmp .ge v5 q58.1 = true then
        some ((-1), q58.2)
      else
        (D282_1001 F v5 q58.2).bind fun q67 =>
          if zcmp .eq q67.1 32 = true then
            if zcmp .ne v4 v2 = true then
              D59_2_1001_138 F (D59_2_1001_55 F f) v2 (v3 + Int32.ofInt 1) (q67.2.1 2 3) v5 q67.2
            else
              some (v3, (xu q67.2 2 2 v2))
          else
            if zcmp .eq v4 (-1) = true then
              D59_2_1001_110 F (D59_2_1001_55 F f) v2 v3 v4 v5 q67.2
            else
              if zcmp .ge v4 v2 = true then
                D59_2_1001_110 F (D59_2_1001_55 F f) v2 v3 v4 v5 q67.2
              else
                if xib v4 400 = true then
                  (D282_1001 F v5 q67.2).bind fun q97 =>
                    if zcmp .ne (q67.2.1 1 (v4 : Int32).toNatClampNeg) q97.1 = true then
                      D59_2_1001_110 F (D59_2_1001_55 F f) v2 v3 v4 v5 q97.2
                    else
                      D59_2_1001_111 F (D59_2_1001_55 F f) v2 v3 v4 v5 (v4 + 1) q97.2
                else none
set_option maxRecDepth 20000 in
theorem T59_2_1001_55 {B : zHp} (H : yH0 B) (X : yTx B) {e : Nat} (he : 6 ≤ e + 1) (F : Nat) : ∀ (f : Nat) {v2 : Int32} {v3 : Int32} {v4 : Int32} {v5 : Int32} {lv : List (Nat × Value)} {m : xS} {x : Int32 × xS}, zld lv 0 = some (.ref 2) → zld lv 1 = some (.ref 1001) → zld lv 2 = some (.int v2) → zld lv 3 = some (.int v3) → zld lv 4 = some (.int v4) → zld lv 5 = some (.int v5) → D59_2_1001_55 F f v2 v3 v4 v5 m = some x → zR none e 6 (some .int) zc59 (55, lv, []) (xW B m) (some (.int x.1), xW B x.2) := by
  intro f
  induction f with
  | zero => intro v2 v3 v4 v5 lv m x l0 l1 l2 l3 l4 l5 h; cases h
  | succ f ih =>
    intro v2 v3 v4 v5 lv m x l0 l1 l2 l3 l4 l5 h
    unfold D59_2_1001_55 at h
    refine q_li (k := 2) (i := 5) (q := (.iload 5, 2, 0, 0, .null)) rfl (fun _ => rfl) l5 ?_
    refine q_lr (k := 1) (i := 1) (q := (.aload_n 1, 1, 0, 0, .null)) rfl (fun _ => rfl) l1 ?_
    obtain ⟨q58, h58, h⟩ := xbind h
    refine r_call (ix := 1001) (as := []) (rest := [.int v5]) (rv := some (.int q58.1)) (hp' := xW B q58.2) (pc := 58) rfl xr281 rfl rfl rfl rfl (Nat.le_of_ble_eq_true rfl) (Z281_1001 H X h58 (by omega)) (Nat.le_refl _) ?_
    refine r_ifc (len := 3) (a := 144) (b := 0) (v0 := .null) (cn := .ge) (off := 83) rfl (fun c => ?_) (fun c => ?_)
    · rw [if_pos c] at h
      refine r_s (fr' := (145, lv, [.int (-1)])) (hp' := xW B q58.2) (q := (.iconst (-1), 1, 0, 0, .null)) rfl (fun _ => rfl) (Nat.le_refl _) ?_
      obtain rfl := Option.some.inj h
      exact q_ri (q := (.ireturn, 1, 0, 0, .null)) rfl (fun _ => rfl) rfl rfl
    · rw [if_neg (by rw [c]; decide)] at h
      refine q_lr (k := 1) (i := 1) (q := (.aload_n 1, 1, 0, 0, .null)) rfl (fun _ => rfl) l1 ?_
      refine q_li (k := 2) (i := 5) (q := (.iload 5, 2, 0, 0, .null)) rfl (fun _ => rfl) l5 ?_
      obtain ⟨q67, h67, h⟩ := xbind h
      refine r_call (ix := 1001) (as := [.int v5]) (rest := []) (rv := some (.int q67.1)) (hp' := xW B q67.2) (pc := 67) rfl xr282 rfl rfl rfl rfl (Nat.le_of_ble_eq_true rfl) (Z282_1001 H X h67 (by omega)) (Nat.le_refl _) ?_
      refine r_s (fr' := (72, lv, [.int 32, .int q67.1])) (hp' := xW B q67.2) (q := (.bipush 32, 2, 0, 0, .null)) rfl (fun _ => rfl) (Nat.le_refl _) ?_
      refine r_ifc (len := 3) (a := 116) (b := 0) (v0 := .null) (cn := .eq) (off := 44) rfl (fun c => ?_) (fun c => ?_)
      · rw [if_pos c] at h
        refine q_li (k := 2) (i := 4) (q := (.iload 4, 2, 0, 0, .null)) rfl (fun _ => rfl) l4 ?_
        refine q_li (k := 1) (i := 2) (q := (.iload_n 2, 1, 0, 0, .null)) rfl (fun _ => rfl) l2 ?_
        refine r_ifc (len := 3) (a := 129) (b := 0) (v0 := .null) (cn := .ne) (off := 10) rfl (fun c => ?_) (fun c => ?_)
        · rw [if_pos c] at h
          refine q_inc (i := 3) (n := 1) (q := (.iinc 3 1, 3, 0, 0, .null)) rfl (fun _ => rfl) l3 (by decide) ?_
          have l0_1 : zld (zs1 lv 3 (.int (v3 + Int32.ofInt 1))) 0 = some (.ref 2) := x_o1 l0 rfl rfl
          have l1_1 : zld (zs1 lv 3 (.int (v3 + Int32.ofInt 1))) 1 = some (.ref 1001) := x_o1 l1 rfl rfl
          have l2_1 : zld (zs1 lv 3 (.int (v3 + Int32.ofInt 1))) 2 = some (.int v2) := x_o1 l2 rfl rfl
          have l3_1 : zld (zs1 lv 3 (.int (v3 + Int32.ofInt 1))) 3 = some (.int (v3 + Int32.ofInt 1)) := zs1_ld _ _ _
          have l4_1 : zld (zs1 lv 3 (.int (v3 + Int32.ofInt 1))) 4 = some (.int v4) := x_o1 l4 rfl rfl
          have l5_1 : zld (zs1 lv 3 (.int (v3 + Int32.ofInt 1))) 5 = some (.int v5) := x_o1 l5 rfl rfl
          generalize (zs1 lv 3 (.int (v3 + Int32.ofInt 1))) = lv1 at *
          refine q_lr (k := 1) (i := 0) (q := (.aload_n 0, 1, 0, 0, .null)) rfl (fun _ => rfl) l0_1 ?_
          refine r_gi (v := (q67.2.1 2 3)) H (pc := 133) (i := _) rfl (by decide) (by decide) rfl ?_
          refine q_si (k := 2) (i := 4) (q := (.istore 4, 2, 0, 0, .null)) rfl (fun _ => rfl) (by decide) ?_
          have l0_2 : zld (zs1 lv1 4 (.int (q67.2.1 2 3))) 0 = some (.ref 2) := x_o1 l0_1 rfl rfl
          have l1_2 : zld (zs1 lv1 4 (.int (q67.2.1 2 3))) 1 = some (.ref 1001) := x_o1 l1_1 rfl rfl
          have l2_2 : zld (zs1 lv1 4 (.int (q67.2.1 2 3))) 2 = some (.int v2) := x_o1 l2_1 rfl rfl
          have l3_2 : zld (zs1 lv1 4 (.int (q67.2.1 2 3))) 3 = some (.int (v3 + Int32.ofInt 1)) := x_o1 l3_1 rfl rfl
          have l4_2 : zld (zs1 lv1 4 (.int (q67.2.1 2 3))) 4 = some (.int (q67.2.1 2 3)) := zs1_ld _ _ _
          have l5_2 : zld (zs1 lv1 4 (.int (q67.2.1 2 3))) 5 = some (.int v5) := x_o1 l5_1 rfl rfl
          generalize (zs1 lv1 4 (.int (q67.2.1 2 3))) = lv2 at *
          exact T59_2_1001_138 H X he F _ ih l0_2 l1_2 l2_2 l3_2 l4_2 l5_2 h
        · rw [if_neg (by rw [c]; decide)] at h
          refine q_lr (k := 1) (i := 0) (q := (.aload_n 0, 1, 0, 0, .null)) rfl (fun _ => rfl) l0 ?_
          refine q_li (k := 1) (i := 2) (q := (.iload_n 2, 1, 0, 0, .null)) rfl (fun _ => rfl) l2 ?_
          refine r_pi (s2 := (xu q67.2 2 2 v2)) H (pc := 124) rfl (by decide) rfl rfl ?_
          refine q_li (k := 1) (i := 3) (q := (.iload_n 3, 1, 0, 0, .null)) rfl (fun _ => rfl) l3 ?_
          obtain rfl := Option.some.inj h
          exact q_ri (q := (.ireturn, 1, 0, 0, .null)) rfl (fun _ => rfl) rfl rfl
      · rw [if_neg (by rw [c]; decide)] at h
        refine q_li (k := 2) (i := 4) (q := (.iload 4, 2, 0, 0, .null)) rfl (fun _ => rfl) l4 ?_
        refine r_s (fr' := (78, lv, [.int (-1), .int v4])) (hp' := xW B q67.2) (q := (.iconst (-1), 1, 0, 0, .null)) rfl (fun _ => rfl) (Nat.le_refl _) ?_
        refine r_ifc (len := 3) (a := 110) (b := 0) (v0 := .null) (cn := .eq) (off := 32) rfl (fun c => ?_) (fun c => ?_)
        · rw [if_pos c] at h
          exact T59_2_1001_110 H X he F _ ih l0 l1 l2 l3 l4 l5 h
        · rw [if_neg (by rw [c]; decide)] at h
          refine q_li (k := 2) (i := 4) (q := (.iload 4, 2, 0, 0, .null)) rfl (fun _ => rfl) l4 ?_
          refine q_li (k := 1) (i := 2) (q := (.iload_n 2, 1, 0, 0, .null)) rfl (fun _ => rfl) l2 ?_
          refine r_ifc (len := 3) (a := 110) (b := 0) (v0 := .null) (cn := .ge) (off := 26) rfl (fun c => ?_) (fun c => ?_)
          · rw [if_pos c] at h
            exact T59_2_1001_110 H X he F _ ih l0 l1 l2 l3 l4 l5 h
          · rw [if_neg (by rw [c]; decide)] at h
            refine q_lr (k := 1) (i := 0) (q := (.aload_n 0, 1, 0, 0, .null)) rfl (fun _ => rfl) l0 ?_
            refine r_grx H X (pc := 88) rfl ?_
            refine q_li (k := 2) (i := 4) (q := (.iload 4, 2, 0, 0, .null)) rfl (fun _ => rfl) l4 ?_
            obtain ⟨c3, h⟩ := xif h
            refine q_al (n := 400) (v := (q67.2.1 1 (v4 : Int32).toNatClampNeg)) H (pc := 93) rfl (by decide) c3 rfl ?_
            refine q_lr (k := 1) (i := 1) (q := (.aload_n 1, 1, 0, 0, .null)) rfl (fun _ => rfl) l1 ?_
            refine q_li (k := 2) (i := 5) (q := (.iload 5, 2, 0, 0, .null)) rfl (fun _ => rfl) l5 ?_
            obtain ⟨q97, h97, h⟩ := xbind h
            refine r_call (ix := 1001) (as := [.int v5]) (rest := [.int (q67.2.1 1 (v4 : Int32).toNatClampNeg)]) (rv := some (.int q97.1)) (hp' := xW B q97.2) (pc := 97) rfl xr282 rfl rfl rfl rfl (Nat.le_of_ble_eq_true rfl) (Z282_1001 H X h97 (by omega)) (Nat.le_refl _) ?_
            refine r_ifc (len := 3) (a := 110) (b := 0) (v0 := .null) (cn := .ne) (off := 10) rfl (fun c => ?_) (fun c => ?_)
            · rw [if_pos c] at h
              exact T59_2_1001_110 H X he F _ ih l0 l1 l2 l3 l4 l5 h
            · rw [if_neg (by rw [c]; decide)] at h
              refine q_li (k := 2) (i := 4) (q := (.iload 4, 2, 0, 0, .null)) rfl (fun _ => rfl) l4 ?_
              refine r_s (fr' := (106, lv, [.int 1, .int v4])) (hp' := xW B q97.2) (q := (.iconst 1, 1, 0, 0, .null)) rfl (fun _ => rfl) (Nat.le_refl _) ?_
              refine r_s (fr' := (107, lv, [.int (v4 + 1)])) (hp' := xW B q97.2) (q := (.iadd, 1, 0, 0, .null)) rfl (fun _ => rfl) (Nat.le_refl _) ?_
              refine r_s (fr' := (111, lv, [.int (v4 + 1)])) (hp' := xW B q97.2) (q := (.goto 4, 3, 111, 0, .null)) rfl (fun _ => rfl) (Nat.le_refl _) ?_
              exact T59_2_1001_111 H X he F _ ih l0 l1 l2 l3 l4 l5 h
def D59_2_1001_44 (F : Nat) (v2 : Int32) (m : xS) : Option (Int32 × xS) :=
  D59_2_1001_55 F F v2 0 (m.1 2 3) 0 m
set_option maxRecDepth 20000 in
theorem T59_2_1001_44 {B : zHp} (H : yH0 B) (X : yTx B) {e : Nat} (he : 6 ≤ e + 1) (F : Nat) {v2 : Int32} {lv : List (Nat × Value)} {m : xS} {x : Int32 × xS} (l0 : zld lv 0 = some (.ref 2)) (l1 : zld lv 1 = some (.ref 1001)) (l2 : zld lv 2 = some (.int v2)) (h : D59_2_1001_44 F v2 m = some x) : zR none e 6 (some .int) zc59 (44, lv, []) (xW B m) (some (.int x.1), xW B x.2) := by
  unfold D59_2_1001_44 at h
  refine r_s (fr' := (45, lv, [.int 0])) (hp' := xW B m) (q := (.iconst 0, 1, 0, 0, .null)) rfl (fun _ => rfl) (Nat.le_refl _) ?_
  refine q_si (k := 1) (i := 3) (q := (.istore_n 3, 1, 0, 0, .null)) rfl (fun _ => rfl) (by decide) ?_
  have l0_1 : zld (zs1 lv 3 (.int 0)) 0 = some (.ref 2) := x_o1 l0 rfl rfl
  have l1_1 : zld (zs1 lv 3 (.int 0)) 1 = some (.ref 1001) := x_o1 l1 rfl rfl
  have l2_1 : zld (zs1 lv 3 (.int 0)) 2 = some (.int v2) := x_o1 l2 rfl rfl
  have l3_1 : zld (zs1 lv 3 (.int 0)) 3 = some (.int 0) := zs1_ld _ _ _
  generalize (zs1 lv 3 (.int 0)) = lv1 at *
  refine q_lr (k := 1) (i := 0) (q := (.aload_n 0, 1, 0, 0, .null)) rfl (fun _ => rfl) l0_1 ?_
  refine r_gi (v := (m.1 2 3)) H (pc := 47) (i := _) rfl (by decide) (by decide) rfl ?_
  refine q_si (k := 2) (i := 4) (q := (.istore 4, 2, 0, 0, .null)) rfl (fun _ => rfl) (by decide) ?_
  have l0_2 : zld (zs1 lv1 4 (.int (m.1 2 3))) 0 = some (.ref 2) := x_o1 l0_1 rfl rfl
  have l1_2 : zld (zs1 lv1 4 (.int (m.1 2 3))) 1 = some (.ref 1001) := x_o1 l1_1 rfl rfl
  have l2_2 : zld (zs1 lv1 4 (.int (m.1 2 3))) 2 = some (.int v2) := x_o1 l2_1 rfl rfl
  have l3_2 : zld (zs1 lv1 4 (.int (m.1 2 3))) 3 = some (.int 0) := x_o1 l3_1 rfl rfl
  have l4_2 : zld (zs1 lv1 4 (.int (m.1 2 3))) 4 = some (.int (m.1 2 3)) := zs1_ld _ _ _
  generalize (zs1 lv1 4 (.int (m.1 2 3))) = lv2 at *
  refine r_s (fr' := (53, lv2, [.int 0])) (hp' := xW B m) (q := (.iconst 0, 1, 0, 0, .null)) rfl (fun _ => rfl) (Nat.le_refl _) ?_
  refine q_si (k := 2) (i := 5) (q := (.istore 5, 2, 0, 0, .null)) rfl (fun _ => rfl) (by decide) ?_
  have l0_3 : zld (zs1 lv2 5 (.int 0)) 0 = some (.ref 2) := x_o1 l0_2 rfl rfl
  have l1_3 : zld (zs1 lv2 5 (.int 0)) 1 = some (.ref 1001) := x_o1 l1_2 rfl rfl
  have l2_3 : zld (zs1 lv2 5 (.int 0)) 2 = some (.int v2) := x_o1 l2_2 rfl rfl
  have l3_3 : zld (zs1 lv2 5 (.int 0)) 3 = some (.int 0) := x_o1 l3_2 rfl rfl
  have l4_3 : zld (zs1 lv2 5 (.int 0)) 4 = some (.int (m.1 2 3)) := x_o1 l4_2 rfl rfl
  have l5_3 : zld (zs1 lv2 5 (.int 0)) 5 = some (.int 0) := zs1_ld _ _ _
  generalize (zs1 lv2 5 (.int 0)) = lv3 at *
  exact T59_2_1001_55 H X he F F l0_3 l1_3 l2_3 l3_3 l4_3 l5_3 h
def D59_2_1001_18 (F : Nat) : Nat → Int32 → xS → Option (Int32 × xS)
  | 0, _, _ => none
  | f + 1, v2, m =>
    if zcmp .ge v2 (m.1 2 1) = true then
      D59_2_1001_44 F v2 m
    else
      if xib v2 400 = true then
        (D57 F (m.1 1 (v2 : Int32).toNatClampNeg) m).bind fun q32 =>
          if zcmp .eq q32.1 0 = true then
            D59_2_1001_44 F v2 q32.2
          else
            D59_2_1001_18 F f (v2 + Int32.ofInt 1) q32.2
      else none
set_option maxRecDepth 20000 in
theorem T59_2_1001_18 {B : zHp} (H : yH0 B) (X : yTx B) {e : Nat} (he : 6 ≤ e + 1) (F : Nat) : ∀ (f : Nat) {v2 : Int32} {lv : List (Nat × Value)} {m : xS} {x : Int32 × xS}, zld lv 0 = some (.ref 2) → zld lv 1 = some (.ref 1001) → zld lv 2 = some (.int v2) → D59_2_1001_18 F f v2 m = some x → zR none e 6 (some .int) zc59 (18, lv, []) (xW B m) (some (.int x.1), xW B x.2) := by
  intro f
  induction f with
  | zero => intro v2 lv m x l0 l1 l2 h; cases h
  | succ f ih =>
    intro v2 lv m x l0 l1 l2 h
    unfold D59_2_1001_18 at h
    refine q_li (k := 1) (i := 2) (q := (.iload_n 2, 1, 0, 0, .null)) rfl (fun _ => rfl) l2 ?_
    refine q_lr (k := 1) (i := 0) (q := (.aload_n 0, 1, 0, 0, .null)) rfl (fun _ => rfl) l0 ?_
    refine r_gi (v := (m.1 2 1)) H (pc := 20) (i := _) rfl (by decide) (by decide) rfl ?_
    refine r_ifc (len := 3) (a := 44) (b := 0) (v0 := .null) (cn := .ge) (off := 21) rfl (fun c => ?_) (fun c => ?_)
    · rw [if_pos c] at h
      exact T59_2_1001_44 H X he F l0 l1 l2 h
    · rw [if_neg (by rw [c]; decide)] at h
      refine q_lr (k := 1) (i := 0) (q := (.aload_n 0, 1, 0, 0, .null)) rfl (fun _ => rfl) l0 ?_
      refine r_grx H X (pc := 27) rfl ?_
      refine q_li (k := 1) (i := 2) (q := (.iload_n 2, 1, 0, 0, .null)) rfl (fun _ => rfl) l2 ?_
      obtain ⟨c1, h⟩ := xif h
      refine q_al (n := 400) (v := (m.1 1 (v2 : Int32).toNatClampNeg)) H (pc := 31) rfl (by decide) c1 rfl ?_
      obtain ⟨q32, h32, h⟩ := xbind h
      refine r_callS (as := [.int (m.1 1 (v2 : Int32).toNatClampNeg)]) (rest := []) (rv := some (.int q32.1)) (hp' := xW B q32.2) (pc := 32) rfl xr57 rfl rfl rfl (Nat.le_of_ble_eq_true rfl) (Z57 H X h32 (by omega)) (Nat.le_refl _) ?_
      refine r_if (len := 3) (a := 44) (b := 0) (v0 := .null) (cn := .eq) (off := 9) rfl (fun c => ?_) (fun c => ?_)
      · rw [if_pos c] at h
        exact T59_2_1001_44 H X he F l0 l1 l2 h
      · rw [if_neg (by rw [c]; decide)] at h
        refine q_inc (i := 2) (n := 1) (q := (.iinc 2 1, 3, 0, 0, .null)) rfl (fun _ => rfl) l2 (by decide) ?_
        have l0_2 : zld (zs1 lv 2 (.int (v2 + Int32.ofInt 1))) 0 = some (.ref 2) := x_o1 l0 rfl rfl
        have l1_2 : zld (zs1 lv 2 (.int (v2 + Int32.ofInt 1))) 1 = some (.ref 1001) := x_o1 l1 rfl rfl
        have l2_2 : zld (zs1 lv 2 (.int (v2 + Int32.ofInt 1))) 2 = some (.int (v2 + Int32.ofInt 1)) := zs1_ld _ _ _
        generalize (zs1 lv 2 (.int (v2 + Int32.ofInt 1))) = lv2 at *
        refine r_s (fr' := (18, lv2, [])) (hp' := xW B q32.2) (q := (.goto (-23), 3, 18, 0, .null)) rfl (fun _ => rfl) (Nat.le_refl _) ?_
        exact ih l0_2 l1_2 l2_2 h
def D59_2_1001 (F : Nat) (m : xS) : Option (Int32 × xS) :=
  (D53_2 F m).bind fun q1 =>
    D59_2_1001_18 F F (q1.2.1 2 2) (xu q1.2 2 3 (q1.2.1 2 2))
set_option maxRecDepth 20000 in
theorem T59_2_1001 {B : zHp} (H : yH0 B) (X : yTx B) {e : Nat} (he : 6 ≤ e + 1) (F : Nat) {lv : List (Nat × Value)} {m : xS} {x : Int32 × xS} (l0 : zld lv 0 = some (.ref 2)) (l1 : zld lv 1 = some (.ref 1001)) (h : D59_2_1001 F m = some x) : zR none e 6 (some .int) zc59 (0, lv, []) (xW B m) (some (.int x.1), xW B x.2) := by
  unfold D59_2_1001 at h
  refine q_lr (k := 1) (i := 0) (q := (.aload_n 0, 1, 0, 0, .null)) rfl (fun _ => rfl) l0 ?_
  obtain ⟨q1, h1, h⟩ := xbind h
  refine r_call (ix := 2) (as := []) (rest := []) (rv := some (.int q1.1)) (hp' := xW B q1.2) (pc := 1) rfl xr53 rfl rfl rfl (xkd H (by decide)) (Nat.le_of_ble_eq_true rfl) (Z53_2 H X h1 (by omega)) (Nat.le_refl _) ?_
  refine r_s (fr' := (5, lv, [])) (hp' := xW B q1.2) (q := (.pop, 1, 0, 0, .null)) rfl (fun _ => rfl) (Nat.le_refl _) ?_
  refine q_lr (k := 1) (i := 0) (q := (.aload_n 0, 1, 0, 0, .null)) rfl (fun _ => rfl) l0 ?_
  refine q_lr (k := 1) (i := 0) (q := (.aload_n 0, 1, 0, 0, .null)) rfl (fun _ => rfl) l0 ?_
  refine r_gi (v := (q1.2.1 2 2)) H (pc := 7) (i := _) rfl (by decide) (by decide) rfl ?_
  refine r_pi (s2 := (xu q1.2 2 3 (q1.2.1 2 2))) H (pc := 10) rfl (by decide) rfl rfl ?_
  refine q_lr (k := 1) (i := 0) (q := (.aload_n 0, 1, 0, 0, .null)) rfl (fun _ => rfl) l0 ?_
  refine r_gi (v := (q1.2.1 2 2)) H (pc := 14) (i := _) rfl (by decide) (by decide) rfl ?_
  refine q_si (k := 1) (i := 2) (q := (.istore_n 2, 1, 0, 0, .null)) rfl (fun _ => rfl) (by decide) ?_
  have l0_1 : zld (zs1 lv 2 (.int (q1.2.1 2 2))) 0 = some (.ref 2) := x_o1 l0 rfl rfl
  have l1_1 : zld (zs1 lv 2 (.int (q1.2.1 2 2))) 1 = some (.ref 1001) := x_o1 l1 rfl rfl
  have l2_1 : zld (zs1 lv 2 (.int (q1.2.1 2 2))) 2 = some (.int (q1.2.1 2 2)) := zs1_ld _ _ _
  generalize (zs1 lv 2 (.int (q1.2.1 2 2))) = lv1 at *
  exact T59_2_1001_18 H X he F F l0_1 l1_1 l2_1 h
set_option maxRecDepth 20000 in
theorem Z59_2_1001 {B : zHp} (H : yH0 B) (X : yTx B) {F : Nat} {m : xS} {x : Int32 × xS} (h : D59_2_1001 F m = some x) {d : Nat} (hd : 6 ≤ d) : zCan d 59 [.ref 2, .ref 1001] (xW B m) (some (.int x.1), xW B x.2) := by
  obtain ⟨e, rfl⟩ : ∃ e, d = e + 1 := ⟨d - 1, by omega⟩
  refine zCan_body (nL := 6) (rt := (some .int)) (cd := zc59) (xg59) ⟨Nat.le_of_ble_eq_true rfl, by decide⟩ (Nat.le_refl _) ?_
  exact T59_2_1001 H X hd F rfl rfl h
/-- LentTools$Text.expectWord -/
def D60_2_1001_20 (F : Nat) (v2 : Int32) (m : xS) : Option (Int32 × xS) :=
  some (v2, m)
set_option maxRecDepth 20000 in
theorem T60_2_1001_20 {B : zHp} (H : yH0 B) (X : yTx B) {e : Nat} (he : 7 ≤ e + 1) (F : Nat) {v2 : Int32} {lv : List (Nat × Value)} {m : xS} {x : Int32 × xS} (l0 : zld lv 0 = some (.ref 2)) (l1 : zld lv 1 = some (.ref 1001)) (l2 : zld lv 2 = some (.int v2)) (h : D60_2_1001_20 F v2 m = some x) : zR none e 3 (some .int) zc60 (20, lv, []) (xW B m) (some (.int x.1), xW B x.2) := by
  unfold D60_2_1001_20 at h
  refine q_li (k := 1) (i := 2) (q := (.iload_n 2, 1, 0, 0, .null)) rfl (fun _ => rfl) l2 ?_
  obtain rfl := Option.some.inj h
  exact q_ri (q := (.ireturn, 1, 0, 0, .null)) rfl (fun _ => rfl) rfl rfl
def D60_2_1001 (F : Nat) (m : xS) : Option (Int32 × xS) :=
  (D59_2_1001 F m).bind fun q2 =>
    if zcmp .ne q2.1 (-1) = true then
      D60_2_1001_20 F q2.1 q2.2
    else
      (D52_2 F (q2.2.1 2 3) 0 q2.2).bind fun q17 =>
        D60_2_1001_20 F q2.1 q17.2
set_option maxRecDepth 20000 in
theorem T60_2_1001 {B : zHp} (H : yH0 B) (X : yTx B) {e : Nat} (he : 7 ≤ e + 1) (F : Nat) {lv : List (Nat × Value)} {m : xS} {x : Int32 × xS} (l0 : zld lv 0 = some (.ref 2)) (l1 : zld lv 1 = some (.ref 1001)) (h : D60_2_1001 F m = some x) : zR none e 3 (some .int) zc60 (0, lv, []) (xW B m) (some (.int x.1), xW B x.2) := by
  unfold D60_2_1001 at h
  refine q_lr (k := 1) (i := 0) (q := (.aload_n 0, 1, 0, 0, .null)) rfl (fun _ => rfl) l0 ?_
  refine q_lr (k := 1) (i := 1) (q := (.aload_n 1, 1, 0, 0, .null)) rfl (fun _ => rfl) l1 ?_
  obtain ⟨q2, h2, h⟩ := xbind h
  refine r_call (ix := 2) (as := [.ref 1001]) (rest := []) (rv := some (.int q2.1)) (hp' := xW B q2.2) (pc := 2) rfl xr59 rfl rfl rfl (xkd H (by decide)) (Nat.le_of_ble_eq_true rfl) (Z59_2_1001 H X h2 (by omega)) (Nat.le_refl _) ?_
  refine q_si (k := 1) (i := 2) (q := (.istore_n 2, 1, 0, 0, .null)) rfl (fun _ => rfl) (by decide) ?_
  have l0_1 : zld (zs1 lv 2 (.int q2.1)) 0 = some (.ref 2) := x_o1 l0 rfl rfl
  have l1_1 : zld (zs1 lv 2 (.int q2.1)) 1 = some (.ref 1001) := x_o1 l1 rfl rfl
  have l2_1 : zld (zs1 lv 2 (.int q2.1)) 2 = some (.int q2.1) := zs1_ld _ _ _
  generalize (zs1 lv 2 (.int q2.1)) = lv1 at *
  refine q_li (k := 1) (i := 2) (q := (.iload_n 2, 1, 0, 0, .null)) rfl (fun _ => rfl) l2_1 ?_
  refine r_s (fr' := (8, lv1, [.int (-1), .int q2.1])) (hp' := xW B q2.2) (q := (.iconst (-1), 1, 0, 0, .null)) rfl (fun _ => rfl) (Nat.le_refl _) ?_
  refine r_ifc (len := 3) (a := 20) (b := 0) (v0 := .null) (cn := .ne) (off := 12) rfl (fun c => ?_) (fun c => ?_)
  · rw [if_pos c] at h
    exact T60_2_1001_20 H X he F l0_1 l1_1 l2_1 h
  · rw [if_neg (by rw [c]; decide)] at h
    refine q_lr (k := 1) (i := 0) (q := (.aload_n 0, 1, 0, 0, .null)) rfl (fun _ => rfl) l0_1 ?_
    refine q_lr (k := 1) (i := 0) (q := (.aload_n 0, 1, 0, 0, .null)) rfl (fun _ => rfl) l0_1 ?_
    refine r_gi (v := (q2.2.1 2 3)) H (pc := 13) (i := _) rfl (by decide) (by decide) rfl ?_
    refine r_s (fr' := (17, lv1, [.int 0, .int (q2.2.1 2 3), .ref 2])) (hp' := xW B q2.2) (q := (.iconst 0, 1, 0, 0, .null)) rfl (fun _ => rfl) (Nat.le_refl _) ?_
    obtain ⟨q17, h17, h⟩ := xbind h
    refine r_call (ix := 2) (as := [.int (q2.2.1 2 3), .int 0]) (rest := []) (rv := none) (hp' := xW B q17.2) (pc := 17) rfl xr52 rfl rfl rfl (xkd H (by decide)) (Nat.le_of_ble_eq_true rfl) (Z52_2 H X h17 (by omega)) (Nat.le_refl _) ?_
    exact T60_2_1001_20 H X he F l0_1 l1_1 l2_1 h
set_option maxRecDepth 20000 in
theorem Z60_2_1001 {B : zHp} (H : yH0 B) (X : yTx B) {F : Nat} {m : xS} {x : Int32 × xS} (h : D60_2_1001 F m = some x) {d : Nat} (hd : 7 ≤ d) : zCan d 60 [.ref 2, .ref 1001] (xW B m) (some (.int x.1), xW B x.2) := by
  obtain ⟨e, rfl⟩ : ∃ e, d = e + 1 := ⟨d - 1, by omega⟩
  refine zCan_body (nL := 3) (rt := (some .int)) (cd := zc60) (xg60) ⟨Nat.le_of_ble_eq_true rfl, by decide⟩ (Nat.le_refl _) ?_
  exact T60_2_1001 H X hd F rfl rfl h
/-- LentTools$Village.tools -/
def D79_11 (F : Nat) (m : xS) : Option (Int32 × xS) :=
  some ((m.1 12 2), m)
set_option maxRecDepth 20000 in
theorem T79_11 {B : zHp} (H : yH0 B) (X : yTx B) {e : Nat} (he : 1 ≤ e + 1) (F : Nat) {lv : List (Nat × Value)} {m : xS} {x : Int32 × xS} (l0 : zld lv 0 = some (.ref 11)) (h : D79_11 F m = some x) : zR none e 1 (some .int) zc79 (0, lv, []) (xW B m) (some (.int x.1), xW B x.2) := by
  unfold D79_11 at h
  refine q_lr (k := 1) (i := 0) (q := (.aload_n 0, 1, 0, 0, .null)) rfl (fun _ => rfl) l0 ?_
  refine r_gr (c := 12) H (pc := 1) rfl (by decide) (by decide) ?_
  refine r_s (fr' := (5, lv, [.int 2, .ref 12])) (hp' := xW B m) (q := (.iconst 2, 1, 0, 0, .null)) rfl (fun _ => rfl) (Nat.le_refl _) ?_
  refine q_al (n := 114) (v := (m.1 12 2)) H (pc := 5) rfl (by decide) (by decide) rfl ?_
  obtain rfl := Option.some.inj h
  exact q_ri (q := (.ireturn, 1, 0, 0, .null)) rfl (fun _ => rfl) rfl rfl
set_option maxRecDepth 20000 in
theorem Z79_11 {B : zHp} (H : yH0 B) (X : yTx B) {F : Nat} {m : xS} {x : Int32 × xS} (h : D79_11 F m = some x) {d : Nat} (hd : 1 ≤ d) : zCan d 79 [.ref 11] (xW B m) (some (.int x.1), xW B x.2) := by
  obtain ⟨e, rfl⟩ : ∃ e, d = e + 1 := ⟨d - 1, by omega⟩
  refine zCan_body (nL := 1) (rt := (some .int)) (cd := zc79) (xg79) ⟨Nat.le_of_ble_eq_true rfl, by decide⟩ (Nat.le_refl _) ?_
  exact T79_11 H X hd F rfl h
/-- LentTools$Village.works -/
def D80_11 (F : Nat) (m : xS) : Option (Int32 × xS) :=
  some ((m.1 12 3), m)
set_option maxRecDepth 20000 in
theorem T80_11 {B : zHp} (H : yH0 B) (X : yTx B) {e : Nat} (he : 1 ≤ e + 1) (F : Nat) {lv : List (Nat × Value)} {m : xS} {x : Int32 × xS} (l0 : zld lv 0 = some (.ref 11)) (h : D80_11 F m = some x) : zR none e 1 (some .int) zc80 (0, lv, []) (xW B m) (some (.int x.1), xW B x.2) := by
  unfold D80_11 at h
  refine q_lr (k := 1) (i := 0) (q := (.aload_n 0, 1, 0, 0, .null)) rfl (fun _ => rfl) l0 ?_
  refine r_gr (c := 12) H (pc := 1) rfl (by decide) (by decide) ?_
  refine r_s (fr' := (5, lv, [.int 3, .ref 12])) (hp' := xW B m) (q := (.iconst 3, 1, 0, 0, .null)) rfl (fun _ => rfl) (Nat.le_refl _) ?_
  refine q_al (n := 114) (v := (m.1 12 3)) H (pc := 5) rfl (by decide) (by decide) rfl ?_
  obtain rfl := Option.some.inj h
  exact q_ri (q := (.ireturn, 1, 0, 0, .null)) rfl (fun _ => rfl) rfl rfl
set_option maxRecDepth 20000 in
theorem Z80_11 {B : zHp} (H : yH0 B) (X : yTx B) {F : Nat} {m : xS} {x : Int32 × xS} (h : D80_11 F m = some x) {d : Nat} (hd : 1 ≤ d) : zCan d 80 [.ref 11] (xW B m) (some (.int x.1), xW B x.2) := by
  obtain ⟨e, rfl⟩ : ∃ e, d = e + 1 := ⟨d - 1, by omega⟩
  refine zCan_body (nL := 1) (rt := (some .int)) (cd := zc80) (xg80) ⟨Nat.le_of_ble_eq_true rfl, by decide⟩ (Nat.le_refl _) ?_
  exact T80_11 H X hd F rfl h
/-- LentTools$VillageReader.mayStand -/
def D118_11_20 (F : Nat) (v1 : Int32) (v2 : Int32) (m : xS) : Option (Int32 × xS) :=
  some (0, m)
set_option maxRecDepth 20000 in
theorem T118_11_20 {B : zHp} (H : yH0 B) (X : yTx B) {e : Nat} (he : 2 ≤ e + 1) (F : Nat) {v1 : Int32} {v2 : Int32} {lv : List (Nat × Value)} {m : xS} {x : Int32 × xS} (l0 : zld lv 0 = some (.ref 11)) (l1 : zld lv 1 = some (.int v1)) (l2 : zld lv 2 = some (.int v2)) (h : D118_11_20 F v1 v2 m = some x) : zR none e 3 (some .boolean) zc118 (20, lv, []) (xW B m) (some (.int x.1), xW B x.2) := by
  unfold D118_11_20 at h
  refine r_s (fr' := (21, lv, [.int 0])) (hp' := xW B m) (q := (.iconst 0, 1, 0, 0, .null)) rfl (fun _ => rfl) (Nat.le_refl _) ?_
  obtain rfl := Option.some.inj h
  exact q_ri (q := (.ireturn, 1, 0, 0, .null)) rfl (fun _ => rfl) rfl rfl
def D118_11_8 (F : Nat) (v1 : Int32) (v2 : Int32) (m : xS) : Option (Int32 × xS) :=
  if zcmp .ne v2 0 = true then
    D118_11_20 F v1 v2 m
  else
    if zcmp .ne v1 0 = true then
      D118_11_20 F v1 v2 m
    else
      some (1, m)
set_option maxRecDepth 20000 in
theorem T118_11_8 {B : zHp} (H : yH0 B) (X : yTx B) {e : Nat} (he : 2 ≤ e + 1) (F : Nat) {v1 : Int32} {v2 : Int32} {lv : List (Nat × Value)} {m : xS} {x : Int32 × xS} (l0 : zld lv 0 = some (.ref 11)) (l1 : zld lv 1 = some (.int v1)) (l2 : zld lv 2 = some (.int v2)) (h : D118_11_8 F v1 v2 m = some x) : zR none e 3 (some .boolean) zc118 (8, lv, []) (xW B m) (some (.int x.1), xW B x.2) := by
  unfold D118_11_8 at h
  refine q_li (k := 1) (i := 2) (q := (.iload_n 2, 1, 0, 0, .null)) rfl (fun _ => rfl) l2 ?_
  refine r_if (len := 3) (a := 20) (b := 0) (v0 := .null) (cn := .ne) (off := 11) rfl (fun c => ?_) (fun c => ?_)
  · rw [if_pos c] at h
    exact T118_11_20 H X he F l0 l1 l2 h
  · rw [if_neg (by rw [c]; decide)] at h
    refine q_li (k := 1) (i := 1) (q := (.iload_n 1, 1, 0, 0, .null)) rfl (fun _ => rfl) l1 ?_
    refine r_if (len := 3) (a := 20) (b := 0) (v0 := .null) (cn := .ne) (off := 7) rfl (fun c => ?_) (fun c => ?_)
    · rw [if_pos c] at h
      exact T118_11_20 H X he F l0 l1 l2 h
    · rw [if_neg (by rw [c]; decide)] at h
      refine r_s (fr' := (17, lv, [.int 1])) (hp' := xW B m) (q := (.iconst 1, 1, 0, 0, .null)) rfl (fun _ => rfl) (Nat.le_refl _) ?_
      refine r_s (fr' := (21, lv, [.int 1])) (hp' := xW B m) (q := (.goto 4, 3, 21, 0, .null)) rfl (fun _ => rfl) (Nat.le_refl _) ?_
      obtain rfl := Option.some.inj h
      exact q_ri (q := (.ireturn, 1, 0, 0, .null)) rfl (fun _ => rfl) rfl rfl
def D118_11_58 (F : Nat) (v1 : Int32) (v2 : Int32) (m : xS) : Option (Int32 × xS) :=
  some (1, m)
set_option maxRecDepth 20000 in
theorem T118_11_58 {B : zHp} (H : yH0 B) (X : yTx B) {e : Nat} (he : 2 ≤ e + 1) (F : Nat) {v1 : Int32} {v2 : Int32} {lv : List (Nat × Value)} {m : xS} {x : Int32 × xS} (l0 : zld lv 0 = some (.ref 11)) (l1 : zld lv 1 = some (.int v1)) (l2 : zld lv 2 = some (.int v2)) (h : D118_11_58 F v1 v2 m = some x) : zR none e 3 (some .boolean) zc118 (58, lv, []) (xW B m) (some (.int x.1), xW B x.2) := by
  unfold D118_11_58 at h
  refine r_s (fr' := (59, lv, [.int 1])) (hp' := xW B m) (q := (.iconst 1, 1, 0, 0, .null)) rfl (fun _ => rfl) (Nat.le_refl _) ?_
  refine r_s (fr' := (63, lv, [.int 1])) (hp' := xW B m) (q := (.goto 4, 3, 63, 0, .null)) rfl (fun _ => rfl) (Nat.le_refl _) ?_
  obtain rfl := Option.some.inj h
  exact q_ri (q := (.ireturn, 1, 0, 0, .null)) rfl (fun _ => rfl) rfl rfl
def D118_11_62 (F : Nat) (v1 : Int32) (v2 : Int32) (m : xS) : Option (Int32 × xS) :=
  some (0, m)
set_option maxRecDepth 20000 in
theorem T118_11_62 {B : zHp} (H : yH0 B) (X : yTx B) {e : Nat} (he : 2 ≤ e + 1) (F : Nat) {v1 : Int32} {v2 : Int32} {lv : List (Nat × Value)} {m : xS} {x : Int32 × xS} (l0 : zld lv 0 = some (.ref 11)) (l1 : zld lv 1 = some (.int v1)) (l2 : zld lv 2 = some (.int v2)) (h : D118_11_62 F v1 v2 m = some x) : zR none e 3 (some .boolean) zc118 (62, lv, []) (xW B m) (some (.int x.1), xW B x.2) := by
  unfold D118_11_62 at h
  refine r_s (fr' := (63, lv, [.int 0])) (hp' := xW B m) (q := (.iconst 0, 1, 0, 0, .null)) rfl (fun _ => rfl) (Nat.le_refl _) ?_
  obtain rfl := Option.some.inj h
  exact q_ri (q := (.ireturn, 1, 0, 0, .null)) rfl (fun _ => rfl) rfl rfl
def D118_11_38 (F : Nat) (v1 : Int32) (v2 : Int32) (m : xS) : Option (Int32 × xS) :=
  if zcmp .ge v2 40 = true then
    D118_11_62 F v1 v2 m
  else
    if zcmp .ne v1 3 = true then
      D118_11_58 F v1 v2 m
    else
      (D80_11 F m).bind fun q50 =>
        if zcmp .ge q50.1 6 = true then
          D118_11_62 F v1 v2 q50.2
        else
          D118_11_58 F v1 v2 q50.2
set_option maxRecDepth 20000 in
theorem T118_11_38 {B : zHp} (H : yH0 B) (X : yTx B) {e : Nat} (he : 2 ≤ e + 1) (F : Nat) {v1 : Int32} {v2 : Int32} {lv : List (Nat × Value)} {m : xS} {x : Int32 × xS} (l0 : zld lv 0 = some (.ref 11)) (l1 : zld lv 1 = some (.int v1)) (l2 : zld lv 2 = some (.int v2)) (h : D118_11_38 F v1 v2 m = some x) : zR none e 3 (some .boolean) zc118 (38, lv, []) (xW B m) (some (.int x.1), xW B x.2) := by
  unfold D118_11_38 at h
  refine q_li (k := 1) (i := 2) (q := (.iload_n 2, 1, 0, 0, .null)) rfl (fun _ => rfl) l2 ?_
  refine r_s (fr' := (41, lv, [.int 40, .int v2])) (hp' := xW B m) (q := (.bipush 40, 2, 0, 0, .null)) rfl (fun _ => rfl) (Nat.le_refl _) ?_
  refine r_ifc (len := 3) (a := 62) (b := 0) (v0 := .null) (cn := .ge) (off := 21) rfl (fun c => ?_) (fun c => ?_)
  · rw [if_pos c] at h
    exact T118_11_62 H X he F l0 l1 l2 h
  · rw [if_neg (by rw [c]; decide)] at h
    refine q_li (k := 1) (i := 1) (q := (.iload_n 1, 1, 0, 0, .null)) rfl (fun _ => rfl) l1 ?_
    refine r_s (fr' := (46, lv, [.int 3, .int v1])) (hp' := xW B m) (q := (.iconst 3, 1, 0, 0, .null)) rfl (fun _ => rfl) (Nat.le_refl _) ?_
    refine r_ifc (len := 3) (a := 58) (b := 0) (v0 := .null) (cn := .ne) (off := 12) rfl (fun c => ?_) (fun c => ?_)
    · rw [if_pos c] at h
      exact T118_11_58 H X he F l0 l1 l2 h
    · rw [if_neg (by rw [c]; decide)] at h
      refine q_lr (k := 1) (i := 0) (q := (.aload_n 0, 1, 0, 0, .null)) rfl (fun _ => rfl) l0 ?_
      obtain ⟨q50, h50, h⟩ := xbind h
      refine r_call (ix := 11) (as := []) (rest := []) (rv := some (.int q50.1)) (hp' := xW B q50.2) (pc := 50) rfl xr80 rfl rfl rfl (xkd H (by decide)) (Nat.le_of_ble_eq_true rfl) (Z80_11 H X h50 (by omega)) (Nat.le_refl _) ?_
      refine r_s (fr' := (55, lv, [.int 6, .int q50.1])) (hp' := xW B q50.2) (q := (.bipush 6, 2, 0, 0, .null)) rfl (fun _ => rfl) (Nat.le_refl _) ?_
      refine r_ifc (len := 3) (a := 62) (b := 0) (v0 := .null) (cn := .ge) (off := 7) rfl (fun c => ?_) (fun c => ?_)
      · rw [if_pos c] at h
        exact T118_11_62 H X he F l0 l1 l2 h
      · rw [if_neg (by rw [c]; decide)] at h
        exact T118_11_58 H X he F l0 l1 l2 h
def D118_11 (F : Nat) (v1 : Int32) (v2 : Int32) (m : xS) : Option (Int32 × xS) :=
  if zcmp .eq v2 0 = true then
    D118_11_8 F v1 v2 m
  else
    if zcmp .ne v1 0 = true then
      if zcmp .ne v1 1 = true then
        D118_11_38 F v1 v2 m
      else
        (D79_11 F m).bind fun q28 =>
          if zcmp .lt q28.1 6 = true then
            D118_11_38 F v1 v2 q28.2
          else
            some (0, q28.2)
    else
      D118_11_8 F v1 v2 m
set_option maxRecDepth 20000 in
theorem T118_11 {B : zHp} (H : yH0 B) (X : yTx B) {e : Nat} (he : 2 ≤ e + 1) (F : Nat) {v1 : Int32} {v2 : Int32} {lv : List (Nat × Value)} {m : xS} {x : Int32 × xS} (l0 : zld lv 0 = some (.ref 11)) (l1 : zld lv 1 = some (.int v1)) (l2 : zld lv 2 = some (.int v2)) (h : D118_11 F v1 v2 m = some x) : zR none e 3 (some .boolean) zc118 (0, lv, []) (xW B m) (some (.int x.1), xW B x.2) := by
  unfold D118_11 at h
  refine q_li (k := 1) (i := 2) (q := (.iload_n 2, 1, 0, 0, .null)) rfl (fun _ => rfl) l2 ?_
  refine r_if (len := 3) (a := 8) (b := 0) (v0 := .null) (cn := .eq) (off := 7) rfl (fun c => ?_) (fun c => ?_)
  · rw [if_pos c] at h
    exact T118_11_8 H X he F l0 l1 l2 h
  · rw [if_neg (by rw [c]; decide)] at h
    refine q_li (k := 1) (i := 1) (q := (.iload_n 1, 1, 0, 0, .null)) rfl (fun _ => rfl) l1 ?_
    refine r_if (len := 3) (a := 22) (b := 0) (v0 := .null) (cn := .ne) (off := 17) rfl (fun c => ?_) (fun c => ?_)
    · rw [if_pos c] at h
      refine q_li (k := 1) (i := 1) (q := (.iload_n 1, 1, 0, 0, .null)) rfl (fun _ => rfl) l1 ?_
      refine r_s (fr' := (24, lv, [.int 1, .int v1])) (hp' := xW B m) (q := (.iconst 1, 1, 0, 0, .null)) rfl (fun _ => rfl) (Nat.le_refl _) ?_
      refine r_ifc (len := 3) (a := 38) (b := 0) (v0 := .null) (cn := .ne) (off := 14) rfl (fun c => ?_) (fun c => ?_)
      · rw [if_pos c] at h
        exact T118_11_38 H X he F l0 l1 l2 h
      · rw [if_neg (by rw [c]; decide)] at h
        refine q_lr (k := 1) (i := 0) (q := (.aload_n 0, 1, 0, 0, .null)) rfl (fun _ => rfl) l0 ?_
        obtain ⟨q28, h28, h⟩ := xbind h
        refine r_call (ix := 11) (as := []) (rest := []) (rv := some (.int q28.1)) (hp' := xW B q28.2) (pc := 28) rfl xr79 rfl rfl rfl (xkd H (by decide)) (Nat.le_of_ble_eq_true rfl) (Z79_11 H X h28 (by omega)) (Nat.le_refl _) ?_
        refine r_s (fr' := (33, lv, [.int 6, .int q28.1])) (hp' := xW B q28.2) (q := (.bipush 6, 2, 0, 0, .null)) rfl (fun _ => rfl) (Nat.le_refl _) ?_
        refine r_ifc (len := 3) (a := 38) (b := 0) (v0 := .null) (cn := .lt) (off := 5) rfl (fun c => ?_) (fun c => ?_)
        · rw [if_pos c] at h
          exact T118_11_38 H X he F l0 l1 l2 h
        · rw [if_neg (by rw [c]; decide)] at h
          refine r_s (fr' := (37, lv, [.int 0])) (hp' := xW B q28.2) (q := (.iconst 0, 1, 0, 0, .null)) rfl (fun _ => rfl) (Nat.le_refl _) ?_
          obtain rfl := Option.some.inj h
          exact q_ri (q := (.ireturn, 1, 0, 0, .null)) rfl (fun _ => rfl) rfl rfl
    · rw [if_neg (by rw [c]; decide)] at h
      exact T118_11_8 H X he F l0 l1 l2 h
set_option maxRecDepth 20000 in
theorem Z118_11 {B : zHp} (H : yH0 B) (X : yTx B) {F : Nat} {a1 : Int32} {a2 : Int32} {m : xS} {x : Int32 × xS} (h : D118_11 F a1 a2 m = some x) {d : Nat} (hd : 2 ≤ d) : zCan d 118 [.ref 11, .int a1, .int a2] (xW B m) (some (.int x.1), xW B x.2) := by
  obtain ⟨e, rfl⟩ : ∃ e, d = e + 1 := ⟨d - 1, by omega⟩
  refine zCan_body (nL := 3) (rt := (some .boolean)) (cd := zc118) (xg118) ⟨Nat.le_of_ble_eq_true rfl, by decide⟩ (Nat.le_refl _) ?_
  exact T118_11 H X hd F rfl rfl rfl h
/-- LentTools$Village.houses -/
def D77_11 (F : Nat) (m : xS) : Option (Int32 × xS) :=
  some ((m.1 12 0), m)
set_option maxRecDepth 20000 in
theorem T77_11 {B : zHp} (H : yH0 B) (X : yTx B) {e : Nat} (he : 1 ≤ e + 1) (F : Nat) {lv : List (Nat × Value)} {m : xS} {x : Int32 × xS} (l0 : zld lv 0 = some (.ref 11)) (h : D77_11 F m = some x) : zR none e 1 (some .int) zc77 (0, lv, []) (xW B m) (some (.int x.1), xW B x.2) := by
  unfold D77_11 at h
  refine q_lr (k := 1) (i := 0) (q := (.aload_n 0, 1, 0, 0, .null)) rfl (fun _ => rfl) l0 ?_
  refine r_gr (c := 12) H (pc := 1) rfl (by decide) (by decide) ?_
  refine r_s (fr' := (5, lv, [.int 0, .ref 12])) (hp' := xW B m) (q := (.iconst 0, 1, 0, 0, .null)) rfl (fun _ => rfl) (Nat.le_refl _) ?_
  refine q_al (n := 114) (v := (m.1 12 0)) H (pc := 5) rfl (by decide) (by decide) rfl ?_
  obtain rfl := Option.some.inj h
  exact q_ri (q := (.ireturn, 1, 0, 0, .null)) rfl (fun _ => rfl) rfl rfl
set_option maxRecDepth 20000 in
theorem Z77_11 {B : zHp} (H : yH0 B) (X : yTx B) {F : Nat} {m : xS} {x : Int32 × xS} (h : D77_11 F m = some x) {d : Nat} (hd : 1 ≤ d) : zCan d 77 [.ref 11] (xW B m) (some (.int x.1), xW B x.2) := by
  obtain ⟨e, rfl⟩ : ∃ e, d = e + 1 := ⟨d - 1, by omega⟩
  refine zCan_body (nL := 1) (rt := (some .int)) (cd := zc77) (xg77) ⟨Nat.le_of_ble_eq_true rfl, by decide⟩ (Nat.le_refl _) ?_
  exact T77_11 H X hd F rfl h
/-- LentTools$VillageReader.readNumbers -/
def D119_4_2_131 (F : Nat) (g10 : Int32 → Int32 → Int32 → Int32 → xS → Option (Unit × xS)) (v2 : Int32) (v3 : Int32) (v4 : Int32) (v5 : Int32) (v6 : Int32) (v7 : Int32) (m : xS) : Option (Unit × xS) :=
  g10 v2 v3 v4 (v5 + Int32.ofInt 1) m
set_option maxRecDepth 20000 in
theorem T119_4_2_131 {B : zHp} (H : yH0 B) (X : yTx B) {e : Nat} (he : 3 ≤ e + 1) (F : Nat) (g10 : Int32 → Int32 → Int32 → Int32 → xS → Option (Unit × xS)) (k10 : ∀ {v2 : Int32} {v3 : Int32} {v4 : Int32} {v5 : Int32} {lv : List (Nat × Value)} {m : xS} {x : Unit × xS}, zld lv 0 = some (.ref 4) → zld lv 1 = some (.ref 2) → zld lv 2 = some (.int v2) → zld lv 3 = some (.int v3) → zld lv 4 = some (.int v4) → zld lv 5 = some (.int v5) → g10 v2 v3 v4 v5 m = some x → zR none e 8 none zc119 (10, lv, []) (xW B m) (none, xW B x.2)) {v2 : Int32} {v3 : Int32} {v4 : Int32} {v5 : Int32} {v6 : Int32} {v7 : Int32} {lv : List (Nat × Value)} {m : xS} {x : Unit × xS} (l0 : zld lv 0 = some (.ref 4)) (l1 : zld lv 1 = some (.ref 2)) (l2 : zld lv 2 = some (.int v2)) (l3 : zld lv 3 = some (.int v3)) (l4 : zld lv 4 = some (.int v4)) (l5 : zld lv 5 = some (.int v5)) (l6 : zld lv 6 = some (.int v6)) (l7 : zld lv 7 = some (.int v7)) (h : D119_4_2_131 F g10 v2 v3 v4 v5 v6 v7 m = some x) : zR none e 8 none zc119 (131, lv, []) (xW B m) (none, xW B x.2) := by
  unfold D119_4_2_131 at h
  refine q_inc (i := 5) (n := 1) (q := (.iinc 5 1, 3, 0, 0, .null)) rfl (fun _ => rfl) l5 (by decide) ?_
  have l0_1 : zld (zs1 lv 5 (.int (v5 + Int32.ofInt 1))) 0 = some (.ref 4) := x_o1 l0 rfl rfl
  have l1_1 : zld (zs1 lv 5 (.int (v5 + Int32.ofInt 1))) 1 = some (.ref 2) := x_o1 l1 rfl rfl
  have l2_1 : zld (zs1 lv 5 (.int (v5 + Int32.ofInt 1))) 2 = some (.int v2) := x_o1 l2 rfl rfl
  have l3_1 : zld (zs1 lv 5 (.int (v5 + Int32.ofInt 1))) 3 = some (.int v3) := x_o1 l3 rfl rfl
  have l4_1 : zld (zs1 lv 5 (.int (v5 + Int32.ofInt 1))) 4 = some (.int v4) := x_o1 l4 rfl rfl
  have l5_1 : zld (zs1 lv 5 (.int (v5 + Int32.ofInt 1))) 5 = some (.int (v5 + Int32.ofInt 1)) := zs1_ld _ _ _
  have l6_1 : zld (zs1 lv 5 (.int (v5 + Int32.ofInt 1))) 6 = some (.int v6) := x_o1 l6 rfl rfl
  have l7_1 : zld (zs1 lv 5 (.int (v5 + Int32.ofInt 1))) 7 = some (.int v7) := x_o1 l7 rfl rfl
  generalize (zs1 lv 5 (.int (v5 + Int32.ofInt 1))) = lv1 at *
  refine r_s (fr' := (10, lv1, [])) (hp' := xW B m) (q := (.goto (-124), 3, 10, 0, .null)) rfl (fun _ => rfl) (Nat.le_refl _) ?_
  exact k10 l0_1 l1_1 l2_1 l3_1 l4_1 l5_1 h
def D119_4_2_72 (F : Nat) (g10 : Int32 → Int32 → Int32 → Int32 → xS → Option (Unit × xS)) (v2 : Int32) (v3 : Int32) (v4 : Int32) (v5 : Int32) (v6 : Int32) (w0 : Int32) (m : xS) : Option (Unit × xS) :=
  if xib (v4 + v5) 14 = true then
    (D58_2 F (zsv 31 ((v4 + v5) : Int32).toNatClampNeg) w0 m).bind fun q92 =>
      if xib v5 4 = true then
        if zcmp .eq v6 0 = true then
          D119_4_2_131 F g10 v2 v3 v4 v5 v6 w0 (xu q92.2 5 (v5 : Int32).toNatClampNeg q92.1)
        else
          if zcmp .ne v5 1 = true then
            D119_4_2_131 F g10 v2 v3 v4 v5 v6 w0 (xu q92.2 5 (v5 : Int32).toNatClampNeg q92.1)
          else
            if zcmp .ne ((xu q92.2 5 (v5 : Int32).toNatClampNeg q92.1).1 5 0) ((xu q92.2 5 (v5 : Int32).toNatClampNeg q92.1).1 5 1) = true then
              D119_4_2_131 F g10 v2 v3 v4 v5 v6 w0 (xu q92.2 5 (v5 : Int32).toNatClampNeg q92.1)
            else
              (D52_2 F (q92.2.1 2 3) 1 (xu q92.2 5 (v5 : Int32).toNatClampNeg q92.1)).bind fun q128 =>
                D119_4_2_131 F g10 v2 v3 v4 v5 v6 w0 q128.2
      else none
  else none
set_option maxRecDepth 20000 in
theorem T119_4_2_72 {B : zHp} (H : yH0 B) (X : yTx B) {e : Nat} (he : 3 ≤ e + 1) (F : Nat) (g10 : Int32 → Int32 → Int32 → Int32 → xS → Option (Unit × xS)) (k10 : ∀ {v2 : Int32} {v3 : Int32} {v4 : Int32} {v5 : Int32} {lv : List (Nat × Value)} {m : xS} {x : Unit × xS}, zld lv 0 = some (.ref 4) → zld lv 1 = some (.ref 2) → zld lv 2 = some (.int v2) → zld lv 3 = some (.int v3) → zld lv 4 = some (.int v4) → zld lv 5 = some (.int v5) → g10 v2 v3 v4 v5 m = some x → zR none e 8 none zc119 (10, lv, []) (xW B m) (none, xW B x.2)) {v2 : Int32} {v3 : Int32} {v4 : Int32} {v5 : Int32} {v6 : Int32} {w0 : Int32} {lv : List (Nat × Value)} {m : xS} {x : Unit × xS} (l0 : zld lv 0 = some (.ref 4)) (l1 : zld lv 1 = some (.ref 2)) (l2 : zld lv 2 = some (.int v2)) (l3 : zld lv 3 = some (.int v3)) (l4 : zld lv 4 = some (.int v4)) (l5 : zld lv 5 = some (.int v5)) (l6 : zld lv 6 = some (.int v6)) (h : D119_4_2_72 F g10 v2 v3 v4 v5 v6 w0 m = some x) : zR none e 8 none zc119 (72, lv, [.int w0]) (xW B m) (none, xW B x.2) := by
  unfold D119_4_2_72 at h
  refine q_si (k := 2) (i := 7) (q := (.istore 7, 2, 0, 0, .null)) rfl (fun _ => rfl) (by decide) ?_
  have l0_1 : zld (zs1 lv 7 (.int w0)) 0 = some (.ref 4) := x_o1 l0 rfl rfl
  have l1_1 : zld (zs1 lv 7 (.int w0)) 1 = some (.ref 2) := x_o1 l1 rfl rfl
  have l2_1 : zld (zs1 lv 7 (.int w0)) 2 = some (.int v2) := x_o1 l2 rfl rfl
  have l3_1 : zld (zs1 lv 7 (.int w0)) 3 = some (.int v3) := x_o1 l3 rfl rfl
  have l4_1 : zld (zs1 lv 7 (.int w0)) 4 = some (.int v4) := x_o1 l4 rfl rfl
  have l5_1 : zld (zs1 lv 7 (.int w0)) 5 = some (.int v5) := x_o1 l5 rfl rfl
  have l6_1 : zld (zs1 lv 7 (.int w0)) 6 = some (.int v6) := x_o1 l6 rfl rfl
  have l7_1 : zld (zs1 lv 7 (.int w0)) 7 = some (.int w0) := zs1_ld _ _ _
  generalize (zs1 lv 7 (.int w0)) = lv1 at *
  refine q_lr (k := 1) (i := 0) (q := (.aload_n 0, 1, 0, 0, .null)) rfl (fun _ => rfl) l0_1 ?_
  refine r_gr (c := 5) H (pc := 75) rfl (by decide) (by decide) ?_
  refine q_li (k := 2) (i := 5) (q := (.iload 5, 2, 0, 0, .null)) rfl (fun _ => rfl) l5_1 ?_
  refine q_lr (k := 1) (i := 1) (q := (.aload_n 1, 1, 0, 0, .null)) rfl (fun _ => rfl) l1_1 ?_
  refine r_s (fr' := (84, lv1, [.ref 1031, .ref 2, .int v5, .ref 5])) (hp' := xW B m) (q := (.getstatic 72, 3, 2, 0, .ref 1031)) rfl (fun _ => rfl) (Nat.le_refl _) ?_
  refine q_li (k := 2) (i := 4) (q := (.iload 4, 2, 0, 0, .null)) rfl (fun _ => rfl) l4_1 ?_
  refine q_li (k := 2) (i := 5) (q := (.iload 5, 2, 0, 0, .null)) rfl (fun _ => rfl) l5_1 ?_
  refine r_s (fr' := (89, lv1, [.int (v4 + v5), .ref 1031, .ref 2, .int v5, .ref 5])) (hp' := xW B m) (q := (.iadd, 1, 0, 0, .null)) rfl (fun _ => rfl) (Nat.le_refl _) ?_
  obtain ⟨c2, h⟩ := xif h
  refine q_sil (n := 14) (f := zsv 31) (i := 1031) (pc := 89) rfl (by decide) rfl c2 ?_
  refine q_li (k := 2) (i := 7) (q := (.iload 7, 2, 0, 0, .null)) rfl (fun _ => rfl) l7_1 ?_
  obtain ⟨q92, h92, h⟩ := xbind h
  refine r_call (ix := 2) (as := [.int (zsv 31 ((v4 + v5) : Int32).toNatClampNeg), .int w0]) (rest := [.int v5, .ref 5]) (rv := some (.int q92.1)) (hp' := xW B q92.2) (pc := 92) rfl xr58 rfl rfl rfl (xkd H (by decide)) (Nat.le_of_ble_eq_true rfl) (Z58_2 H X h92 (by omega)) (Nat.le_refl _) ?_
  obtain ⟨c3, h⟩ := xif h
  refine q_as (n := 4) (s2 := (xu q92.2 5 (v5 : Int32).toNatClampNeg q92.1)) H (pc := 95) rfl (by decide) c3 rfl ?_
  refine q_li (k := 2) (i := 6) (q := (.iload 6, 2, 0, 0, .null)) rfl (fun _ => rfl) l6_1 ?_
  refine r_if (len := 3) (a := 131) (b := 0) (v0 := .null) (cn := .eq) (off := 33) rfl (fun c => ?_) (fun c => ?_)
  · rw [if_pos c] at h
    exact T119_4_2_131 H X he F _ k10 l0_1 l1_1 l2_1 l3_1 l4_1 l5_1 l6_1 l7_1 h
  · rw [if_neg (by rw [c]; decide)] at h
    refine q_li (k := 2) (i := 5) (q := (.iload 5, 2, 0, 0, .null)) rfl (fun _ => rfl) l5_1 ?_
    refine r_s (fr' := (104, lv1, [.int 1, .int v5])) (hp' := xW B (xu q92.2 5 (v5 : Int32).toNatClampNeg q92.1)) (q := (.iconst 1, 1, 0, 0, .null)) rfl (fun _ => rfl) (Nat.le_refl _) ?_
    refine r_ifc (len := 3) (a := 131) (b := 0) (v0 := .null) (cn := .ne) (off := 27) rfl (fun c => ?_) (fun c => ?_)
    · rw [if_pos c] at h
      exact T119_4_2_131 H X he F _ k10 l0_1 l1_1 l2_1 l3_1 l4_1 l5_1 l6_1 l7_1 h
    · rw [if_neg (by rw [c]; decide)] at h
      refine q_lr (k := 1) (i := 0) (q := (.aload_n 0, 1, 0, 0, .null)) rfl (fun _ => rfl) l0_1 ?_
      refine r_gr (c := 5) H (pc := 108) rfl (by decide) (by decide) ?_
      refine r_s (fr' := (112, lv1, [.int 0, .ref 5])) (hp' := xW B (xu q92.2 5 (v5 : Int32).toNatClampNeg q92.1)) (q := (.iconst 0, 1, 0, 0, .null)) rfl (fun _ => rfl) (Nat.le_refl _) ?_
      refine q_al (n := 4) (v := ((xu q92.2 5 (v5 : Int32).toNatClampNeg q92.1).1 5 0)) H (pc := 112) rfl (by decide) (by decide) rfl ?_
      refine q_lr (k := 1) (i := 0) (q := (.aload_n 0, 1, 0, 0, .null)) rfl (fun _ => rfl) l0_1 ?_
      refine r_gr (c := 5) H (pc := 114) rfl (by decide) (by decide) ?_
      refine r_s (fr' := (118, lv1, [.int 1, .ref 5, .int ((xu q92.2 5 (v5 : Int32).toNatClampNeg q92.1).1 5 0)])) (hp' := xW B (xu q92.2 5 (v5 : Int32).toNatClampNeg q92.1)) (q := (.iconst 1, 1, 0, 0, .null)) rfl (fun _ => rfl) (Nat.le_refl _) ?_
      refine q_al (n := 4) (v := ((xu q92.2 5 (v5 : Int32).toNatClampNeg q92.1).1 5 1)) H (pc := 118) rfl (by decide) (by decide) rfl ?_
      refine r_ifc (len := 3) (a := 131) (b := 0) (v0 := .null) (cn := .ne) (off := 12) rfl (fun c => ?_) (fun c => ?_)
      · rw [if_pos c] at h
        exact T119_4_2_131 H X he F _ k10 l0_1 l1_1 l2_1 l3_1 l4_1 l5_1 l6_1 l7_1 h
      · rw [if_neg (by rw [c]; decide)] at h
        refine q_lr (k := 1) (i := 1) (q := (.aload_n 1, 1, 0, 0, .null)) rfl (fun _ => rfl) l1_1 ?_
        refine q_lr (k := 1) (i := 1) (q := (.aload_n 1, 1, 0, 0, .null)) rfl (fun _ => rfl) l1_1 ?_
        refine r_gi (v := (q92.2.1 2 3)) H (pc := 124) (i := _) rfl (by decide) (by decide) rfl ?_
        refine r_s (fr' := (128, lv1, [.int 1, .int (q92.2.1 2 3), .ref 2])) (hp' := xW B (xu q92.2 5 (v5 : Int32).toNatClampNeg q92.1)) (q := (.iconst 1, 1, 0, 0, .null)) rfl (fun _ => rfl) (Nat.le_refl _) ?_
        obtain ⟨q128, h128, h⟩ := xbind h
        refine r_call (ix := 2) (as := [.int (q92.2.1 2 3), .int 1]) (rest := []) (rv := none) (hp' := xW B q128.2) (pc := 128) rfl xr52 rfl rfl rfl (xkd H (by decide)) (Nat.le_of_ble_eq_true rfl) (Z52_2 H X h128 (by omega)) (Nat.le_refl _) ?_
        exact T119_4_2_131 H X he F _ k10 l0_1 l1_1 l2_1 l3_1 l4_1 l5_1 l6_1 l7_1 h
def D119_4_2_50 (F : Nat) (g10 : Int32 → Int32 → Int32 → Int32 → xS → Option (Unit × xS)) (v2 : Int32) (v3 : Int32) (v4 : Int32) (v5 : Int32) (w0 : Int32) (m : xS) : Option (Unit × xS) :=
  if zcmp .eq w0 0 = true then
    if xib (v4 + v5) 14 = true then
      D119_4_2_72 F g10 v2 v3 v4 v5 w0 (zsv 32 ((v4 + v5) : Int32).toNatClampNeg) m
    else none
  else
    D119_4_2_72 F g10 v2 v3 v4 v5 w0 (v2 - 1) m
set_option maxRecDepth 20000 in
theorem T119_4_2_50 {B : zHp} (H : yH0 B) (X : yTx B) {e : Nat} (he : 3 ≤ e + 1) (F : Nat) (g10 : Int32 → Int32 → Int32 → Int32 → xS → Option (Unit × xS)) (k10 : ∀ {v2 : Int32} {v3 : Int32} {v4 : Int32} {v5 : Int32} {lv : List (Nat × Value)} {m : xS} {x : Unit × xS}, zld lv 0 = some (.ref 4) → zld lv 1 = some (.ref 2) → zld lv 2 = some (.int v2) → zld lv 3 = some (.int v3) → zld lv 4 = some (.int v4) → zld lv 5 = some (.int v5) → g10 v2 v3 v4 v5 m = some x → zR none e 8 none zc119 (10, lv, []) (xW B m) (none, xW B x.2)) {v2 : Int32} {v3 : Int32} {v4 : Int32} {v5 : Int32} {w0 : Int32} {lv : List (Nat × Value)} {m : xS} {x : Unit × xS} (l0 : zld lv 0 = some (.ref 4)) (l1 : zld lv 1 = some (.ref 2)) (l2 : zld lv 2 = some (.int v2)) (l3 : zld lv 3 = some (.int v3)) (l4 : zld lv 4 = some (.int v4)) (l5 : zld lv 5 = some (.int v5)) (h : D119_4_2_50 F g10 v2 v3 v4 v5 w0 m = some x) : zR none e 8 none zc119 (50, lv, [.int w0]) (xW B m) (none, xW B x.2) := by
  unfold D119_4_2_50 at h
  refine q_si (k := 2) (i := 6) (q := (.istore 6, 2, 0, 0, .null)) rfl (fun _ => rfl) (by decide) ?_
  have l0_1 : zld (zs1 lv 6 (.int w0)) 0 = some (.ref 4) := x_o1 l0 rfl rfl
  have l1_1 : zld (zs1 lv 6 (.int w0)) 1 = some (.ref 2) := x_o1 l1 rfl rfl
  have l2_1 : zld (zs1 lv 6 (.int w0)) 2 = some (.int v2) := x_o1 l2 rfl rfl
  have l3_1 : zld (zs1 lv 6 (.int w0)) 3 = some (.int v3) := x_o1 l3 rfl rfl
  have l4_1 : zld (zs1 lv 6 (.int w0)) 4 = some (.int v4) := x_o1 l4 rfl rfl
  have l5_1 : zld (zs1 lv 6 (.int w0)) 5 = some (.int v5) := x_o1 l5 rfl rfl
  have l6_1 : zld (zs1 lv 6 (.int w0)) 6 = some (.int w0) := zs1_ld _ _ _
  generalize (zs1 lv 6 (.int w0)) = lv1 at *
  refine q_li (k := 2) (i := 6) (q := (.iload 6, 2, 0, 0, .null)) rfl (fun _ => rfl) l6_1 ?_
  refine r_if (len := 3) (a := 63) (b := 0) (v0 := .null) (cn := .eq) (off := 9) rfl (fun c => ?_) (fun c => ?_)
  · rw [if_pos c] at h
    refine r_s (fr' := (66, lv1, [.ref 1032])) (hp' := xW B m) (q := (.getstatic 69, 3, 3, 0, .ref 1032)) rfl (fun _ => rfl) (Nat.le_refl _) ?_
    refine q_li (k := 2) (i := 4) (q := (.iload 4, 2, 0, 0, .null)) rfl (fun _ => rfl) l4_1 ?_
    refine q_li (k := 2) (i := 5) (q := (.iload 5, 2, 0, 0, .null)) rfl (fun _ => rfl) l5_1 ?_
    refine r_s (fr' := (71, lv1, [.int (v4 + v5), .ref 1032])) (hp' := xW B m) (q := (.iadd, 1, 0, 0, .null)) rfl (fun _ => rfl) (Nat.le_refl _) ?_
    obtain ⟨c2, h⟩ := xif h
    refine q_sil (n := 14) (f := zsv 32) (i := 1032) (pc := 71) rfl (by decide) rfl c2 ?_
    exact T119_4_2_72 H X he F _ k10 l0_1 l1_1 l2_1 l3_1 l4_1 l5_1 l6_1 h
  · rw [if_neg (by rw [c]; decide)] at h
    refine q_li (k := 1) (i := 2) (q := (.iload_n 2, 1, 0, 0, .null)) rfl (fun _ => rfl) l2_1 ?_
    refine r_s (fr' := (59, lv1, [.int 1, .int v2])) (hp' := xW B m) (q := (.iconst 1, 1, 0, 0, .null)) rfl (fun _ => rfl) (Nat.le_refl _) ?_
    refine r_s (fr' := (60, lv1, [.int (v2 - 1)])) (hp' := xW B m) (q := (.isub, 1, 0, 0, .null)) rfl (fun _ => rfl) (Nat.le_refl _) ?_
    refine r_s (fr' := (72, lv1, [.int (v2 - 1)])) (hp' := xW B m) (q := (.goto 12, 3, 72, 0, .null)) rfl (fun _ => rfl) (Nat.le_refl _) ?_
    exact T119_4_2_72 H X he F _ k10 l0_1 l1_1 l2_1 l3_1 l4_1 l5_1 l6_1 h
def D119_4_2_10 (F : Nat) : Nat → Int32 → Int32 → Int32 → Int32 → xS → Option (Unit × xS)
  | 0, _, _, _, _, _ => none
  | f + 1, v2, v3, v4, v5, m =>
    if xib (v3 + 1) 6 = true then
      if zcmp .ge (v4 + v5) (zsv 30 ((v3 + 1) : Int32).toNatClampNeg) = true then
        some ((), m)
      else
        (D51_2 F m).bind fun q26 =>
          if zcmp .eq q26.1 0 = true then
            some ((), q26.2)
          else
            if xib (v4 + v5) 14 = true then
              if zcmp .ne (zsv 32 ((v4 + v5) : Int32).toNatClampNeg) (-1) = true then
                D119_4_2_50 F (D119_4_2_10 F f) v2 v3 v4 v5 0 q26.2
              else
                D119_4_2_50 F (D119_4_2_10 F f) v2 v3 v4 v5 1 q26.2
            else none
    else none
set_option maxRecDepth 20000 in
theorem T119_4_2_10 {B : zHp} (H : yH0 B) (X : yTx B) {e : Nat} (he : 3 ≤ e + 1) (F : Nat) : ∀ (f : Nat) {v2 : Int32} {v3 : Int32} {v4 : Int32} {v5 : Int32} {lv : List (Nat × Value)} {m : xS} {x : Unit × xS}, zld lv 0 = some (.ref 4) → zld lv 1 = some (.ref 2) → zld lv 2 = some (.int v2) → zld lv 3 = some (.int v3) → zld lv 4 = some (.int v4) → zld lv 5 = some (.int v5) → D119_4_2_10 F f v2 v3 v4 v5 m = some x → zR none e 8 none zc119 (10, lv, []) (xW B m) (none, xW B x.2) := by
  intro f
  induction f with
  | zero => intro v2 v3 v4 v5 lv m x l0 l1 l2 l3 l4 l5 h; cases h
  | succ f ih =>
    intro v2 v3 v4 v5 lv m x l0 l1 l2 l3 l4 l5 h
    unfold D119_4_2_10 at h
    refine q_li (k := 2) (i := 4) (q := (.iload 4, 2, 0, 0, .null)) rfl (fun _ => rfl) l4 ?_
    refine q_li (k := 2) (i := 5) (q := (.iload 5, 2, 0, 0, .null)) rfl (fun _ => rfl) l5 ?_
    refine r_s (fr' := (15, lv, [.int (v4 + v5)])) (hp' := xW B m) (q := (.iadd, 1, 0, 0, .null)) rfl (fun _ => rfl) (Nat.le_refl _) ?_
    refine r_s (fr' := (18, lv, [.ref 1030, .int (v4 + v5)])) (hp' := xW B m) (q := (.getstatic 66, 3, 1, 0, .ref 1030)) rfl (fun _ => rfl) (Nat.le_refl _) ?_
    refine q_li (k := 1) (i := 3) (q := (.iload_n 3, 1, 0, 0, .null)) rfl (fun _ => rfl) l3 ?_
    refine r_s (fr' := (20, lv, [.int 1, .int v3, .ref 1030, .int (v4 + v5)])) (hp' := xW B m) (q := (.iconst 1, 1, 0, 0, .null)) rfl (fun _ => rfl) (Nat.le_refl _) ?_
    refine r_s (fr' := (21, lv, [.int (v3 + 1), .ref 1030, .int (v4 + v5)])) (hp' := xW B m) (q := (.iadd, 1, 0, 0, .null)) rfl (fun _ => rfl) (Nat.le_refl _) ?_
    obtain ⟨c1, h⟩ := xif h
    refine q_sil (n := 6) (f := zsv 30) (i := 1030) (pc := 21) rfl (by decide) rfl c1 ?_
    refine r_ifc (len := 3) (a := 137) (b := 0) (v0 := .null) (cn := .ge) (off := 115) rfl (fun c => ?_) (fun c => ?_)
    · rw [if_pos c] at h
      obtain rfl := Option.some.inj h
      exact r_ret (q := (.return_, 1, 0, 0, .null)) rfl rfl (fun _ => rfl)
    · rw [if_neg (by rw [c]; decide)] at h
      refine q_lr (k := 1) (i := 1) (q := (.aload_n 1, 1, 0, 0, .null)) rfl (fun _ => rfl) l1 ?_
      obtain ⟨q26, h26, h⟩ := xbind h
      refine r_call (ix := 2) (as := []) (rest := []) (rv := some (.int q26.1)) (hp' := xW B q26.2) (pc := 26) rfl xr51 rfl rfl rfl (xkd H (by decide)) (Nat.le_of_ble_eq_true rfl) (Z51_2 H X h26 (by omega)) (Nat.le_refl _) ?_
      refine r_if (len := 3) (a := 137) (b := 0) (v0 := .null) (cn := .eq) (off := 108) rfl (fun c => ?_) (fun c => ?_)
      · rw [if_pos c] at h
        obtain rfl := Option.some.inj h
        exact r_ret (q := (.return_, 1, 0, 0, .null)) rfl rfl (fun _ => rfl)
      · rw [if_neg (by rw [c]; decide)] at h
        refine r_s (fr' := (35, lv, [.ref 1032])) (hp' := xW B q26.2) (q := (.getstatic 69, 3, 3, 0, .ref 1032)) rfl (fun _ => rfl) (Nat.le_refl _) ?_
        refine q_li (k := 2) (i := 4) (q := (.iload 4, 2, 0, 0, .null)) rfl (fun _ => rfl) l4 ?_
        refine q_li (k := 2) (i := 5) (q := (.iload 5, 2, 0, 0, .null)) rfl (fun _ => rfl) l5 ?_
        refine r_s (fr' := (40, lv, [.int (v4 + v5), .ref 1032])) (hp' := xW B q26.2) (q := (.iadd, 1, 0, 0, .null)) rfl (fun _ => rfl) (Nat.le_refl _) ?_
        obtain ⟨c2, h⟩ := xif h
        refine q_sil (n := 14) (f := zsv 32) (i := 1032) (pc := 40) rfl (by decide) rfl c2 ?_
        refine r_s (fr' := (42, lv, [.int (-1), .int (zsv 32 ((v4 + v5) : Int32).toNatClampNeg)])) (hp' := xW B q26.2) (q := (.iconst (-1), 1, 0, 0, .null)) rfl (fun _ => rfl) (Nat.le_refl _) ?_
        refine r_ifc (len := 3) (a := 49) (b := 0) (v0 := .null) (cn := .ne) (off := 7) rfl (fun c => ?_) (fun c => ?_)
        · rw [if_pos c] at h
          refine r_s (fr' := (50, lv, [.int 0])) (hp' := xW B q26.2) (q := (.iconst 0, 1, 0, 0, .null)) rfl (fun _ => rfl) (Nat.le_refl _) ?_
          exact T119_4_2_50 H X he F _ ih l0 l1 l2 l3 l4 l5 h
        · rw [if_neg (by rw [c]; decide)] at h
          refine r_s (fr' := (46, lv, [.int 1])) (hp' := xW B q26.2) (q := (.iconst 1, 1, 0, 0, .null)) rfl (fun _ => rfl) (Nat.le_refl _) ?_
          refine r_s (fr' := (50, lv, [.int 1])) (hp' := xW B q26.2) (q := (.goto 4, 3, 50, 0, .null)) rfl (fun _ => rfl) (Nat.le_refl _) ?_
          exact T119_4_2_50 H X he F _ ih l0 l1 l2 l3 l4 l5 h
def D119_4_2 (F : Nat) (v2 : Int32) (v3 : Int32) (m : xS) : Option (Unit × xS) :=
  if xib v3 6 = true then
    D119_4_2_10 F F v2 v3 (zsv 30 (v3 : Int32).toNatClampNeg) 0 m
  else none
set_option maxRecDepth 20000 in
theorem T119_4_2 {B : zHp} (H : yH0 B) (X : yTx B) {e : Nat} (he : 3 ≤ e + 1) (F : Nat) {v2 : Int32} {v3 : Int32} {lv : List (Nat × Value)} {m : xS} {x : Unit × xS} (l0 : zld lv 0 = some (.ref 4)) (l1 : zld lv 1 = some (.ref 2)) (l2 : zld lv 2 = some (.int v2)) (l3 : zld lv 3 = some (.int v3)) (h : D119_4_2 F v2 v3 m = some x) : zR none e 8 none zc119 (0, lv, []) (xW B m) (none, xW B x.2) := by
  unfold D119_4_2 at h
  refine r_s (fr' := (3, lv, [.ref 1030])) (hp' := xW B m) (q := (.getstatic 66, 3, 1, 0, .ref 1030)) rfl (fun _ => rfl) (Nat.le_refl _) ?_
  refine q_li (k := 1) (i := 3) (q := (.iload_n 3, 1, 0, 0, .null)) rfl (fun _ => rfl) l3 ?_
  obtain ⟨c1, h⟩ := xif h
  refine q_sil (n := 6) (f := zsv 30) (i := 1030) (pc := 4) rfl (by decide) rfl c1 ?_
  refine q_si (k := 2) (i := 4) (q := (.istore 4, 2, 0, 0, .null)) rfl (fun _ => rfl) (by decide) ?_
  have l0_2 : zld (zs1 lv 4 (.int (zsv 30 (v3 : Int32).toNatClampNeg))) 0 = some (.ref 4) := x_o1 l0 rfl rfl
  have l1_2 : zld (zs1 lv 4 (.int (zsv 30 (v3 : Int32).toNatClampNeg))) 1 = some (.ref 2) := x_o1 l1 rfl rfl
  have l2_2 : zld (zs1 lv 4 (.int (zsv 30 (v3 : Int32).toNatClampNeg))) 2 = some (.int v2) := x_o1 l2 rfl rfl
  have l3_2 : zld (zs1 lv 4 (.int (zsv 30 (v3 : Int32).toNatClampNeg))) 3 = some (.int v3) := x_o1 l3 rfl rfl
  have l4_2 : zld (zs1 lv 4 (.int (zsv 30 (v3 : Int32).toNatClampNeg))) 4 = some (.int (zsv 30 (v3 : Int32).toNatClampNeg)) := zs1_ld _ _ _
  generalize (zs1 lv 4 (.int (zsv 30 (v3 : Int32).toNatClampNeg))) = lv2 at *
  refine r_s (fr' := (8, lv2, [.int 0])) (hp' := xW B m) (q := (.iconst 0, 1, 0, 0, .null)) rfl (fun _ => rfl) (Nat.le_refl _) ?_
  refine q_si (k := 2) (i := 5) (q := (.istore 5, 2, 0, 0, .null)) rfl (fun _ => rfl) (by decide) ?_
  have l0_3 : zld (zs1 lv2 5 (.int 0)) 0 = some (.ref 4) := x_o1 l0_2 rfl rfl
  have l1_3 : zld (zs1 lv2 5 (.int 0)) 1 = some (.ref 2) := x_o1 l1_2 rfl rfl
  have l2_3 : zld (zs1 lv2 5 (.int 0)) 2 = some (.int v2) := x_o1 l2_2 rfl rfl
  have l3_3 : zld (zs1 lv2 5 (.int 0)) 3 = some (.int v3) := x_o1 l3_2 rfl rfl
  have l4_3 : zld (zs1 lv2 5 (.int 0)) 4 = some (.int (zsv 30 (v3 : Int32).toNatClampNeg)) := x_o1 l4_2 rfl rfl
  have l5_3 : zld (zs1 lv2 5 (.int 0)) 5 = some (.int 0) := zs1_ld _ _ _
  generalize (zs1 lv2 5 (.int 0)) = lv3 at *
  exact T119_4_2_10 H X he F F l0_3 l1_3 l2_3 l3_3 l4_3 l5_3 h
set_option maxRecDepth 20000 in
theorem Z119_4_2 {B : zHp} (H : yH0 B) (X : yTx B) {F : Nat} {a2 : Int32} {a3 : Int32} {m : xS} {x : Unit × xS} (h : D119_4_2 F a2 a3 m = some x) {d : Nat} (hd : 3 ≤ d) : zCan d 119 [.ref 4, .ref 2, .int a2, .int a3] (xW B m) (none, xW B x.2) := by
  obtain ⟨e, rfl⟩ : ∃ e, d = e + 1 := ⟨d - 1, by omega⟩
  refine zCan_body (nL := 8) (rt := none) (cd := zc119) (xg119) ⟨Nat.le_of_ble_eq_true rfl, by decide⟩ (Nat.le_refl _) ?_
  exact T119_4_2 H X hd F rfl rfl rfl rfl h
/-- java/util/Arrays.fill -/
def D291_12_5 (F : Nat) : Nat → Int32 → Int32 → Int32 → xS → Option (Unit × xS)
  | 0, _, _, _, _ => none
  | f + 1, v1, v2, v3, m =>
    if zcmp .ge v2 v3 = true then
      some ((), m)
    else
      if xib v2 114 = true then
        D291_12_5 F f v1 (v2 + Int32.ofInt 1) v3 (xu m 12 (v2 : Int32).toNatClampNeg v1)
      else none
set_option maxRecDepth 20000 in
theorem T291_12_5 {B : zHp} (H : yH0 B) (X : yTx B) {e : Nat} (he : 1 ≤ e + 1) (F : Nat) : ∀ (f : Nat) {v1 : Int32} {v2 : Int32} {v3 : Int32} {lv : List (Nat × Value)} {m : xS} {x : Unit × xS}, zld lv 0 = some (.ref 12) → zld lv 1 = some (.int v1) → zld lv 2 = some (.int v2) → zld lv 3 = some (.int v3) → D291_12_5 F f v1 v2 v3 m = some x → zR none e 4 none zc291 (5, lv, []) (xW B m) (none, xW B x.2) := by
  intro f
  induction f with
  | zero => intro v1 v2 v3 lv m x l0 l1 l2 l3 h; cases h
  | succ f ih =>
    intro v1 v2 v3 lv m x l0 l1 l2 l3 h
    unfold D291_12_5 at h
    refine q_li (k := 1) (i := 2) (q := (.iload_n 2, 1, 0, 0, .null)) rfl (fun _ => rfl) l2 ?_
    refine q_li (k := 1) (i := 3) (q := (.iload_n 3, 1, 0, 0, .null)) rfl (fun _ => rfl) l3 ?_
    refine r_ifc (len := 3) (a := 20) (b := 0) (v0 := .null) (cn := .ge) (off := 13) rfl (fun c => ?_) (fun c => ?_)
    · rw [if_pos c] at h
      obtain rfl := Option.some.inj h
      exact r_ret (q := (.return_, 1, 0, 0, .null)) rfl rfl (fun _ => rfl)
    · rw [if_neg (by rw [c]; decide)] at h
      refine q_lr (k := 1) (i := 0) (q := (.aload_n 0, 1, 0, 0, .null)) rfl (fun _ => rfl) l0 ?_
      refine q_li (k := 1) (i := 2) (q := (.iload_n 2, 1, 0, 0, .null)) rfl (fun _ => rfl) l2 ?_
      refine q_li (k := 1) (i := 1) (q := (.iload_n 1, 1, 0, 0, .null)) rfl (fun _ => rfl) l1 ?_
      obtain ⟨c1, h⟩ := xif h
      refine q_as (n := 114) (s2 := (xu m 12 (v2 : Int32).toNatClampNeg v1)) H (pc := 13) rfl (by decide) c1 rfl ?_
      refine q_inc (i := 2) (n := 1) (q := (.iinc 2 1, 3, 0, 0, .null)) rfl (fun _ => rfl) l2 (by decide) ?_
      have l0_2 : zld (zs1 lv 2 (.int (v2 + Int32.ofInt 1))) 0 = some (.ref 12) := x_o1 l0 rfl rfl
      have l1_2 : zld (zs1 lv 2 (.int (v2 + Int32.ofInt 1))) 1 = some (.int v1) := x_o1 l1 rfl rfl
      have l2_2 : zld (zs1 lv 2 (.int (v2 + Int32.ofInt 1))) 2 = some (.int (v2 + Int32.ofInt 1)) := zs1_ld _ _ _
      have l3_2 : zld (zs1 lv 2 (.int (v2 + Int32.ofInt 1))) 3 = some (.int v3) := x_o1 l3 rfl rfl
      generalize (zs1 lv 2 (.int (v2 + Int32.ofInt 1))) = lv2 at *
      refine r_s (fr' := (5, lv2, [])) (hp' := xW B (xu m 12 (v2 : Int32).toNatClampNeg v1)) (q := (.goto (-12), 3, 5, 0, .null)) rfl (fun _ => rfl) (Nat.le_refl _) ?_
      exact ih l0_2 l1_2 l2_2 l3_2 h
def D291_12 (F : Nat) (v1 : Int32) (m : xS) : Option (Unit × xS) :=
  D291_12_5 F F v1 0 (Int32.ofNat 114) m
set_option maxRecDepth 20000 in
theorem T291_12 {B : zHp} (H : yH0 B) (X : yTx B) {e : Nat} (he : 1 ≤ e + 1) (F : Nat) {v1 : Int32} {lv : List (Nat × Value)} {m : xS} {x : Unit × xS} (l0 : zld lv 0 = some (.ref 12)) (l1 : zld lv 1 = some (.int v1)) (h : D291_12 F v1 m = some x) : zR none e 4 none zc291 (0, lv, []) (xW B m) (none, xW B x.2) := by
  unfold D291_12 at h
  refine r_s (fr' := (1, lv, [.int 0])) (hp' := xW B m) (q := (.iconst 0, 1, 0, 0, .null)) rfl (fun _ => rfl) (Nat.le_refl _) ?_
  refine q_si (k := 1) (i := 2) (q := (.istore_n 2, 1, 0, 0, .null)) rfl (fun _ => rfl) (by decide) ?_
  have l0_1 : zld (zs1 lv 2 (.int 0)) 0 = some (.ref 12) := x_o1 l0 rfl rfl
  have l1_1 : zld (zs1 lv 2 (.int 0)) 1 = some (.int v1) := x_o1 l1 rfl rfl
  have l2_1 : zld (zs1 lv 2 (.int 0)) 2 = some (.int 0) := zs1_ld _ _ _
  generalize (zs1 lv 2 (.int 0)) = lv1 at *
  refine q_lr (k := 1) (i := 0) (q := (.aload_n 0, 1, 0, 0, .null)) rfl (fun _ => rfl) l0_1 ?_
  refine q_len (n := 114) (k := 0) H (pc := 3) rfl (by decide) ?_
  refine q_si (k := 1) (i := 3) (q := (.istore_n 3, 1, 0, 0, .null)) rfl (fun _ => rfl) (by decide) ?_
  have l0_2 : zld (zs1 lv1 3 (.int (Int32.ofNat 114))) 0 = some (.ref 12) := x_o1 l0_1 rfl rfl
  have l1_2 : zld (zs1 lv1 3 (.int (Int32.ofNat 114))) 1 = some (.int v1) := x_o1 l1_1 rfl rfl
  have l2_2 : zld (zs1 lv1 3 (.int (Int32.ofNat 114))) 2 = some (.int 0) := x_o1 l2_1 rfl rfl
  have l3_2 : zld (zs1 lv1 3 (.int (Int32.ofNat 114))) 3 = some (.int (Int32.ofNat 114)) := zs1_ld _ _ _
  generalize (zs1 lv1 3 (.int (Int32.ofNat 114))) = lv2 at *
  exact T291_12_5 H X he F F l0_2 l1_2 l2_2 l3_2 h
set_option maxRecDepth 20000 in
theorem Z291_12 {B : zHp} (H : yH0 B) (X : yTx B) {F : Nat} {a1 : Int32} {m : xS} {x : Unit × xS} (h : D291_12 F a1 m = some x) {d : Nat} (hd : 1 ≤ d) : zCan d 291 [.ref 12, .int a1] (xW B m) (none, xW B x.2) := by
  obtain ⟨e, rfl⟩ : ∃ e, d = e + 1 := ⟨d - 1, by omega⟩
  refine zCan_body (nL := 4) (rt := none) (cd := zc291) (xg291) ⟨Nat.le_of_ble_eq_true rfl, by decide⟩ (Nat.le_refl _) ?_
  exact T291_12 H X hd F rfl rfl h
/-- LentTools$Village.tellHouses -/
def D71_11 (F : Nat) (v1 : Int32) (v2 : Int32) (m : xS) : Option (Unit × xS) :=
  (D291_12 F 0 m).bind fun q5 =>
    some ((), (xu (xu q5.2 12 0 v1) 12 1 v2))
set_option maxRecDepth 20000 in
theorem T71_11 {B : zHp} (H : yH0 B) (X : yTx B) {e : Nat} (he : 2 ≤ e + 1) (F : Nat) {v1 : Int32} {v2 : Int32} {lv : List (Nat × Value)} {m : xS} {x : Unit × xS} (l0 : zld lv 0 = some (.ref 11)) (l1 : zld lv 1 = some (.int v1)) (l2 : zld lv 2 = some (.int v2)) (h : D71_11 F v1 v2 m = some x) : zR none e 3 none zc71 (0, lv, []) (xW B m) (none, xW B x.2) := by
  unfold D71_11 at h
  refine q_lr (k := 1) (i := 0) (q := (.aload_n 0, 1, 0, 0, .null)) rfl (fun _ => rfl) l0 ?_
  refine r_gr (c := 12) H (pc := 1) rfl (by decide) (by decide) ?_
  refine r_s (fr' := (5, lv, [.int 0, .ref 12])) (hp' := xW B m) (q := (.iconst 0, 1, 0, 0, .null)) rfl (fun _ => rfl) (Nat.le_refl _) ?_
  obtain ⟨q5, h5, h⟩ := xbind h
  refine r_callS (as := [.ref 12, .int 0]) (rest := []) (rv := none) (hp' := xW B q5.2) (pc := 5) rfl xr291 rfl rfl rfl (Nat.le_of_ble_eq_true rfl) (Z291_12 H X h5 (by omega)) (Nat.le_refl _) ?_
  refine q_lr (k := 1) (i := 0) (q := (.aload_n 0, 1, 0, 0, .null)) rfl (fun _ => rfl) l0 ?_
  refine r_gr (c := 12) H (pc := 9) rfl (by decide) (by decide) ?_
  refine r_s (fr' := (13, lv, [.int 0, .ref 12])) (hp' := xW B q5.2) (q := (.iconst 0, 1, 0, 0, .null)) rfl (fun _ => rfl) (Nat.le_refl _) ?_
  refine q_li (k := 1) (i := 1) (q := (.iload_n 1, 1, 0, 0, .null)) rfl (fun _ => rfl) l1 ?_
  refine q_as (n := 114) (s2 := (xu q5.2 12 0 v1)) H (pc := 14) rfl (by decide) (by decide) rfl ?_
  refine q_lr (k := 1) (i := 0) (q := (.aload_n 0, 1, 0, 0, .null)) rfl (fun _ => rfl) l0 ?_
  refine r_gr (c := 12) H (pc := 16) rfl (by decide) (by decide) ?_
  refine r_s (fr' := (20, lv, [.int 1, .ref 12])) (hp' := xW B (xu q5.2 12 0 v1)) (q := (.iconst 1, 1, 0, 0, .null)) rfl (fun _ => rfl) (Nat.le_refl _) ?_
  refine q_li (k := 1) (i := 2) (q := (.iload_n 2, 1, 0, 0, .null)) rfl (fun _ => rfl) l2 ?_
  refine q_as (n := 114) (s2 := (xu (xu q5.2 12 0 v1) 12 1 v2)) H (pc := 21) rfl (by decide) (by decide) rfl ?_
  obtain rfl := Option.some.inj h
  exact r_ret (q := (.return_, 1, 0, 0, .null)) rfl rfl (fun _ => rfl)
set_option maxRecDepth 20000 in
theorem Z71_11 {B : zHp} (H : yH0 B) (X : yTx B) {F : Nat} {a1 : Int32} {a2 : Int32} {m : xS} {x : Unit × xS} (h : D71_11 F a1 a2 m = some x) {d : Nat} (hd : 2 ≤ d) : zCan d 71 [.ref 11, .int a1, .int a2] (xW B m) (none, xW B x.2) := by
  obtain ⟨e, rfl⟩ : ∃ e, d = e + 1 := ⟨d - 1, by omega⟩
  refine zCan_body (nL := 3) (rt := none) (cd := zc71) (xg71) ⟨Nat.le_of_ble_eq_true rfl, by decide⟩ (Nat.le_refl _) ?_
  exact T71_11 H X hd F rfl rfl rfl h
/-- LentTools$Village.tellThanks -/
def D75_11 (F : Nat) (v1 : Int32) (v2 : Int32) (v3 : Int32) (m : xS) : Option (Unit × xS) :=
  if xib ((78 + (6 * v1)) + v2) 114 = true then
    some ((), (xu m 12 (((78 + (6 * v1)) + v2) : Int32).toNatClampNeg v3))
  else none
set_option maxRecDepth 20000 in
theorem T75_11 {B : zHp} (H : yH0 B) (X : yTx B) {e : Nat} (he : 1 ≤ e + 1) (F : Nat) {v1 : Int32} {v2 : Int32} {v3 : Int32} {lv : List (Nat × Value)} {m : xS} {x : Unit × xS} (l0 : zld lv 0 = some (.ref 11)) (l1 : zld lv 1 = some (.int v1)) (l2 : zld lv 2 = some (.int v2)) (l3 : zld lv 3 = some (.int v3)) (h : D75_11 F v1 v2 v3 m = some x) : zR none e 4 none zc75 (0, lv, []) (xW B m) (none, xW B x.2) := by
  unfold D75_11 at h
  refine q_lr (k := 1) (i := 0) (q := (.aload_n 0, 1, 0, 0, .null)) rfl (fun _ => rfl) l0 ?_
  refine r_gr (c := 12) H (pc := 1) rfl (by decide) (by decide) ?_
  refine r_s (fr' := (6, lv, [.int 78, .ref 12])) (hp' := xW B m) (q := (.bipush 78, 2, 0, 0, .null)) rfl (fun _ => rfl) (Nat.le_refl _) ?_
  refine r_s (fr' := (8, lv, [.int 6, .int 78, .ref 12])) (hp' := xW B m) (q := (.bipush 6, 2, 0, 0, .null)) rfl (fun _ => rfl) (Nat.le_refl _) ?_
  refine q_li (k := 1) (i := 1) (q := (.iload_n 1, 1, 0, 0, .null)) rfl (fun _ => rfl) l1 ?_
  refine r_s (fr' := (10, lv, [.int (6 * v1), .int 78, .ref 12])) (hp' := xW B m) (q := (.imul, 1, 0, 0, .null)) rfl (fun _ => rfl) (Nat.le_refl _) ?_
  refine r_s (fr' := (11, lv, [.int (78 + (6 * v1)), .ref 12])) (hp' := xW B m) (q := (.iadd, 1, 0, 0, .null)) rfl (fun _ => rfl) (Nat.le_refl _) ?_
  refine q_li (k := 1) (i := 2) (q := (.iload_n 2, 1, 0, 0, .null)) rfl (fun _ => rfl) l2 ?_
  refine r_s (fr' := (13, lv, [.int ((78 + (6 * v1)) + v2), .ref 12])) (hp' := xW B m) (q := (.iadd, 1, 0, 0, .null)) rfl (fun _ => rfl) (Nat.le_refl _) ?_
  refine q_li (k := 1) (i := 3) (q := (.iload_n 3, 1, 0, 0, .null)) rfl (fun _ => rfl) l3 ?_
  obtain ⟨c1, h⟩ := xif h
  refine q_as (n := 114) (s2 := (xu m 12 (((78 + (6 * v1)) + v2) : Int32).toNatClampNeg v3)) H (pc := 14) rfl (by decide) c1 rfl ?_
  obtain rfl := Option.some.inj h
  exact r_ret (q := (.return_, 1, 0, 0, .null)) rfl rfl (fun _ => rfl)
set_option maxRecDepth 20000 in
theorem Z75_11 {B : zHp} (H : yH0 B) (X : yTx B) {F : Nat} {a1 : Int32} {a2 : Int32} {a3 : Int32} {m : xS} {x : Unit × xS} (h : D75_11 F a1 a2 a3 m = some x) {d : Nat} (hd : 1 ≤ d) : zCan d 75 [.ref 11, .int a1, .int a2, .int a3] (xW B m) (none, xW B x.2) := by
  obtain ⟨e, rfl⟩ : ∃ e, d = e + 1 := ⟨d - 1, by omega⟩
  refine zCan_body (nL := 4) (rt := none) (cd := zc75) (xg75) ⟨Nat.le_of_ble_eq_true rfl, by decide⟩ (Nat.le_refl _) ?_
  exact T75_11 H X hd F rfl rfl rfl rfl h
/-- LentTools$Village.setOfWork -/
def D90_11 (F : Nat) (v1 : Int32) (v2 : Int32) (v3 : Int32) (m : xS) : Option (Unit × xS) :=
  if xib ((42 + (6 * v2)) + v1) 114 = true then
    some ((), (xu m 12 (((42 + (6 * v2)) + v1) : Int32).toNatClampNeg v3))
  else none
set_option maxRecDepth 20000 in
theorem T90_11 {B : zHp} (H : yH0 B) (X : yTx B) {e : Nat} (he : 1 ≤ e + 1) (F : Nat) {v1 : Int32} {v2 : Int32} {v3 : Int32} {lv : List (Nat × Value)} {m : xS} {x : Unit × xS} (l0 : zld lv 0 = some (.ref 11)) (l1 : zld lv 1 = some (.int v1)) (l2 : zld lv 2 = some (.int v2)) (l3 : zld lv 3 = some (.int v3)) (h : D90_11 F v1 v2 v3 m = some x) : zR none e 4 none zc90 (0, lv, []) (xW B m) (none, xW B x.2) := by
  unfold D90_11 at h
  refine q_lr (k := 1) (i := 0) (q := (.aload_n 0, 1, 0, 0, .null)) rfl (fun _ => rfl) l0 ?_
  refine r_gr (c := 12) H (pc := 1) rfl (by decide) (by decide) ?_
  refine r_s (fr' := (6, lv, [.int 42, .ref 12])) (hp' := xW B m) (q := (.bipush 42, 2, 0, 0, .null)) rfl (fun _ => rfl) (Nat.le_refl _) ?_
  refine r_s (fr' := (8, lv, [.int 6, .int 42, .ref 12])) (hp' := xW B m) (q := (.bipush 6, 2, 0, 0, .null)) rfl (fun _ => rfl) (Nat.le_refl _) ?_
  refine q_li (k := 1) (i := 2) (q := (.iload_n 2, 1, 0, 0, .null)) rfl (fun _ => rfl) l2 ?_
  refine r_s (fr' := (10, lv, [.int (6 * v2), .int 42, .ref 12])) (hp' := xW B m) (q := (.imul, 1, 0, 0, .null)) rfl (fun _ => rfl) (Nat.le_refl _) ?_
  refine r_s (fr' := (11, lv, [.int (42 + (6 * v2)), .ref 12])) (hp' := xW B m) (q := (.iadd, 1, 0, 0, .null)) rfl (fun _ => rfl) (Nat.le_refl _) ?_
  refine q_li (k := 1) (i := 1) (q := (.iload_n 1, 1, 0, 0, .null)) rfl (fun _ => rfl) l1 ?_
  refine r_s (fr' := (13, lv, [.int ((42 + (6 * v2)) + v1), .ref 12])) (hp' := xW B m) (q := (.iadd, 1, 0, 0, .null)) rfl (fun _ => rfl) (Nat.le_refl _) ?_
  refine q_li (k := 1) (i := 3) (q := (.iload_n 3, 1, 0, 0, .null)) rfl (fun _ => rfl) l3 ?_
  obtain ⟨c1, h⟩ := xif h
  refine q_as (n := 114) (s2 := (xu m 12 (((42 + (6 * v2)) + v1) : Int32).toNatClampNeg v3)) H (pc := 14) rfl (by decide) c1 rfl ?_
  obtain rfl := Option.some.inj h
  exact r_ret (q := (.return_, 1, 0, 0, .null)) rfl rfl (fun _ => rfl)
set_option maxRecDepth 20000 in
theorem Z90_11 {B : zHp} (H : yH0 B) (X : yTx B) {F : Nat} {a1 : Int32} {a2 : Int32} {a3 : Int32} {m : xS} {x : Unit × xS} (h : D90_11 F a1 a2 a3 m = some x) {d : Nat} (hd : 1 ≤ d) : zCan d 90 [.ref 11, .int a1, .int a2, .int a3] (xW B m) (none, xW B x.2) := by
  obtain ⟨e, rfl⟩ : ∃ e, d = e + 1 := ⟨d - 1, by omega⟩
  refine zCan_body (nL := 4) (rt := none) (cd := zc90) (xg90) ⟨Nat.le_of_ble_eq_true rfl, by decide⟩ (Nat.le_refl _) ?_
  exact T90_11 H X hd F rfl rfl rfl rfl h
/-- LentTools$Village.tellWork -/
def D73_11 (F : Nat) (v1 : Int32) (v2 : Int32) (v3 : Int32) (v4 : Int32) (m : xS) : Option (Unit × xS) :=
  (D80_11 F m).bind fun q1 =>
    if zcmp .ge q1.1 6 = true then
      some ((), q1.2)
    else
      (D90_11 F q1.1 0 v1 q1.2).bind fun q18 =>
        (D90_11 F q1.1 1 v2 q18.2).bind fun q26 =>
          (D90_11 F q1.1 2 v3 q26.2).bind fun q34 =>
            (D90_11 F q1.1 3 v4 q34.2).bind fun q43 =>
              (D90_11 F q1.1 4 (-1) q43.2).bind fun q51 =>
                some ((), (xu q51.2 12 3 (q1.1 + 1)))
set_option maxRecDepth 20000 in
theorem T73_11 {B : zHp} (H : yH0 B) (X : yTx B) {e : Nat} (he : 2 ≤ e + 1) (F : Nat) {v1 : Int32} {v2 : Int32} {v3 : Int32} {v4 : Int32} {lv : List (Nat × Value)} {m : xS} {x : Unit × xS} (l0 : zld lv 0 = some (.ref 11)) (l1 : zld lv 1 = some (.int v1)) (l2 : zld lv 2 = some (.int v2)) (l3 : zld lv 3 = some (.int v3)) (l4 : zld lv 4 = some (.int v4)) (h : D73_11 F v1 v2 v3 v4 m = some x) : zR none e 6 none zc73 (0, lv, []) (xW B m) (none, xW B x.2) := by
  unfold D73_11 at h
  refine q_lr (k := 1) (i := 0) (q := (.aload_n 0, 1, 0, 0, .null)) rfl (fun _ => rfl) l0 ?_
  obtain ⟨q1, h1, h⟩ := xbind h
  refine r_call (ix := 11) (as := []) (rest := []) (rv := some (.int q1.1)) (hp' := xW B q1.2) (pc := 1) rfl xr80 rfl rfl rfl (xkd H (by decide)) (Nat.le_of_ble_eq_true rfl) (Z80_11 H X h1 (by omega)) (Nat.le_refl _) ?_
  refine q_si (k := 2) (i := 5) (q := (.istore 5, 2, 0, 0, .null)) rfl (fun _ => rfl) (by decide) ?_
  have l0_1 : zld (zs1 lv 5 (.int q1.1)) 0 = some (.ref 11) := x_o1 l0 rfl rfl
  have l1_1 : zld (zs1 lv 5 (.int q1.1)) 1 = some (.int v1) := x_o1 l1 rfl rfl
  have l2_1 : zld (zs1 lv 5 (.int q1.1)) 2 = some (.int v2) := x_o1 l2 rfl rfl
  have l3_1 : zld (zs1 lv 5 (.int q1.1)) 3 = some (.int v3) := x_o1 l3 rfl rfl
  have l4_1 : zld (zs1 lv 5 (.int q1.1)) 4 = some (.int v4) := x_o1 l4 rfl rfl
  have l5_1 : zld (zs1 lv 5 (.int q1.1)) 5 = some (.int q1.1) := zs1_ld _ _ _
  generalize (zs1 lv 5 (.int q1.1)) = lv1 at *
  refine q_li (k := 2) (i := 5) (q := (.iload 5, 2, 0, 0, .null)) rfl (fun _ => rfl) l5_1 ?_
  refine r_s (fr' := (10, lv1, [.int 6, .int q1.1])) (hp' := xW B q1.2) (q := (.bipush 6, 2, 0, 0, .null)) rfl (fun _ => rfl) (Nat.le_refl _) ?_
  refine r_ifc (len := 3) (a := 64) (b := 0) (v0 := .null) (cn := .ge) (off := 54) rfl (fun c => ?_) (fun c => ?_)
  · rw [if_pos c] at h
    obtain rfl := Option.some.inj h
    exact r_ret (q := (.return_, 1, 0, 0, .null)) rfl rfl (fun _ => rfl)
  · rw [if_neg (by rw [c]; decide)] at h
    refine q_lr (k := 1) (i := 0) (q := (.aload_n 0, 1, 0, 0, .null)) rfl (fun _ => rfl) l0_1 ?_
    refine q_li (k := 2) (i := 5) (q := (.iload 5, 2, 0, 0, .null)) rfl (fun _ => rfl) l5_1 ?_
    refine r_s (fr' := (17, lv1, [.int 0, .int q1.1, .ref 11])) (hp' := xW B q1.2) (q := (.iconst 0, 1, 0, 0, .null)) rfl (fun _ => rfl) (Nat.le_refl _) ?_
    refine q_li (k := 1) (i := 1) (q := (.iload_n 1, 1, 0, 0, .null)) rfl (fun _ => rfl) l1_1 ?_
    obtain ⟨q18, h18, h⟩ := xbind h
    refine r_call (ix := 11) (as := [.int q1.1, .int 0, .int v1]) (rest := []) (rv := none) (hp' := xW B q18.2) (pc := 18) rfl xr90 rfl rfl rfl (xkd H (by decide)) (Nat.le_of_ble_eq_true rfl) (Z90_11 H X h18 (by omega)) (Nat.le_refl _) ?_
    refine q_lr (k := 1) (i := 0) (q := (.aload_n 0, 1, 0, 0, .null)) rfl (fun _ => rfl) l0_1 ?_
    refine q_li (k := 2) (i := 5) (q := (.iload 5, 2, 0, 0, .null)) rfl (fun _ => rfl) l5_1 ?_
    refine r_s (fr' := (25, lv1, [.int 1, .int q1.1, .ref 11])) (hp' := xW B q18.2) (q := (.iconst 1, 1, 0, 0, .null)) rfl (fun _ => rfl) (Nat.le_refl _) ?_
    refine q_li (k := 1) (i := 2) (q := (.iload_n 2, 1, 0, 0, .null)) rfl (fun _ => rfl) l2_1 ?_
    obtain ⟨q26, h26, h⟩ := xbind h
    refine r_call (ix := 11) (as := [.int q1.1, .int 1, .int v2]) (rest := []) (rv := none) (hp' := xW B q26.2) (pc := 26) rfl xr90 rfl rfl rfl (xkd H (by decide)) (Nat.le_of_ble_eq_true rfl) (Z90_11 H X h26 (by omega)) (Nat.le_refl _) ?_
    refine q_lr (k := 1) (i := 0) (q := (.aload_n 0, 1, 0, 0, .null)) rfl (fun _ => rfl) l0_1 ?_
    refine q_li (k := 2) (i := 5) (q := (.iload 5, 2, 0, 0, .null)) rfl (fun _ => rfl) l5_1 ?_
    refine r_s (fr' := (33, lv1, [.int 2, .int q1.1, .ref 11])) (hp' := xW B q26.2) (q := (.iconst 2, 1, 0, 0, .null)) rfl (fun _ => rfl) (Nat.le_refl _) ?_
    refine q_li (k := 1) (i := 3) (q := (.iload_n 3, 1, 0, 0, .null)) rfl (fun _ => rfl) l3_1 ?_
    obtain ⟨q34, h34, h⟩ := xbind h
    refine r_call (ix := 11) (as := [.int q1.1, .int 2, .int v3]) (rest := []) (rv := none) (hp' := xW B q34.2) (pc := 34) rfl xr90 rfl rfl rfl (xkd H (by decide)) (Nat.le_of_ble_eq_true rfl) (Z90_11 H X h34 (by omega)) (Nat.le_refl _) ?_
    refine q_lr (k := 1) (i := 0) (q := (.aload_n 0, 1, 0, 0, .null)) rfl (fun _ => rfl) l0_1 ?_
    refine q_li (k := 2) (i := 5) (q := (.iload 5, 2, 0, 0, .null)) rfl (fun _ => rfl) l5_1 ?_
    refine r_s (fr' := (41, lv1, [.int 3, .int q1.1, .ref 11])) (hp' := xW B q34.2) (q := (.iconst 3, 1, 0, 0, .null)) rfl (fun _ => rfl) (Nat.le_refl _) ?_
    refine q_li (k := 2) (i := 4) (q := (.iload 4, 2, 0, 0, .null)) rfl (fun _ => rfl) l4_1 ?_
    obtain ⟨q43, h43, h⟩ := xbind h
    refine r_call (ix := 11) (as := [.int q1.1, .int 3, .int v4]) (rest := []) (rv := none) (hp' := xW B q43.2) (pc := 43) rfl xr90 rfl rfl rfl (xkd H (by decide)) (Nat.le_of_ble_eq_true rfl) (Z90_11 H X h43 (by omega)) (Nat.le_refl _) ?_
    refine q_lr (k := 1) (i := 0) (q := (.aload_n 0, 1, 0, 0, .null)) rfl (fun _ => rfl) l0_1 ?_
    refine q_li (k := 2) (i := 5) (q := (.iload 5, 2, 0, 0, .null)) rfl (fun _ => rfl) l5_1 ?_
    refine r_s (fr' := (50, lv1, [.int 4, .int q1.1, .ref 11])) (hp' := xW B q43.2) (q := (.iconst 4, 1, 0, 0, .null)) rfl (fun _ => rfl) (Nat.le_refl _) ?_
    refine r_s (fr' := (51, lv1, [.int (-1), .int 4, .int q1.1, .ref 11])) (hp' := xW B q43.2) (q := (.iconst (-1), 1, 0, 0, .null)) rfl (fun _ => rfl) (Nat.le_refl _) ?_
    obtain ⟨q51, h51, h⟩ := xbind h
    refine r_call (ix := 11) (as := [.int q1.1, .int 4, .int (-1)]) (rest := []) (rv := none) (hp' := xW B q51.2) (pc := 51) rfl xr90 rfl rfl rfl (xkd H (by decide)) (Nat.le_of_ble_eq_true rfl) (Z90_11 H X h51 (by omega)) (Nat.le_refl _) ?_
    refine q_lr (k := 1) (i := 0) (q := (.aload_n 0, 1, 0, 0, .null)) rfl (fun _ => rfl) l0_1 ?_
    refine r_gr (c := 12) H (pc := 55) rfl (by decide) (by decide) ?_
    refine r_s (fr' := (59, lv1, [.int 3, .ref 12])) (hp' := xW B q51.2) (q := (.iconst 3, 1, 0, 0, .null)) rfl (fun _ => rfl) (Nat.le_refl _) ?_
    refine q_li (k := 2) (i := 5) (q := (.iload 5, 2, 0, 0, .null)) rfl (fun _ => rfl) l5_1 ?_
    refine r_s (fr' := (62, lv1, [.int 1, .int q1.1, .int 3, .ref 12])) (hp' := xW B q51.2) (q := (.iconst 1, 1, 0, 0, .null)) rfl (fun _ => rfl) (Nat.le_refl _) ?_
    refine r_s (fr' := (63, lv1, [.int (q1.1 + 1), .int 3, .ref 12])) (hp' := xW B q51.2) (q := (.iadd, 1, 0, 0, .null)) rfl (fun _ => rfl) (Nat.le_refl _) ?_
    refine q_as (n := 114) (s2 := (xu q51.2 12 3 (q1.1 + 1))) H (pc := 63) rfl (by decide) (by decide) rfl ?_
    obtain rfl := Option.some.inj h
    exact r_ret (q := (.return_, 1, 0, 0, .null)) rfl rfl (fun _ => rfl)
set_option maxRecDepth 20000 in
theorem Z73_11 {B : zHp} (H : yH0 B) (X : yTx B) {F : Nat} {a1 : Int32} {a2 : Int32} {a3 : Int32} {a4 : Int32} {m : xS} {x : Unit × xS} (h : D73_11 F a1 a2 a3 a4 m = some x) {d : Nat} (hd : 2 ≤ d) : zCan d 73 [.ref 11, .int a1, .int a2, .int a3, .int a4] (xW B m) (none, xW B x.2) := by
  obtain ⟨e, rfl⟩ : ∃ e, d = e + 1 := ⟨d - 1, by omega⟩
  refine zCan_body (nL := 6) (rt := none) (cd := zc73) (xg73) ⟨Nat.le_of_ble_eq_true rfl, by decide⟩ (Nat.le_refl _) ?_
  exact T73_11 H X hd F rfl rfl rfl rfl rfl h
/-- LentTools$Village.tellTrust -/
def D74_11 (F : Nat) (v1 : Int32) (v2 : Int32) (m : xS) : Option (Unit × xS) :=
  if xib (72 + v1) 114 = true then
    if xib (72 + v1) 114 = true then
      some ((), (xu m 12 ((72 + v1) : Int32).toNatClampNeg ((m.1 12 ((72 + v1) : Int32).toNatClampNeg) ||| (1 <<< (v2 &&& 31)))))
    else none
  else none
set_option maxRecDepth 20000 in
theorem T74_11 {B : zHp} (H : yH0 B) (X : yTx B) {e : Nat} (he : 1 ≤ e + 1) (F : Nat) {v1 : Int32} {v2 : Int32} {lv : List (Nat × Value)} {m : xS} {x : Unit × xS} (l0 : zld lv 0 = some (.ref 11)) (l1 : zld lv 1 = some (.int v1)) (l2 : zld lv 2 = some (.int v2)) (h : D74_11 F v1 v2 m = some x) : zR none e 3 none zc74 (0, lv, []) (xW B m) (none, xW B x.2) := by
  unfold D74_11 at h
  refine q_lr (k := 1) (i := 0) (q := (.aload_n 0, 1, 0, 0, .null)) rfl (fun _ => rfl) l0 ?_
  refine r_gr (c := 12) H (pc := 1) rfl (by decide) (by decide) ?_
  refine r_s (fr' := (6, lv, [.int 72, .ref 12])) (hp' := xW B m) (q := (.bipush 72, 2, 0, 0, .null)) rfl (fun _ => rfl) (Nat.le_refl _) ?_
  refine q_li (k := 1) (i := 1) (q := (.iload_n 1, 1, 0, 0, .null)) rfl (fun _ => rfl) l1 ?_
  refine r_s (fr' := (8, lv, [.int (72 + v1), .ref 12])) (hp' := xW B m) (q := (.iadd, 1, 0, 0, .null)) rfl (fun _ => rfl) (Nat.le_refl _) ?_
  refine r_s (fr' := (9, lv, [.int (72 + v1), .ref 12, .int (72 + v1), .ref 12])) (hp' := xW B m) (q := (.dup2, 1, 0, 0, .null)) rfl (fun _ => rfl) (Nat.le_refl _) ?_
  obtain ⟨c1, h⟩ := xif h
  refine q_al (n := 114) (v := (m.1 12 ((72 + v1) : Int32).toNatClampNeg)) H (pc := 9) rfl (by decide) c1 rfl ?_
  refine r_s (fr' := (11, lv, [.int 1, .int (m.1 12 ((72 + v1) : Int32).toNatClampNeg), .int (72 + v1), .ref 12])) (hp' := xW B m) (q := (.iconst 1, 1, 0, 0, .null)) rfl (fun _ => rfl) (Nat.le_refl _) ?_
  refine q_li (k := 1) (i := 2) (q := (.iload_n 2, 1, 0, 0, .null)) rfl (fun _ => rfl) l2 ?_
  refine r_s (fr' := (13, lv, [.int (1 <<< (v2 &&& 31)), .int (m.1 12 ((72 + v1) : Int32).toNatClampNeg), .int (72 + v1), .ref 12])) (hp' := xW B m) (q := (.ishl, 1, 0, 0, .null)) rfl (fun _ => rfl) (Nat.le_refl _) ?_
  refine r_s (fr' := (14, lv, [.int ((m.1 12 ((72 + v1) : Int32).toNatClampNeg) ||| (1 <<< (v2 &&& 31))), .int (72 + v1), .ref 12])) (hp' := xW B m) (q := (.ior, 1, 0, 0, .null)) rfl (fun _ => rfl) (Nat.le_refl _) ?_
  obtain ⟨c2, h⟩ := xif h
  refine q_as (n := 114) (s2 := (xu m 12 ((72 + v1) : Int32).toNatClampNeg ((m.1 12 ((72 + v1) : Int32).toNatClampNeg) ||| (1 <<< (v2 &&& 31))))) H (pc := 14) rfl (by decide) c2 rfl ?_
  obtain rfl := Option.some.inj h
  exact r_ret (q := (.return_, 1, 0, 0, .null)) rfl rfl (fun _ => rfl)
set_option maxRecDepth 20000 in
theorem Z74_11 {B : zHp} (H : yH0 B) (X : yTx B) {F : Nat} {a1 : Int32} {a2 : Int32} {m : xS} {x : Unit × xS} (h : D74_11 F a1 a2 m = some x) {d : Nat} (hd : 1 ≤ d) : zCan d 74 [.ref 11, .int a1, .int a2] (xW B m) (none, xW B x.2) := by
  obtain ⟨e, rfl⟩ : ∃ e, d = e + 1 := ⟨d - 1, by omega⟩
  refine zCan_body (nL := 3) (rt := none) (cd := zc74) (xg74) ⟨Nat.le_of_ble_eq_true rfl, by decide⟩ (Nat.le_refl _) ?_
  exact T74_11 H X hd F rfl rfl rfl h
/-- LentTools$Village.setOfTool -/
def D88_11 (F : Nat) (v1 : Int32) (v2 : Int32) (v3 : Int32) (m : xS) : Option (Unit × xS) :=
  if xib ((6 + (6 * v2)) + v1) 114 = true then
    some ((), (xu m 12 (((6 + (6 * v2)) + v1) : Int32).toNatClampNeg v3))
  else none
set_option maxRecDepth 20000 in
theorem T88_11 {B : zHp} (H : yH0 B) (X : yTx B) {e : Nat} (he : 1 ≤ e + 1) (F : Nat) {v1 : Int32} {v2 : Int32} {v3 : Int32} {lv : List (Nat × Value)} {m : xS} {x : Unit × xS} (l0 : zld lv 0 = some (.ref 11)) (l1 : zld lv 1 = some (.int v1)) (l2 : zld lv 2 = some (.int v2)) (l3 : zld lv 3 = some (.int v3)) (h : D88_11 F v1 v2 v3 m = some x) : zR none e 4 none zc88 (0, lv, []) (xW B m) (none, xW B x.2) := by
  unfold D88_11 at h
  refine q_lr (k := 1) (i := 0) (q := (.aload_n 0, 1, 0, 0, .null)) rfl (fun _ => rfl) l0 ?_
  refine r_gr (c := 12) H (pc := 1) rfl (by decide) (by decide) ?_
  refine r_s (fr' := (6, lv, [.int 6, .ref 12])) (hp' := xW B m) (q := (.bipush 6, 2, 0, 0, .null)) rfl (fun _ => rfl) (Nat.le_refl _) ?_
  refine r_s (fr' := (8, lv, [.int 6, .int 6, .ref 12])) (hp' := xW B m) (q := (.bipush 6, 2, 0, 0, .null)) rfl (fun _ => rfl) (Nat.le_refl _) ?_
  refine q_li (k := 1) (i := 2) (q := (.iload_n 2, 1, 0, 0, .null)) rfl (fun _ => rfl) l2 ?_
  refine r_s (fr' := (10, lv, [.int (6 * v2), .int 6, .ref 12])) (hp' := xW B m) (q := (.imul, 1, 0, 0, .null)) rfl (fun _ => rfl) (Nat.le_refl _) ?_
  refine r_s (fr' := (11, lv, [.int (6 + (6 * v2)), .ref 12])) (hp' := xW B m) (q := (.iadd, 1, 0, 0, .null)) rfl (fun _ => rfl) (Nat.le_refl _) ?_
  refine q_li (k := 1) (i := 1) (q := (.iload_n 1, 1, 0, 0, .null)) rfl (fun _ => rfl) l1 ?_
  refine r_s (fr' := (13, lv, [.int ((6 + (6 * v2)) + v1), .ref 12])) (hp' := xW B m) (q := (.iadd, 1, 0, 0, .null)) rfl (fun _ => rfl) (Nat.le_refl _) ?_
  refine q_li (k := 1) (i := 3) (q := (.iload_n 3, 1, 0, 0, .null)) rfl (fun _ => rfl) l3 ?_
  obtain ⟨c1, h⟩ := xif h
  refine q_as (n := 114) (s2 := (xu m 12 (((6 + (6 * v2)) + v1) : Int32).toNatClampNeg v3)) H (pc := 14) rfl (by decide) c1 rfl ?_
  obtain rfl := Option.some.inj h
  exact r_ret (q := (.return_, 1, 0, 0, .null)) rfl rfl (fun _ => rfl)
set_option maxRecDepth 20000 in
theorem Z88_11 {B : zHp} (H : yH0 B) (X : yTx B) {F : Nat} {a1 : Int32} {a2 : Int32} {a3 : Int32} {m : xS} {x : Unit × xS} (h : D88_11 F a1 a2 a3 m = some x) {d : Nat} (hd : 1 ≤ d) : zCan d 88 [.ref 11, .int a1, .int a2, .int a3] (xW B m) (none, xW B x.2) := by
  obtain ⟨e, rfl⟩ : ∃ e, d = e + 1 := ⟨d - 1, by omega⟩
  refine zCan_body (nL := 4) (rt := none) (cd := zc88) (xg88) ⟨Nat.le_of_ble_eq_true rfl, by decide⟩ (Nat.le_refl _) ?_
  exact T88_11 H X hd F rfl rfl rfl rfl h
/-- LentTools$Village.tellTool -/
def D72_11 (F : Nat) (v1 : Int32) (v2 : Int32) (v3 : Int32) (m : xS) : Option (Unit × xS) :=
  (D79_11 F m).bind fun q1 =>
    if zcmp .ge q1.1 6 = true then
      some ((), q1.2)
    else
      (D88_11 F q1.1 0 v1 q1.2).bind fun q18 =>
        (D88_11 F q1.1 1 v2 q18.2).bind fun q26 =>
          (D88_11 F q1.1 2 v3 q26.2).bind fun q34 =>
            (D88_11 F q1.1 3 v1 q34.2).bind fun q42 =>
              some ((), (xu q42.2 12 2 (q1.1 + 1)))
set_option maxRecDepth 20000 in
theorem T72_11 {B : zHp} (H : yH0 B) (X : yTx B) {e : Nat} (he : 2 ≤ e + 1) (F : Nat) {v1 : Int32} {v2 : Int32} {v3 : Int32} {lv : List (Nat × Value)} {m : xS} {x : Unit × xS} (l0 : zld lv 0 = some (.ref 11)) (l1 : zld lv 1 = some (.int v1)) (l2 : zld lv 2 = some (.int v2)) (l3 : zld lv 3 = some (.int v3)) (h : D72_11 F v1 v2 v3 m = some x) : zR none e 5 none zc72 (0, lv, []) (xW B m) (none, xW B x.2) := by
  unfold D72_11 at h
  refine q_lr (k := 1) (i := 0) (q := (.aload_n 0, 1, 0, 0, .null)) rfl (fun _ => rfl) l0 ?_
  obtain ⟨q1, h1, h⟩ := xbind h
  refine r_call (ix := 11) (as := []) (rest := []) (rv := some (.int q1.1)) (hp' := xW B q1.2) (pc := 1) rfl xr79 rfl rfl rfl (xkd H (by decide)) (Nat.le_of_ble_eq_true rfl) (Z79_11 H X h1 (by omega)) (Nat.le_refl _) ?_
  refine q_si (k := 2) (i := 4) (q := (.istore 4, 2, 0, 0, .null)) rfl (fun _ => rfl) (by decide) ?_
  have l0_1 : zld (zs1 lv 4 (.int q1.1)) 0 = some (.ref 11) := x_o1 l0 rfl rfl
  have l1_1 : zld (zs1 lv 4 (.int q1.1)) 1 = some (.int v1) := x_o1 l1 rfl rfl
  have l2_1 : zld (zs1 lv 4 (.int q1.1)) 2 = some (.int v2) := x_o1 l2 rfl rfl
  have l3_1 : zld (zs1 lv 4 (.int q1.1)) 3 = some (.int v3) := x_o1 l3 rfl rfl
  have l4_1 : zld (zs1 lv 4 (.int q1.1)) 4 = some (.int q1.1) := zs1_ld _ _ _
  generalize (zs1 lv 4 (.int q1.1)) = lv1 at *
  refine q_li (k := 2) (i := 4) (q := (.iload 4, 2, 0, 0, .null)) rfl (fun _ => rfl) l4_1 ?_
  refine r_s (fr' := (10, lv1, [.int 6, .int q1.1])) (hp' := xW B q1.2) (q := (.bipush 6, 2, 0, 0, .null)) rfl (fun _ => rfl) (Nat.le_refl _) ?_
  refine r_ifc (len := 3) (a := 55) (b := 0) (v0 := .null) (cn := .ge) (off := 45) rfl (fun c => ?_) (fun c => ?_)
  · rw [if_pos c] at h
    obtain rfl := Option.some.inj h
    exact r_ret (q := (.return_, 1, 0, 0, .null)) rfl rfl (fun _ => rfl)
  · rw [if_neg (by rw [c]; decide)] at h
    refine q_lr (k := 1) (i := 0) (q := (.aload_n 0, 1, 0, 0, .null)) rfl (fun _ => rfl) l0_1 ?_
    refine q_li (k := 2) (i := 4) (q := (.iload 4, 2, 0, 0, .null)) rfl (fun _ => rfl) l4_1 ?_
    refine r_s (fr' := (17, lv1, [.int 0, .int q1.1, .ref 11])) (hp' := xW B q1.2) (q := (.iconst 0, 1, 0, 0, .null)) rfl (fun _ => rfl) (Nat.le_refl _) ?_
    refine q_li (k := 1) (i := 1) (q := (.iload_n 1, 1, 0, 0, .null)) rfl (fun _ => rfl) l1_1 ?_
    obtain ⟨q18, h18, h⟩ := xbind h
    refine r_call (ix := 11) (as := [.int q1.1, .int 0, .int v1]) (rest := []) (rv := none) (hp' := xW B q18.2) (pc := 18) rfl xr88 rfl rfl rfl (xkd H (by decide)) (Nat.le_of_ble_eq_true rfl) (Z88_11 H X h18 (by omega)) (Nat.le_refl _) ?_
    refine q_lr (k := 1) (i := 0) (q := (.aload_n 0, 1, 0, 0, .null)) rfl (fun _ => rfl) l0_1 ?_
    refine q_li (k := 2) (i := 4) (q := (.iload 4, 2, 0, 0, .null)) rfl (fun _ => rfl) l4_1 ?_
    refine r_s (fr' := (25, lv1, [.int 1, .int q1.1, .ref 11])) (hp' := xW B q18.2) (q := (.iconst 1, 1, 0, 0, .null)) rfl (fun _ => rfl) (Nat.le_refl _) ?_
    refine q_li (k := 1) (i := 2) (q := (.iload_n 2, 1, 0, 0, .null)) rfl (fun _ => rfl) l2_1 ?_
    obtain ⟨q26, h26, h⟩ := xbind h
    refine r_call (ix := 11) (as := [.int q1.1, .int 1, .int v2]) (rest := []) (rv := none) (hp' := xW B q26.2) (pc := 26) rfl xr88 rfl rfl rfl (xkd H (by decide)) (Nat.le_of_ble_eq_true rfl) (Z88_11 H X h26 (by omega)) (Nat.le_refl _) ?_
    refine q_lr (k := 1) (i := 0) (q := (.aload_n 0, 1, 0, 0, .null)) rfl (fun _ => rfl) l0_1 ?_
    refine q_li (k := 2) (i := 4) (q := (.iload 4, 2, 0, 0, .null)) rfl (fun _ => rfl) l4_1 ?_
    refine r_s (fr' := (33, lv1, [.int 2, .int q1.1, .ref 11])) (hp' := xW B q26.2) (q := (.iconst 2, 1, 0, 0, .null)) rfl (fun _ => rfl) (Nat.le_refl _) ?_
    refine q_li (k := 1) (i := 3) (q := (.iload_n 3, 1, 0, 0, .null)) rfl (fun _ => rfl) l3_1 ?_
    obtain ⟨q34, h34, h⟩ := xbind h
    refine r_call (ix := 11) (as := [.int q1.1, .int 2, .int v3]) (rest := []) (rv := none) (hp' := xW B q34.2) (pc := 34) rfl xr88 rfl rfl rfl (xkd H (by decide)) (Nat.le_of_ble_eq_true rfl) (Z88_11 H X h34 (by omega)) (Nat.le_refl _) ?_
    refine q_lr (k := 1) (i := 0) (q := (.aload_n 0, 1, 0, 0, .null)) rfl (fun _ => rfl) l0_1 ?_
    refine q_li (k := 2) (i := 4) (q := (.iload 4, 2, 0, 0, .null)) rfl (fun _ => rfl) l4_1 ?_
    refine r_s (fr' := (41, lv1, [.int 3, .int q1.1, .ref 11])) (hp' := xW B q34.2) (q := (.iconst 3, 1, 0, 0, .null)) rfl (fun _ => rfl) (Nat.le_refl _) ?_
    refine q_li (k := 1) (i := 1) (q := (.iload_n 1, 1, 0, 0, .null)) rfl (fun _ => rfl) l1_1 ?_
    obtain ⟨q42, h42, h⟩ := xbind h
    refine r_call (ix := 11) (as := [.int q1.1, .int 3, .int v1]) (rest := []) (rv := none) (hp' := xW B q42.2) (pc := 42) rfl xr88 rfl rfl rfl (xkd H (by decide)) (Nat.le_of_ble_eq_true rfl) (Z88_11 H X h42 (by omega)) (Nat.le_refl _) ?_
    refine q_lr (k := 1) (i := 0) (q := (.aload_n 0, 1, 0, 0, .null)) rfl (fun _ => rfl) l0_1 ?_
    refine r_gr (c := 12) H (pc := 46) rfl (by decide) (by decide) ?_
    refine r_s (fr' := (50, lv1, [.int 2, .ref 12])) (hp' := xW B q42.2) (q := (.iconst 2, 1, 0, 0, .null)) rfl (fun _ => rfl) (Nat.le_refl _) ?_
    refine q_li (k := 2) (i := 4) (q := (.iload 4, 2, 0, 0, .null)) rfl (fun _ => rfl) l4_1 ?_
    refine r_s (fr' := (53, lv1, [.int 1, .int q1.1, .int 2, .ref 12])) (hp' := xW B q42.2) (q := (.iconst 1, 1, 0, 0, .null)) rfl (fun _ => rfl) (Nat.le_refl _) ?_
    refine r_s (fr' := (54, lv1, [.int (q1.1 + 1), .int 2, .ref 12])) (hp' := xW B q42.2) (q := (.iadd, 1, 0, 0, .null)) rfl (fun _ => rfl) (Nat.le_refl _) ?_
    refine q_as (n := 114) (s2 := (xu q42.2 12 2 (q1.1 + 1))) H (pc := 54) rfl (by decide) (by decide) rfl ?_
    obtain rfl := Option.some.inj h
    exact r_ret (q := (.return_, 1, 0, 0, .null)) rfl rfl (fun _ => rfl)
set_option maxRecDepth 20000 in
theorem Z72_11 {B : zHp} (H : yH0 B) (X : yTx B) {F : Nat} {a1 : Int32} {a2 : Int32} {a3 : Int32} {m : xS} {x : Unit × xS} (h : D72_11 F a1 a2 a3 m = some x) {d : Nat} (hd : 2 ≤ d) : zCan d 72 [.ref 11, .int a1, .int a2, .int a3] (xW B m) (none, xW B x.2) := by
  obtain ⟨e, rfl⟩ : ∃ e, d = e + 1 := ⟨d - 1, by omega⟩
  refine zCan_body (nL := 5) (rt := none) (cd := zc72) (xg72) ⟨Nat.le_of_ble_eq_true rfl, by decide⟩ (Nat.le_refl _) ?_
  exact T72_11 H X hd F rfl rfl rfl rfl h
/-- LentTools$VillageReader.tell -/
def D120_4_11 (F : Nat) (v2 : Int32) (m : xS) : Option (Unit × xS) :=
  if (v2 == 0) = true then
    (D71_11 F (m.1 5 0) (m.1 5 1) m).bind fun q45 =>
      some ((), q45.2)
  else
    if (v2 == 1) = true then
      (D72_11 F (m.1 5 0) (m.1 5 1) (m.1 5 2) m).bind fun q70 =>
        some ((), q70.2)
    else
      if (v2 == 2) = true then
        (D74_11 F (m.1 5 0) (m.1 5 1) m).bind fun q89 =>
          some ((), q89.2)
      else
        if (v2 == 3) = true then
          (D73_11 F (m.1 5 0) (m.1 5 1) (m.1 5 2) (m.1 5 3) m).bind fun q120 =>
            some ((), q120.2)
        else
          (D75_11 F (m.1 5 0) (m.1 5 1) (m.1 5 2) m).bind fun q145 =>
            some ((), q145.2)
set_option maxRecDepth 20000 in
theorem T120_4_11 {B : zHp} (H : yH0 B) (X : yTx B) {e : Nat} (he : 3 ≤ e + 1) (F : Nat) {v2 : Int32} {lv : List (Nat × Value)} {m : xS} {x : Unit × xS} (l0 : zld lv 0 = some (.ref 4)) (l1 : zld lv 1 = some (.ref 11)) (l2 : zld lv 2 = some (.int v2)) (h : D120_4_11 F v2 m = some x) : zR none e 3 none zc120 (0, lv, []) (xW B m) (none, xW B x.2) := by
  unfold D120_4_11 at h
  refine q_li (k := 1) (i := 2) (q := (.iload_n 2, 1, 0, 0, .null)) rfl (fun _ => rfl) l2 ?_
  by_cases d1 : ((v2 == 0)) = true
  · rw [if_pos d1] at h
    refine q_sw (pc2 := 32) (q := (.tableswitch 125 0 3 #[31, 50, 75, 94], 31, 0, 0, .null)) d1 rfl (fun _ => rfl) ?_
    refine q_lr (k := 1) (i := 1) (q := (.aload_n 1, 1, 0, 0, .null)) rfl (fun _ => rfl) l1 ?_
    refine q_lr (k := 1) (i := 0) (q := (.aload_n 0, 1, 0, 0, .null)) rfl (fun _ => rfl) l0 ?_
    refine r_gr (c := 5) H (pc := 34) rfl (by decide) (by decide) ?_
    refine r_s (fr' := (38, lv, [.int 0, .ref 5, .ref 11])) (hp' := xW B m) (q := (.iconst 0, 1, 0, 0, .null)) rfl (fun _ => rfl) (Nat.le_refl _) ?_
    refine q_al (n := 4) (v := (m.1 5 0)) H (pc := 38) rfl (by decide) (by decide) rfl ?_
    refine q_lr (k := 1) (i := 0) (q := (.aload_n 0, 1, 0, 0, .null)) rfl (fun _ => rfl) l0 ?_
    refine r_gr (c := 5) H (pc := 40) rfl (by decide) (by decide) ?_
    refine r_s (fr' := (44, lv, [.int 1, .ref 5, .int (m.1 5 0), .ref 11])) (hp' := xW B m) (q := (.iconst 1, 1, 0, 0, .null)) rfl (fun _ => rfl) (Nat.le_refl _) ?_
    refine q_al (n := 4) (v := (m.1 5 1)) H (pc := 44) rfl (by decide) (by decide) rfl ?_
    obtain ⟨q45, h45, h⟩ := xbind h
    refine r_call (ix := 11) (as := [.int (m.1 5 0), .int (m.1 5 1)]) (rest := []) (rv := none) (hp' := xW B q45.2) (pc := 45) rfl xr71 rfl rfl rfl (xkd H (by decide)) (Nat.le_of_ble_eq_true rfl) (Z71_11 H X h45 (by omega)) (Nat.le_refl _) ?_
    refine r_s (fr' := (148, lv, [])) (hp' := xW B q45.2) (q := (.goto 100, 3, 148, 0, .null)) rfl (fun _ => rfl) (Nat.le_refl _) ?_
    obtain rfl := Option.some.inj h
    exact r_ret (q := (.return_, 1, 0, 0, .null)) rfl rfl (fun _ => rfl)
  · rw [if_neg d1] at h
    by_cases d2 : ((v2 == 1)) = true
    · rw [if_pos d2] at h
      refine q_sw (pc2 := 51) (q := (.tableswitch 125 0 3 #[31, 50, 75, 94], 31, 0, 0, .null)) d2 rfl (fun _ => rfl) ?_
      refine q_lr (k := 1) (i := 1) (q := (.aload_n 1, 1, 0, 0, .null)) rfl (fun _ => rfl) l1 ?_
      refine q_lr (k := 1) (i := 0) (q := (.aload_n 0, 1, 0, 0, .null)) rfl (fun _ => rfl) l0 ?_
      refine r_gr (c := 5) H (pc := 53) rfl (by decide) (by decide) ?_
      refine r_s (fr' := (57, lv, [.int 0, .ref 5, .ref 11])) (hp' := xW B m) (q := (.iconst 0, 1, 0, 0, .null)) rfl (fun _ => rfl) (Nat.le_refl _) ?_
      refine q_al (n := 4) (v := (m.1 5 0)) H (pc := 57) rfl (by decide) (by decide) rfl ?_
      refine q_lr (k := 1) (i := 0) (q := (.aload_n 0, 1, 0, 0, .null)) rfl (fun _ => rfl) l0 ?_
      refine r_gr (c := 5) H (pc := 59) rfl (by decide) (by decide) ?_
      refine r_s (fr' := (63, lv, [.int 1, .ref 5, .int (m.1 5 0), .ref 11])) (hp' := xW B m) (q := (.iconst 1, 1, 0, 0, .null)) rfl (fun _ => rfl) (Nat.le_refl _) ?_
      refine q_al (n := 4) (v := (m.1 5 1)) H (pc := 63) rfl (by decide) (by decide) rfl ?_
      refine q_lr (k := 1) (i := 0) (q := (.aload_n 0, 1, 0, 0, .null)) rfl (fun _ => rfl) l0 ?_
      refine r_gr (c := 5) H (pc := 65) rfl (by decide) (by decide) ?_
      refine r_s (fr' := (69, lv, [.int 2, .ref 5, .int (m.1 5 1), .int (m.1 5 0), .ref 11])) (hp' := xW B m) (q := (.iconst 2, 1, 0, 0, .null)) rfl (fun _ => rfl) (Nat.le_refl _) ?_
      refine q_al (n := 4) (v := (m.1 5 2)) H (pc := 69) rfl (by decide) (by decide) rfl ?_
      obtain ⟨q70, h70, h⟩ := xbind h
      refine r_call (ix := 11) (as := [.int (m.1 5 0), .int (m.1 5 1), .int (m.1 5 2)]) (rest := []) (rv := none) (hp' := xW B q70.2) (pc := 70) rfl xr72 rfl rfl rfl (xkd H (by decide)) (Nat.le_of_ble_eq_true rfl) (Z72_11 H X h70 (by omega)) (Nat.le_refl _) ?_
      refine r_s (fr' := (148, lv, [])) (hp' := xW B q70.2) (q := (.goto 75, 3, 148, 0, .null)) rfl (fun _ => rfl) (Nat.le_refl _) ?_
      obtain rfl := Option.some.inj h
      exact r_ret (q := (.return_, 1, 0, 0, .null)) rfl rfl (fun _ => rfl)
    · rw [if_neg d2] at h
      by_cases d3 : ((v2 == 2)) = true
      · rw [if_pos d3] at h
        refine q_sw (pc2 := 76) (q := (.tableswitch 125 0 3 #[31, 50, 75, 94], 31, 0, 0, .null)) d3 rfl (fun _ => rfl) ?_
        refine q_lr (k := 1) (i := 1) (q := (.aload_n 1, 1, 0, 0, .null)) rfl (fun _ => rfl) l1 ?_
        refine q_lr (k := 1) (i := 0) (q := (.aload_n 0, 1, 0, 0, .null)) rfl (fun _ => rfl) l0 ?_
        refine r_gr (c := 5) H (pc := 78) rfl (by decide) (by decide) ?_
        refine r_s (fr' := (82, lv, [.int 0, .ref 5, .ref 11])) (hp' := xW B m) (q := (.iconst 0, 1, 0, 0, .null)) rfl (fun _ => rfl) (Nat.le_refl _) ?_
        refine q_al (n := 4) (v := (m.1 5 0)) H (pc := 82) rfl (by decide) (by decide) rfl ?_
        refine q_lr (k := 1) (i := 0) (q := (.aload_n 0, 1, 0, 0, .null)) rfl (fun _ => rfl) l0 ?_
        refine r_gr (c := 5) H (pc := 84) rfl (by decide) (by decide) ?_
        refine r_s (fr' := (88, lv, [.int 1, .ref 5, .int (m.1 5 0), .ref 11])) (hp' := xW B m) (q := (.iconst 1, 1, 0, 0, .null)) rfl (fun _ => rfl) (Nat.le_refl _) ?_
        refine q_al (n := 4) (v := (m.1 5 1)) H (pc := 88) rfl (by decide) (by decide) rfl ?_
        obtain ⟨q89, h89, h⟩ := xbind h
        refine r_call (ix := 11) (as := [.int (m.1 5 0), .int (m.1 5 1)]) (rest := []) (rv := none) (hp' := xW B q89.2) (pc := 89) rfl xr74 rfl rfl rfl (xkd H (by decide)) (Nat.le_of_ble_eq_true rfl) (Z74_11 H X h89 (by omega)) (Nat.le_refl _) ?_
        refine r_s (fr' := (148, lv, [])) (hp' := xW B q89.2) (q := (.goto 56, 3, 148, 0, .null)) rfl (fun _ => rfl) (Nat.le_refl _) ?_
        obtain rfl := Option.some.inj h
        exact r_ret (q := (.return_, 1, 0, 0, .null)) rfl rfl (fun _ => rfl)
      · rw [if_neg d3] at h
        by_cases d4 : ((v2 == 3)) = true
        · rw [if_pos d4] at h
          refine q_sw (pc2 := 95) (q := (.tableswitch 125 0 3 #[31, 50, 75, 94], 31, 0, 0, .null)) d4 rfl (fun _ => rfl) ?_
          refine q_lr (k := 1) (i := 1) (q := (.aload_n 1, 1, 0, 0, .null)) rfl (fun _ => rfl) l1 ?_
          refine q_lr (k := 1) (i := 0) (q := (.aload_n 0, 1, 0, 0, .null)) rfl (fun _ => rfl) l0 ?_
          refine r_gr (c := 5) H (pc := 97) rfl (by decide) (by decide) ?_
          refine r_s (fr' := (101, lv, [.int 0, .ref 5, .ref 11])) (hp' := xW B m) (q := (.iconst 0, 1, 0, 0, .null)) rfl (fun _ => rfl) (Nat.le_refl _) ?_
          refine q_al (n := 4) (v := (m.1 5 0)) H (pc := 101) rfl (by decide) (by decide) rfl ?_
          refine q_lr (k := 1) (i := 0) (q := (.aload_n 0, 1, 0, 0, .null)) rfl (fun _ => rfl) l0 ?_
          refine r_gr (c := 5) H (pc := 103) rfl (by decide) (by decide) ?_
          refine r_s (fr' := (107, lv, [.int 1, .ref 5, .int (m.1 5 0), .ref 11])) (hp' := xW B m) (q := (.iconst 1, 1, 0, 0, .null)) rfl (fun _ => rfl) (Nat.le_refl _) ?_
          refine q_al (n := 4) (v := (m.1 5 1)) H (pc := 107) rfl (by decide) (by decide) rfl ?_
          refine q_lr (k := 1) (i := 0) (q := (.aload_n 0, 1, 0, 0, .null)) rfl (fun _ => rfl) l0 ?_
          refine r_gr (c := 5) H (pc := 109) rfl (by decide) (by decide) ?_
          refine r_s (fr' := (113, lv, [.int 2, .ref 5, .int (m.1 5 1), .int (m.1 5 0), .ref 11])) (hp' := xW B m) (q := (.iconst 2, 1, 0, 0, .null)) rfl (fun _ => rfl) (Nat.le_refl _) ?_
          refine q_al (n := 4) (v := (m.1 5 2)) H (pc := 113) rfl (by decide) (by decide) rfl ?_
          refine q_lr (k := 1) (i := 0) (q := (.aload_n 0, 1, 0, 0, .null)) rfl (fun _ => rfl) l0 ?_
          refine r_gr (c := 5) H (pc := 115) rfl (by decide) (by decide) ?_
          refine r_s (fr' := (119, lv, [.int 3, .ref 5, .int (m.1 5 2), .int (m.1 5 1), .int (m.1 5 0), .ref 11])) (hp' := xW B m) (q := (.iconst 3, 1, 0, 0, .null)) rfl (fun _ => rfl) (Nat.le_refl _) ?_
          refine q_al (n := 4) (v := (m.1 5 3)) H (pc := 119) rfl (by decide) (by decide) rfl ?_
          obtain ⟨q120, h120, h⟩ := xbind h
          refine r_call (ix := 11) (as := [.int (m.1 5 0), .int (m.1 5 1), .int (m.1 5 2), .int (m.1 5 3)]) (rest := []) (rv := none) (hp' := xW B q120.2) (pc := 120) rfl xr73 rfl rfl rfl (xkd H (by decide)) (Nat.le_of_ble_eq_true rfl) (Z73_11 H X h120 (by omega)) (Nat.le_refl _) ?_
          refine r_s (fr' := (148, lv, [])) (hp' := xW B q120.2) (q := (.goto 25, 3, 148, 0, .null)) rfl (fun _ => rfl) (Nat.le_refl _) ?_
          obtain rfl := Option.some.inj h
          exact r_ret (q := (.return_, 1, 0, 0, .null)) rfl rfl (fun _ => rfl)
        · rw [if_neg d4] at h
          refine q_td (pc2 := 126) (q := (.tableswitch 125 0 3 #[31, 50, 75, 94], 31, 0, 0, .null)) (dflt := 125) (lo := 0) (hi := 3) (offs := #[31, 50, 75, 94]) (by have z0 := xne (z := 0) rfl d1; have z1 := xne (z := 1) rfl d2; have z2 := xne (z := 2) rfl d3; have z3 := xne (z := 3) rfl d4; omega) rfl (fun _ => rfl) rfl ?_
          refine q_lr (k := 1) (i := 1) (q := (.aload_n 1, 1, 0, 0, .null)) rfl (fun _ => rfl) l1 ?_
          refine q_lr (k := 1) (i := 0) (q := (.aload_n 0, 1, 0, 0, .null)) rfl (fun _ => rfl) l0 ?_
          refine r_gr (c := 5) H (pc := 128) rfl (by decide) (by decide) ?_
          refine r_s (fr' := (132, lv, [.int 0, .ref 5, .ref 11])) (hp' := xW B m) (q := (.iconst 0, 1, 0, 0, .null)) rfl (fun _ => rfl) (Nat.le_refl _) ?_
          refine q_al (n := 4) (v := (m.1 5 0)) H (pc := 132) rfl (by decide) (by decide) rfl ?_
          refine q_lr (k := 1) (i := 0) (q := (.aload_n 0, 1, 0, 0, .null)) rfl (fun _ => rfl) l0 ?_
          refine r_gr (c := 5) H (pc := 134) rfl (by decide) (by decide) ?_
          refine r_s (fr' := (138, lv, [.int 1, .ref 5, .int (m.1 5 0), .ref 11])) (hp' := xW B m) (q := (.iconst 1, 1, 0, 0, .null)) rfl (fun _ => rfl) (Nat.le_refl _) ?_
          refine q_al (n := 4) (v := (m.1 5 1)) H (pc := 138) rfl (by decide) (by decide) rfl ?_
          refine q_lr (k := 1) (i := 0) (q := (.aload_n 0, 1, 0, 0, .null)) rfl (fun _ => rfl) l0 ?_
          refine r_gr (c := 5) H (pc := 140) rfl (by decide) (by decide) ?_
          refine r_s (fr' := (144, lv, [.int 2, .ref 5, .int (m.1 5 1), .int (m.1 5 0), .ref 11])) (hp' := xW B m) (q := (.iconst 2, 1, 0, 0, .null)) rfl (fun _ => rfl) (Nat.le_refl _) ?_
          refine q_al (n := 4) (v := (m.1 5 2)) H (pc := 144) rfl (by decide) (by decide) rfl ?_
          obtain ⟨q145, h145, h⟩ := xbind h
          refine r_call (ix := 11) (as := [.int (m.1 5 0), .int (m.1 5 1), .int (m.1 5 2)]) (rest := []) (rv := none) (hp' := xW B q145.2) (pc := 145) rfl xr75 rfl rfl rfl (xkd H (by decide)) (Nat.le_of_ble_eq_true rfl) (Z75_11 H X h145 (by omega)) (Nat.le_refl _) ?_
          obtain rfl := Option.some.inj h
          exact r_ret (q := (.return_, 1, 0, 0, .null)) rfl rfl (fun _ => rfl)
set_option maxRecDepth 20000 in
theorem Z120_4_11 {B : zHp} (H : yH0 B) (X : yTx B) {F : Nat} {a2 : Int32} {m : xS} {x : Unit × xS} (h : D120_4_11 F a2 m = some x) {d : Nat} (hd : 3 ≤ d) : zCan d 120 [.ref 4, .ref 11, .int a2] (xW B m) (none, xW B x.2) := by
  obtain ⟨e, rfl⟩ : ∃ e, d = e + 1 := ⟨d - 1, by omega⟩
  refine zCan_body (nL := 3) (rt := none) (cd := zc120) (xg120) ⟨Nat.le_of_ble_eq_true rfl, by decide⟩ (Nat.le_refl _) ?_
  exact T120_4_11 H X hd F rfl rfl rfl h
/-- LentTools$VillageReader.readClause -/
def D117_4_2_11 (F : Nat) (v3 : Int32) (m : xS) : Option (Unit × xS) :=
  (D60_2_1001 F m).bind fun q3 =>
    if zcmp .ne q3.1 (-1) = true then
      (D118_11 F q3.1 v3 q3.2).bind fun q19 =>
        if zcmp .ne q19.1 0 = true then
          (D77_11 F q19.2).bind fun q38 =>
            (D119_4_2 F q38.1 q3.1 q38.2).bind fun q43 =>
              (D51_2 F q43.2).bind fun q47 =>
                if zcmp .eq q47.1 0 = true then
                  some ((), q47.2)
                else
                  (D120_4_11 F q3.1 q47.2).bind fun q57 =>
                    some ((), q57.2)
        else
          (D52_2 F (q19.2.1 2 3) 4 q19.2).bind fun q31 =>
            some ((), q31.2)
    else
      some ((), q3.2)
set_option maxRecDepth 20000 in
theorem T117_4_2_11 {B : zHp} (H : yH0 B) (X : yTx B) {e : Nat} (he : 8 ≤ e + 1) (F : Nat) {v3 : Int32} {lv : List (Nat × Value)} {m : xS} {x : Unit × xS} (l0 : zld lv 0 = some (.ref 4)) (l1 : zld lv 1 = some (.ref 2)) (l2 : zld lv 2 = some (.ref 11)) (l3 : zld lv 3 = some (.int v3)) (h : D117_4_2_11 F v3 m = some x) : zR none e 5 none zc117 (0, lv, []) (xW B m) (none, xW B x.2) := by
  unfold D117_4_2_11 at h
  refine q_lr (k := 1) (i := 1) (q := (.aload_n 1, 1, 0, 0, .null)) rfl (fun _ => rfl) l1 ?_
  refine r_s (fr' := (3, lv, [.ref 1001, .ref 2])) (hp' := xW B m) (q := (.ldc 25, 2, 1, 0, .ref 1001)) rfl (fun _ => rfl) (Nat.le_refl _) ?_
  obtain ⟨q3, h3, h⟩ := xbind h
  refine r_call (ix := 2) (as := [.ref 1001]) (rest := []) (rv := some (.int q3.1)) (hp' := xW B q3.2) (pc := 3) rfl xr60 rfl rfl rfl (xkd H (by decide)) (Nat.le_of_ble_eq_true rfl) (Z60_2_1001 H X h3 (by omega)) (Nat.le_refl _) ?_
  refine q_si (k := 2) (i := 4) (q := (.istore 4, 2, 0, 0, .null)) rfl (fun _ => rfl) (by decide) ?_
  have l0_1 : zld (zs1 lv 4 (.int q3.1)) 0 = some (.ref 4) := x_o1 l0 rfl rfl
  have l1_1 : zld (zs1 lv 4 (.int q3.1)) 1 = some (.ref 2) := x_o1 l1 rfl rfl
  have l2_1 : zld (zs1 lv 4 (.int q3.1)) 2 = some (.ref 11) := x_o1 l2 rfl rfl
  have l3_1 : zld (zs1 lv 4 (.int q3.1)) 3 = some (.int v3) := x_o1 l3 rfl rfl
  have l4_1 : zld (zs1 lv 4 (.int q3.1)) 4 = some (.int q3.1) := zs1_ld _ _ _
  generalize (zs1 lv 4 (.int q3.1)) = lv1 at *
  refine q_li (k := 2) (i := 4) (q := (.iload 4, 2, 0, 0, .null)) rfl (fun _ => rfl) l4_1 ?_
  refine r_s (fr' := (11, lv1, [.int (-1), .int q3.1])) (hp' := xW B q3.2) (q := (.iconst (-1), 1, 0, 0, .null)) rfl (fun _ => rfl) (Nat.le_refl _) ?_
  refine r_ifc (len := 3) (a := 15) (b := 0) (v0 := .null) (cn := .ne) (off := 4) rfl (fun c => ?_) (fun c => ?_)
  · rw [if_pos c] at h
    refine q_lr (k := 1) (i := 2) (q := (.aload_n 2, 1, 0, 0, .null)) rfl (fun _ => rfl) l2_1 ?_
    refine q_li (k := 2) (i := 4) (q := (.iload 4, 2, 0, 0, .null)) rfl (fun _ => rfl) l4_1 ?_
    refine q_li (k := 1) (i := 3) (q := (.iload_n 3, 1, 0, 0, .null)) rfl (fun _ => rfl) l3_1 ?_
    obtain ⟨q19, h19, h⟩ := xbind h
    refine r_callS (as := [.ref 11, .int q3.1, .int v3]) (rest := []) (rv := some (.int q19.1)) (hp' := xW B q19.2) (pc := 19) rfl xr118 rfl rfl rfl (Nat.le_of_ble_eq_true rfl) (Z118_11 H X h19 (by omega)) (Nat.le_refl _) ?_
    refine r_if (len := 3) (a := 35) (b := 0) (v0 := .null) (cn := .ne) (off := 13) rfl (fun c => ?_) (fun c => ?_)
    · rw [if_pos c] at h
      refine q_lr (k := 1) (i := 0) (q := (.aload_n 0, 1, 0, 0, .null)) rfl (fun _ => rfl) l0_1 ?_
      refine q_lr (k := 1) (i := 1) (q := (.aload_n 1, 1, 0, 0, .null)) rfl (fun _ => rfl) l1_1 ?_
      refine q_lr (k := 1) (i := 2) (q := (.aload_n 2, 1, 0, 0, .null)) rfl (fun _ => rfl) l2_1 ?_
      obtain ⟨q38, h38, h⟩ := xbind h
      refine r_call (ix := 11) (as := []) (rest := [.ref 2, .ref 4]) (rv := some (.int q38.1)) (hp' := xW B q38.2) (pc := 38) rfl xr77 rfl rfl rfl (xkd H (by decide)) (Nat.le_of_ble_eq_true rfl) (Z77_11 H X h38 (by omega)) (Nat.le_refl _) ?_
      refine q_li (k := 2) (i := 4) (q := (.iload 4, 2, 0, 0, .null)) rfl (fun _ => rfl) l4_1 ?_
      obtain ⟨q43, h43, h⟩ := xbind h
      refine r_call (ix := 4) (as := [.ref 2, .int q38.1, .int q3.1]) (rest := []) (rv := none) (hp' := xW B q43.2) (pc := 43) rfl xr119 rfl rfl rfl (xkd H (by decide)) (Nat.le_of_ble_eq_true rfl) (Z119_4_2 H X h43 (by omega)) (Nat.le_refl _) ?_
      refine q_lr (k := 1) (i := 1) (q := (.aload_n 1, 1, 0, 0, .null)) rfl (fun _ => rfl) l1_1 ?_
      obtain ⟨q47, h47, h⟩ := xbind h
      refine r_call (ix := 2) (as := []) (rest := []) (rv := some (.int q47.1)) (hp' := xW B q47.2) (pc := 47) rfl xr51 rfl rfl rfl (xkd H (by decide)) (Nat.le_of_ble_eq_true rfl) (Z51_2 H X h47 (by omega)) (Nat.le_refl _) ?_
      refine r_if (len := 3) (a := 60) (b := 0) (v0 := .null) (cn := .eq) (off := 10) rfl (fun c => ?_) (fun c => ?_)
      · rw [if_pos c] at h
        obtain rfl := Option.some.inj h
        exact r_ret (q := (.return_, 1, 0, 0, .null)) rfl rfl (fun _ => rfl)
      · rw [if_neg (by rw [c]; decide)] at h
        refine q_lr (k := 1) (i := 0) (q := (.aload_n 0, 1, 0, 0, .null)) rfl (fun _ => rfl) l0_1 ?_
        refine q_lr (k := 1) (i := 2) (q := (.aload_n 2, 1, 0, 0, .null)) rfl (fun _ => rfl) l2_1 ?_
        refine q_li (k := 2) (i := 4) (q := (.iload 4, 2, 0, 0, .null)) rfl (fun _ => rfl) l4_1 ?_
        obtain ⟨q57, h57, h⟩ := xbind h
        refine r_call (ix := 4) (as := [.ref 11, .int q3.1]) (rest := []) (rv := none) (hp' := xW B q57.2) (pc := 57) rfl xr120 rfl rfl rfl (xkd H (by decide)) (Nat.le_of_ble_eq_true rfl) (Z120_4_11 H X h57 (by omega)) (Nat.le_refl _) ?_
        obtain rfl := Option.some.inj h
        exact r_ret (q := (.return_, 1, 0, 0, .null)) rfl rfl (fun _ => rfl)
    · rw [if_neg (by rw [c]; decide)] at h
      refine q_lr (k := 1) (i := 1) (q := (.aload_n 1, 1, 0, 0, .null)) rfl (fun _ => rfl) l1_1 ?_
      refine q_lr (k := 1) (i := 1) (q := (.aload_n 1, 1, 0, 0, .null)) rfl (fun _ => rfl) l1_1 ?_
      refine r_gi (v := (q19.2.1 2 3)) H (pc := 27) (i := _) rfl (by decide) (by decide) rfl ?_
      refine r_s (fr' := (31, lv1, [.int 4, .int (q19.2.1 2 3), .ref 2])) (hp' := xW B q19.2) (q := (.iconst 4, 1, 0, 0, .null)) rfl (fun _ => rfl) (Nat.le_refl _) ?_
      obtain ⟨q31, h31, h⟩ := xbind h
      refine r_call (ix := 2) (as := [.int (q19.2.1 2 3), .int 4]) (rest := []) (rv := none) (hp' := xW B q31.2) (pc := 31) rfl xr52 rfl rfl rfl (xkd H (by decide)) (Nat.le_of_ble_eq_true rfl) (Z52_2 H X h31 (by omega)) (Nat.le_refl _) ?_
      obtain rfl := Option.some.inj h
      exact r_ret (q := (.return_, 1, 0, 0, .null)) rfl rfl (fun _ => rfl)
  · rw [if_neg (by rw [c]; decide)] at h
    obtain rfl := Option.some.inj h
    exact r_ret (q := (.return_, 1, 0, 0, .null)) rfl rfl (fun _ => rfl)
set_option maxRecDepth 20000 in
theorem Z117_4_2_11 {B : zHp} (H : yH0 B) (X : yTx B) {F : Nat} {a3 : Int32} {m : xS} {x : Unit × xS} (h : D117_4_2_11 F a3 m = some x) {d : Nat} (hd : 8 ≤ d) : zCan d 117 [.ref 4, .ref 2, .ref 11, .int a3] (xW B m) (none, xW B x.2) := by
  obtain ⟨e, rfl⟩ : ∃ e, d = e + 1 := ⟨d - 1, by omega⟩
  refine zCan_body (nL := 5) (rt := none) (cd := zc117) (xg117) ⟨Nat.le_of_ble_eq_true rfl, by decide⟩ (Nat.le_refl _) ?_
  exact T117_4_2_11 H X hd F rfl rfl rfl rfl h
/-- LentTools$VillageReader.readInto -/
def D116_4_2_11_2 (F : Nat) : Nat → Int32 → xS → Option (Unit × xS)
  | 0, _, _ => none
  | f + 1, v3, m =>
    if zcmp .gt v3 40 = true then
      some ((), m)
    else
      (D117_4_2_11 F v3 m).bind fun q12 =>
        (D61_2 F q12.2).bind fun q16 =>
          if zcmp .ne q16.1 0 = true then
            D116_4_2_11_2 F f (v3 + Int32.ofInt 1) q16.2
          else
            some ((), q16.2)
set_option maxRecDepth 20000 in
theorem T116_4_2_11_2 {B : zHp} (H : yH0 B) (X : yTx B) {e : Nat} (he : 9 ≤ e + 1) (F : Nat) : ∀ (f : Nat) {v3 : Int32} {lv : List (Nat × Value)} {m : xS} {x : Unit × xS}, zld lv 0 = some (.ref 4) → zld lv 1 = some (.ref 2) → zld lv 2 = some (.ref 11) → zld lv 3 = some (.int v3) → D116_4_2_11_2 F f v3 m = some x → zR none e 4 none zc116 (2, lv, []) (xW B m) (none, xW B x.2) := by
  intro f
  induction f with
  | zero => intro v3 lv m x l0 l1 l2 l3 h; cases h
  | succ f ih =>
    intro v3 lv m x l0 l1 l2 l3 h
    unfold D116_4_2_11_2 at h
    refine q_li (k := 1) (i := 3) (q := (.iload_n 3, 1, 0, 0, .null)) rfl (fun _ => rfl) l3 ?_
    refine r_s (fr' := (5, lv, [.int 40, .int v3])) (hp' := xW B m) (q := (.bipush 40, 2, 0, 0, .null)) rfl (fun _ => rfl) (Nat.le_refl _) ?_
    refine r_ifc (len := 3) (a := 29) (b := 0) (v0 := .null) (cn := .gt) (off := 24) rfl (fun c => ?_) (fun c => ?_)
    · rw [if_pos c] at h
      obtain rfl := Option.some.inj h
      exact r_ret (q := (.return_, 1, 0, 0, .null)) rfl rfl (fun _ => rfl)
    · rw [if_neg (by rw [c]; decide)] at h
      refine q_lr (k := 1) (i := 0) (q := (.aload_n 0, 1, 0, 0, .null)) rfl (fun _ => rfl) l0 ?_
      refine q_lr (k := 1) (i := 1) (q := (.aload_n 1, 1, 0, 0, .null)) rfl (fun _ => rfl) l1 ?_
      refine q_lr (k := 1) (i := 2) (q := (.aload_n 2, 1, 0, 0, .null)) rfl (fun _ => rfl) l2 ?_
      refine q_li (k := 1) (i := 3) (q := (.iload_n 3, 1, 0, 0, .null)) rfl (fun _ => rfl) l3 ?_
      obtain ⟨q12, h12, h⟩ := xbind h
      refine r_call (ix := 4) (as := [.ref 2, .ref 11, .int v3]) (rest := []) (rv := none) (hp' := xW B q12.2) (pc := 12) rfl xr117 rfl rfl rfl (xkd H (by decide)) (Nat.le_of_ble_eq_true rfl) (Z117_4_2_11 H X h12 (by omega)) (Nat.le_refl _) ?_
      refine q_lr (k := 1) (i := 1) (q := (.aload_n 1, 1, 0, 0, .null)) rfl (fun _ => rfl) l1 ?_
      obtain ⟨q16, h16, h⟩ := xbind h
      refine r_call (ix := 2) (as := []) (rest := []) (rv := some (.int q16.1)) (hp' := xW B q16.2) (pc := 16) rfl xr61 rfl rfl rfl (xkd H (by decide)) (Nat.le_of_ble_eq_true rfl) (Z61_2 H X h16 (by omega)) (Nat.le_refl _) ?_
      refine r_if (len := 3) (a := 23) (b := 0) (v0 := .null) (cn := .ne) (off := 4) rfl (fun c => ?_) (fun c => ?_)
      · rw [if_pos c] at h
        refine q_inc (i := 3) (n := 1) (q := (.iinc 3 1, 3, 0, 0, .null)) rfl (fun _ => rfl) l3 (by decide) ?_
        have l0_1 : zld (zs1 lv 3 (.int (v3 + Int32.ofInt 1))) 0 = some (.ref 4) := x_o1 l0 rfl rfl
        have l1_1 : zld (zs1 lv 3 (.int (v3 + Int32.ofInt 1))) 1 = some (.ref 2) := x_o1 l1 rfl rfl
        have l2_1 : zld (zs1 lv 3 (.int (v3 + Int32.ofInt 1))) 2 = some (.ref 11) := x_o1 l2 rfl rfl
        have l3_1 : zld (zs1 lv 3 (.int (v3 + Int32.ofInt 1))) 3 = some (.int (v3 + Int32.ofInt 1)) := zs1_ld _ _ _
        generalize (zs1 lv 3 (.int (v3 + Int32.ofInt 1))) = lv1 at *
        refine r_s (fr' := (2, lv1, [])) (hp' := xW B q16.2) (q := (.goto (-24), 3, 2, 0, .null)) rfl (fun _ => rfl) (Nat.le_refl _) ?_
        exact ih l0_1 l1_1 l2_1 l3_1 h
      · rw [if_neg (by rw [c]; decide)] at h
        obtain rfl := Option.some.inj h
        exact r_ret (q := (.return_, 1, 0, 0, .null)) rfl rfl (fun _ => rfl)
def D116_4_2_11 (F : Nat) (m : xS) : Option (Unit × xS) :=
  D116_4_2_11_2 F F 0 m
set_option maxRecDepth 20000 in
theorem T116_4_2_11 {B : zHp} (H : yH0 B) (X : yTx B) {e : Nat} (he : 9 ≤ e + 1) (F : Nat) {lv : List (Nat × Value)} {m : xS} {x : Unit × xS} (l0 : zld lv 0 = some (.ref 4)) (l1 : zld lv 1 = some (.ref 2)) (l2 : zld lv 2 = some (.ref 11)) (h : D116_4_2_11 F m = some x) : zR none e 4 none zc116 (0, lv, []) (xW B m) (none, xW B x.2) := by
  unfold D116_4_2_11 at h
  refine r_s (fr' := (1, lv, [.int 0])) (hp' := xW B m) (q := (.iconst 0, 1, 0, 0, .null)) rfl (fun _ => rfl) (Nat.le_refl _) ?_
  refine q_si (k := 1) (i := 3) (q := (.istore_n 3, 1, 0, 0, .null)) rfl (fun _ => rfl) (by decide) ?_
  have l0_1 : zld (zs1 lv 3 (.int 0)) 0 = some (.ref 4) := x_o1 l0 rfl rfl
  have l1_1 : zld (zs1 lv 3 (.int 0)) 1 = some (.ref 2) := x_o1 l1 rfl rfl
  have l2_1 : zld (zs1 lv 3 (.int 0)) 2 = some (.ref 11) := x_o1 l2 rfl rfl
  have l3_1 : zld (zs1 lv 3 (.int 0)) 3 = some (.int 0) := zs1_ld _ _ _
  generalize (zs1 lv 3 (.int 0)) = lv1 at *
  exact T116_4_2_11_2 H X he F F l0_1 l1_1 l2_1 l3_1 h
set_option maxRecDepth 20000 in
theorem Z116_4_2_11 {B : zHp} (H : yH0 B) (X : yTx B) {F : Nat} {m : xS} {x : Unit × xS} (h : D116_4_2_11 F m = some x) {d : Nat} (hd : 9 ≤ d) : zCan d 116 [.ref 4, .ref 2, .ref 11] (xW B m) (none, xW B x.2) := by
  obtain ⟨e, rfl⟩ : ∃ e, d = e + 1 := ⟨d - 1, by omega⟩
  refine zCan_body (nL := 4) (rt := none) (cd := zc116) (xg116) ⟨Nat.le_of_ble_eq_true rfl, by decide⟩ (Nat.le_refl _) ?_
  exact T116_4_2_11 H X hd F rfl rfl rfl h
end
section
/-! The class's text and reader of rules: what their cells hold. -/
theorem xu_row {m : xS} {i j a : Nat} {v : Int32} (h : a ≠ i) : (xu m i j v).1 a = m.1 a := funext fun _ => xu_o (fun z => h z.1)
abbrev kM : yM := [(2, 2, 2), (2, 2, 3), (2, 2, 4), (6, 6, 1), (6, 6, 3), (6, 6, 4), (6, 6, 5), (6, 6, 6), (6, 6, 7), (6, 6, 8), (6, 6, 9), (7, 7, 1000), (8, 8, 1000)]
/-- what is given: a text b of n bytes -/
def kN (m0 : xS) (b : Nat → Int) (n : Nat) : Prop := (m0.1 2 1).toInt = (n : Int) ∧ n ≤ 400 ∧ ∀ j, j < n → (m0.1 1 j).toInt = b j
def kC (m0 : xS) (n p bg : Nat) (ft : Int) (out wait : List Int) (cl k dp br ex wh : Int) (m : xS) : Prop :=
  xT m ∧ xfr kM m0 m ∧ ((m.1 2 2).toInt = (p : Int) ∧ p ≤ n) ∧ (m.1 2 3).toInt = (bg : Int) ∧ (m.1 2 4).toInt = ft ∧ ((m.1 6 1).toInt = (out.length : Int) ∧ tk (m.1 7) out.length = out) ∧ ((m.1 6 3).toInt = (wait.length : Int) ∧ tk (m.1 8) wait.length = wait) ∧ (m.1 6 4).toInt = cl ∧ (m.1 6 5).toInt = k ∧ (m.1 6 6).toInt = dp ∧ (m.1 6 7).toInt = br ∧ (m.1 6 8).toInt = ex ∧ (m.1 6 9).toInt = wh
section KC
variable {m0 m : xS} {b : Nat → Int} {n p bg : Nat} {ft : Int} {out wait : List Int} {cl k dp br ex wh : Int} {F : Nat}
theorem kC_p {v : Int32} {x : Nat} (h : kC m0 n p bg ft out wait cl k dp br ex wh m) (e : v.toInt = (x : Int)) (hn : n ≤ 400) (l : x ≤ n) : kC m0 n x bg ft out wait cl k dp br ex wh (xu m 2 2 v) := by
  obtain ⟨h1, h2, h3, h4, h5, h6, h7, h8, h9, h10, h11, h12, h13⟩ := h
  refine ⟨xT_c h1 (i := 2) (j := 2) rfl (by omega) (by omega), xfr_t h2 (xfr_u rfl), ?_⟩
  exact ⟨⟨(congrArg Int32.toInt (xu_s _ _ _ _)).trans e, l⟩, (congrArg Int32.toInt (xu_o (by decide))).trans h4, (congrArg Int32.toInt (xu_o (by decide))).trans h5, ⟨(congrArg Int32.toInt (xu_o (by decide))).trans h6.1, (congrArg (fun g => tk g _) (xu_row (by decide))).trans h6.2⟩, ⟨(congrArg Int32.toInt (xu_o (by decide))).trans h7.1, (congrArg (fun g => tk g _) (xu_row (by decide))).trans h7.2⟩, (congrArg Int32.toInt (xu_o (by decide))).trans h8, (congrArg Int32.toInt (xu_o (by decide))).trans h9, (congrArg Int32.toInt (xu_o (by decide))).trans h10, (congrArg Int32.toInt (xu_o (by decide))).trans h11, (congrArg Int32.toInt (xu_o (by decide))).trans h12, (congrArg Int32.toInt (xu_o (by decide))).trans h13⟩
theorem kC_bg {v : Int32} {x : Nat} (h : kC m0 n p bg ft out wait cl k dp br ex wh m) (e : v.toInt = (x : Int)) (l : x ≤ 400) : kC m0 n p x ft out wait cl k dp br ex wh (xu m 2 3 v) := by
  obtain ⟨h1, h2, h3, h4, h5, h6, h7, h8, h9, h10, h11, h12, h13⟩ := h
  refine ⟨xT_c h1 (i := 2) (j := 3) rfl (by omega) (by omega), xfr_t h2 (xfr_u rfl), ?_⟩
  exact ⟨⟨(congrArg Int32.toInt (xu_o (by decide))).trans h3.1, h3.2⟩, (congrArg Int32.toInt (xu_s _ _ _ _)).trans e, (congrArg Int32.toInt (xu_o (by decide))).trans h5, ⟨(congrArg Int32.toInt (xu_o (by decide))).trans h6.1, (congrArg (fun g => tk g _) (xu_row (by decide))).trans h6.2⟩, ⟨(congrArg Int32.toInt (xu_o (by decide))).trans h7.1, (congrArg (fun g => tk g _) (xu_row (by decide))).trans h7.2⟩, (congrArg Int32.toInt (xu_o (by decide))).trans h8, (congrArg Int32.toInt (xu_o (by decide))).trans h9, (congrArg Int32.toInt (xu_o (by decide))).trans h10, (congrArg Int32.toInt (xu_o (by decide))).trans h11, (congrArg Int32.toInt (xu_o (by decide))).trans h12, (congrArg Int32.toInt (xu_o (by decide))).trans h13⟩
theorem kC_ft {v : Int32} {x : Int} (h : kC m0 n p bg ft out wait cl k dp br ex wh m) (e : v.toInt = (x : Int)) (l1 : 0 ≤ x) (l2 : x ≤ 4000) : kC m0 n p bg x out wait cl k dp br ex wh (xu m 2 4 v) := by
  obtain ⟨h1, h2, h3, h4, h5, h6, h7, h8, h9, h10, h11, h12, h13⟩ := h
  refine ⟨xT_c h1 (i := 2) (j := 4) rfl (by omega) (by omega), xfr_t h2 (xfr_u rfl), ?_⟩
  exact ⟨⟨(congrArg Int32.toInt (xu_o (by decide))).trans h3.1, h3.2⟩, (congrArg Int32.toInt (xu_o (by decide))).trans h4, (congrArg Int32.toInt (xu_s _ _ _ _)).trans e, ⟨(congrArg Int32.toInt (xu_o (by decide))).trans h6.1, (congrArg (fun g => tk g _) (xu_row (by decide))).trans h6.2⟩, ⟨(congrArg Int32.toInt (xu_o (by decide))).trans h7.1, (congrArg (fun g => tk g _) (xu_row (by decide))).trans h7.2⟩, (congrArg Int32.toInt (xu_o (by decide))).trans h8, (congrArg Int32.toInt (xu_o (by decide))).trans h9, (congrArg Int32.toInt (xu_o (by decide))).trans h10, (congrArg Int32.toInt (xu_o (by decide))).trans h11, (congrArg Int32.toInt (xu_o (by decide))).trans h12, (congrArg Int32.toInt (xu_o (by decide))).trans h13⟩
theorem kC_cl {v : Int32} {x : Int} (h : kC m0 n p bg ft out wait cl k dp br ex wh m) (e : v.toInt = (x : Int)) : kC m0 n p bg ft out wait x k dp br ex wh (xu m 6 4 v) := by
  obtain ⟨h1, h2, h3, h4, h5, h6, h7, h8, h9, h10, h11, h12, h13⟩ := h
  refine ⟨xT_c h1 (i := 6) (j := 4) rfl (y32 v).1 (by have := (y32 v).2; omega), xfr_t h2 (xfr_u rfl), ?_⟩
  exact ⟨⟨(congrArg Int32.toInt (xu_o (by decide))).trans h3.1, h3.2⟩, (congrArg Int32.toInt (xu_o (by decide))).trans h4, (congrArg Int32.toInt (xu_o (by decide))).trans h5, ⟨(congrArg Int32.toInt (xu_o (by decide))).trans h6.1, (congrArg (fun g => tk g _) (xu_row (by decide))).trans h6.2⟩, ⟨(congrArg Int32.toInt (xu_o (by decide))).trans h7.1, (congrArg (fun g => tk g _) (xu_row (by decide))).trans h7.2⟩, (congrArg Int32.toInt (xu_s _ _ _ _)).trans e, (congrArg Int32.toInt (xu_o (by decide))).trans h9, (congrArg Int32.toInt (xu_o (by decide))).trans h10, (congrArg Int32.toInt (xu_o (by decide))).trans h11, (congrArg Int32.toInt (xu_o (by decide))).trans h12, (congrArg Int32.toInt (xu_o (by decide))).trans h13⟩
theorem kC_k {v : Int32} {x : Int} (h : kC m0 n p bg ft out wait cl k dp br ex wh m) (e : v.toInt = (x : Int)) : kC m0 n p bg ft out wait cl x dp br ex wh (xu m 6 5 v) := by
  obtain ⟨h1, h2, h3, h4, h5, h6, h7, h8, h9, h10, h11, h12, h13⟩ := h
  refine ⟨xT_c h1 (i := 6) (j := 5) rfl (y32 v).1 (by have := (y32 v).2; omega), xfr_t h2 (xfr_u rfl), ?_⟩
  exact ⟨⟨(congrArg Int32.toInt (xu_o (by decide))).trans h3.1, h3.2⟩, (congrArg Int32.toInt (xu_o (by decide))).trans h4, (congrArg Int32.toInt (xu_o (by decide))).trans h5, ⟨(congrArg Int32.toInt (xu_o (by decide))).trans h6.1, (congrArg (fun g => tk g _) (xu_row (by decide))).trans h6.2⟩, ⟨(congrArg Int32.toInt (xu_o (by decide))).trans h7.1, (congrArg (fun g => tk g _) (xu_row (by decide))).trans h7.2⟩, (congrArg Int32.toInt (xu_o (by decide))).trans h8, (congrArg Int32.toInt (xu_s _ _ _ _)).trans e, (congrArg Int32.toInt (xu_o (by decide))).trans h10, (congrArg Int32.toInt (xu_o (by decide))).trans h11, (congrArg Int32.toInt (xu_o (by decide))).trans h12, (congrArg Int32.toInt (xu_o (by decide))).trans h13⟩
theorem kC_dp {v : Int32} {x : Int} (h : kC m0 n p bg ft out wait cl k dp br ex wh m) (e : v.toInt = (x : Int)) : kC m0 n p bg ft out wait cl k x br ex wh (xu m 6 6 v) := by
  obtain ⟨h1, h2, h3, h4, h5, h6, h7, h8, h9, h10, h11, h12, h13⟩ := h
  refine ⟨xT_c h1 (i := 6) (j := 6) rfl (y32 v).1 (by have := (y32 v).2; omega), xfr_t h2 (xfr_u rfl), ?_⟩
  exact ⟨⟨(congrArg Int32.toInt (xu_o (by decide))).trans h3.1, h3.2⟩, (congrArg Int32.toInt (xu_o (by decide))).trans h4, (congrArg Int32.toInt (xu_o (by decide))).trans h5, ⟨(congrArg Int32.toInt (xu_o (by decide))).trans h6.1, (congrArg (fun g => tk g _) (xu_row (by decide))).trans h6.2⟩, ⟨(congrArg Int32.toInt (xu_o (by decide))).trans h7.1, (congrArg (fun g => tk g _) (xu_row (by decide))).trans h7.2⟩, (congrArg Int32.toInt (xu_o (by decide))).trans h8, (congrArg Int32.toInt (xu_o (by decide))).trans h9, (congrArg Int32.toInt (xu_s _ _ _ _)).trans e, (congrArg Int32.toInt (xu_o (by decide))).trans h11, (congrArg Int32.toInt (xu_o (by decide))).trans h12, (congrArg Int32.toInt (xu_o (by decide))).trans h13⟩
theorem kC_br {v : Int32} {x : Int} (h : kC m0 n p bg ft out wait cl k dp br ex wh m) (e : v.toInt = (x : Int)) : kC m0 n p bg ft out wait cl k dp x ex wh (xu m 6 7 v) := by
  obtain ⟨h1, h2, h3, h4, h5, h6, h7, h8, h9, h10, h11, h12, h13⟩ := h
  refine ⟨xT_c h1 (i := 6) (j := 7) rfl (y32 v).1 (by have := (y32 v).2; omega), xfr_t h2 (xfr_u rfl), ?_⟩
  exact ⟨⟨(congrArg Int32.toInt (xu_o (by decide))).trans h3.1, h3.2⟩, (congrArg Int32.toInt (xu_o (by decide))).trans h4, (congrArg Int32.toInt (xu_o (by decide))).trans h5, ⟨(congrArg Int32.toInt (xu_o (by decide))).trans h6.1, (congrArg (fun g => tk g _) (xu_row (by decide))).trans h6.2⟩, ⟨(congrArg Int32.toInt (xu_o (by decide))).trans h7.1, (congrArg (fun g => tk g _) (xu_row (by decide))).trans h7.2⟩, (congrArg Int32.toInt (xu_o (by decide))).trans h8, (congrArg Int32.toInt (xu_o (by decide))).trans h9, (congrArg Int32.toInt (xu_o (by decide))).trans h10, (congrArg Int32.toInt (xu_s _ _ _ _)).trans e, (congrArg Int32.toInt (xu_o (by decide))).trans h12, (congrArg Int32.toInt (xu_o (by decide))).trans h13⟩
theorem kC_ex {v : Int32} {x : Int} (h : kC m0 n p bg ft out wait cl k dp br ex wh m) (e : v.toInt = (x : Int)) : kC m0 n p bg ft out wait cl k dp br x wh (xu m 6 8 v) := by
  obtain ⟨h1, h2, h3, h4, h5, h6, h7, h8, h9, h10, h11, h12, h13⟩ := h
  refine ⟨xT_c h1 (i := 6) (j := 8) rfl (y32 v).1 (by have := (y32 v).2; omega), xfr_t h2 (xfr_u rfl), ?_⟩
  exact ⟨⟨(congrArg Int32.toInt (xu_o (by decide))).trans h3.1, h3.2⟩, (congrArg Int32.toInt (xu_o (by decide))).trans h4, (congrArg Int32.toInt (xu_o (by decide))).trans h5, ⟨(congrArg Int32.toInt (xu_o (by decide))).trans h6.1, (congrArg (fun g => tk g _) (xu_row (by decide))).trans h6.2⟩, ⟨(congrArg Int32.toInt (xu_o (by decide))).trans h7.1, (congrArg (fun g => tk g _) (xu_row (by decide))).trans h7.2⟩, (congrArg Int32.toInt (xu_o (by decide))).trans h8, (congrArg Int32.toInt (xu_o (by decide))).trans h9, (congrArg Int32.toInt (xu_o (by decide))).trans h10, (congrArg Int32.toInt (xu_o (by decide))).trans h11, (congrArg Int32.toInt (xu_s _ _ _ _)).trans e, (congrArg Int32.toInt (xu_o (by decide))).trans h13⟩
theorem kC_wh {v : Int32} {x : Int} (h : kC m0 n p bg ft out wait cl k dp br ex wh m) (e : v.toInt = (x : Int)) : kC m0 n p bg ft out wait cl k dp br ex x (xu m 6 9 v) := by
  obtain ⟨h1, h2, h3, h4, h5, h6, h7, h8, h9, h10, h11, h12, h13⟩ := h
  refine ⟨xT_c h1 (i := 6) (j := 9) rfl (y32 v).1 (by have := (y32 v).2; omega), xfr_t h2 (xfr_u rfl), ?_⟩
  exact ⟨⟨(congrArg Int32.toInt (xu_o (by decide))).trans h3.1, h3.2⟩, (congrArg Int32.toInt (xu_o (by decide))).trans h4, (congrArg Int32.toInt (xu_o (by decide))).trans h5, ⟨(congrArg Int32.toInt (xu_o (by decide))).trans h6.1, (congrArg (fun g => tk g _) (xu_row (by decide))).trans h6.2⟩, ⟨(congrArg Int32.toInt (xu_o (by decide))).trans h7.1, (congrArg (fun g => tk g _) (xu_row (by decide))).trans h7.2⟩, (congrArg Int32.toInt (xu_o (by decide))).trans h8, (congrArg Int32.toInt (xu_o (by decide))).trans h9, (congrArg Int32.toInt (xu_o (by decide))).trans h10, (congrArg Int32.toInt (xu_o (by decide))).trans h11, (congrArg Int32.toInt (xu_o (by decide))).trans h12, (congrArg Int32.toInt (xu_s _ _ _ _)).trans e⟩
theorem kC_out {v u : Int32} (h : kC m0 n p bg ft out wait cl k dp br ex wh m) (l : out.length < 400) (e : u.toInt = out.length + 1) : kC m0 n p bg ft (v.toInt :: out) wait cl k dp br ex wh (xu (xu m 7 out.length v) 6 1 u) := by
  obtain ⟨h1, h2, h3, h4, h5, h6, h7, h8, h9, h10, h11, h12, h13⟩ := h
  have b0 : xbn 7 out.length = some (-2147483648, 2147483647) := xbn_a (k := 0) (n := 400) (ec := 0) (by decide) rfl (by decide) l
  refine ⟨xT_c (xT_c h1 b0 (y32 v).1 (by have := (y32 v).2; omega)) (i := 6) (j := 1) rfl (by omega) (by omega), xfr_t h2 (xfr_t (xfr_u (by unfold yinM; rfl)) (xfr_u rfl)), ?_⟩
  refine ⟨⟨(congrArg Int32.toInt ((xu_o (by decide)).trans (xu_o (fun z => absurd z.1 (by decide))))).trans h3.1, h3.2⟩, (congrArg Int32.toInt ((xu_o (by decide)).trans (xu_o (fun z => absurd z.1 (by decide))))).trans h4, (congrArg Int32.toInt ((xu_o (by decide)).trans (xu_o (fun z => absurd z.1 (by decide))))).trans h5, ⟨(congrArg Int32.toInt (xu_s _ _ _ _)).trans (e.trans (by rw [List.length_cons]; omega)), ?_⟩, ⟨(congrArg Int32.toInt ((xu_o (by decide)).trans (xu_o (fun z => absurd z.1 (by decide))))).trans h7.1, (congrArg (fun g => tk g _) ((xu_row (by decide)).trans (xu_row (by decide)))).trans h7.2⟩, (congrArg Int32.toInt ((xu_o (by decide)).trans (xu_o (fun z => absurd z.1 (by decide))))).trans h8, (congrArg Int32.toInt ((xu_o (by decide)).trans (xu_o (fun z => absurd z.1 (by decide))))).trans h9, (congrArg Int32.toInt ((xu_o (by decide)).trans (xu_o (fun z => absurd z.1 (by decide))))).trans h10, (congrArg Int32.toInt ((xu_o (by decide)).trans (xu_o (fun z => absurd z.1 (by decide))))).trans h11, (congrArg Int32.toInt ((xu_o (by decide)).trans (xu_o (fun z => absurd z.1 (by decide))))).trans h12, (congrArg Int32.toInt ((xu_o (by decide)).trans (xu_o (fun z => absurd z.1 (by decide))))).trans h13⟩
  rw [xu_row (by decide)]
  show ((xu m 7 out.length v).1 7 out.length).toInt :: tk _ out.length = _
  rw [xu_s, tk_c (g := m.1 7) _ (fun j hj => xu_o (fun z => by omega)), h6.2]
theorem kC_wait {v u : Int32} (h : kC m0 n p bg ft out wait cl k dp br ex wh m) (l : wait.length < 400) (e : u.toInt = wait.length + 1) : kC m0 n p bg ft out (v.toInt :: wait) cl k dp br ex wh (xu (xu m 8 wait.length v) 6 3 u) := by
  obtain ⟨h1, h2, h3, h4, h5, h6, h7, h8, h9, h10, h11, h12, h13⟩ := h
  have b0 : xbn 8 wait.length = some (-2147483648, 2147483647) := xbn_a (k := 0) (n := 400) (ec := 0) (by decide) rfl (by decide) l
  refine ⟨xT_c (xT_c h1 b0 (y32 v).1 (by have := (y32 v).2; omega)) (i := 6) (j := 3) rfl (by omega) (by omega), xfr_t h2 (xfr_t (xfr_u (by unfold yinM; rfl)) (xfr_u rfl)), ?_⟩
  refine ⟨⟨(congrArg Int32.toInt ((xu_o (by decide)).trans (xu_o (fun z => absurd z.1 (by decide))))).trans h3.1, h3.2⟩, (congrArg Int32.toInt ((xu_o (by decide)).trans (xu_o (fun z => absurd z.1 (by decide))))).trans h4, (congrArg Int32.toInt ((xu_o (by decide)).trans (xu_o (fun z => absurd z.1 (by decide))))).trans h5, ⟨(congrArg Int32.toInt ((xu_o (by decide)).trans (xu_o (fun z => absurd z.1 (by decide))))).trans h6.1, (congrArg (fun g => tk g _) ((xu_row (by decide)).trans (xu_row (by decide)))).trans h6.2⟩, ⟨(congrArg Int32.toInt (xu_s _ _ _ _)).trans (e.trans (by rw [List.length_cons]; omega)), ?_⟩, (congrArg Int32.toInt ((xu_o (by decide)).trans (xu_o (fun z => absurd z.1 (by decide))))).trans h8, (congrArg Int32.toInt ((xu_o (by decide)).trans (xu_o (fun z => absurd z.1 (by decide))))).trans h9, (congrArg Int32.toInt ((xu_o (by decide)).trans (xu_o (fun z => absurd z.1 (by decide))))).trans h10, (congrArg Int32.toInt ((xu_o (by decide)).trans (xu_o (fun z => absurd z.1 (by decide))))).trans h11, (congrArg Int32.toInt ((xu_o (by decide)).trans (xu_o (fun z => absurd z.1 (by decide))))).trans h12, (congrArg Int32.toInt ((xu_o (by decide)).trans (xu_o (fun z => absurd z.1 (by decide))))).trans h13⟩
  rw [xu_row (by decide)]
  show ((xu m 8 wait.length v).1 8 wait.length).toInt :: tk _ wait.length = _
  rw [xu_s, tk_c (g := m.1 8) _ (fun j hj => xu_o (fun z => by omega)), h7.2]
theorem kC_pop {v : Int32} {w0 : Int} {ws : List Int} (h : kC m0 n p bg ft out (w0 :: ws) cl k dp br ex wh m) (e : v.toInt = (ws.length : Int)) : kC m0 n p bg ft out ws cl k dp br ex wh (xu m 6 3 v) ∧ (m.1 8 ws.length).toInt = w0 := by
  obtain ⟨h1, h2, h3, h4, h5, h6, h7, h8, h9, h10, h11, h12, h13⟩ := h
  have b2 := h1 6 3 (0, 400) rfl
  have b3 : (m.1 6 3).toInt ≤ 400 := b2.2
  have e7 : (m.1 6 3).toInt = (ws.length : Int) + 1 := h7.1.trans (by rw [List.length_cons]; omega)
  have t7 : (m.1 8 ws.length).toInt :: tk (m.1 8) ws.length = w0 :: ws := h7.2
  obtain ⟨t8, t9⟩ := List.cons.inj t7
  refine ⟨⟨xT_c h1 (i := 6) (j := 3) rfl (by omega) (by omega), xfr_t h2 (xfr_u rfl), ?_⟩, t8⟩
  exact ⟨⟨(congrArg Int32.toInt (xu_o (by decide))).trans h3.1, h3.2⟩, (congrArg Int32.toInt (xu_o (by decide))).trans h4, (congrArg Int32.toInt (xu_o (by decide))).trans h5, ⟨(congrArg Int32.toInt (xu_o (by decide))).trans h6.1, (congrArg (fun g => tk g _) (xu_row (by decide))).trans h6.2⟩, ⟨(congrArg Int32.toInt (xu_s _ _ _ _)).trans e, (congrArg (fun g => tk g _) (xu_row (by decide))).trans t9⟩, (congrArg Int32.toInt (xu_o (by decide))).trans h8, (congrArg Int32.toInt (xu_o (by decide))).trans h9, (congrArg Int32.toInt (xu_o (by decide))).trans h10, (congrArg Int32.toInt (xu_o (by decide))).trans h11, (congrArg Int32.toInt (xu_o (by decide))).trans h12, (congrArg Int32.toInt (xu_o (by decide))).trans h13⟩
theorem kC_n (N : kN m0 b n) (h : kC m0 n p bg ft out wait cl k dp br ex wh m) : (m.1 2 1).toInt = (n : Int) ∧ ∀ j, j < n → (m.1 1 j).toInt = b j := by
  have f := h.2.1
  refine ⟨(congrArg Int32.toInt (f.2 2 1 rfl)).trans N.1, fun j hj => (congrArg Int32.toInt (f.2 1 j ?_)).trans (N.2.2 j hj)⟩
  unfold yinM
  rfl
end KC
end
section
/-! The class's text: what its methods come to. -/
def tsg (b : Nat → Int) (n p : Nat) : Int := if p < n then b p else -1
/-- the first fault stays -/
def trf (ft x : Int) : Int := if ft = 0 then x else ft
section KT
variable {m0 m : xS} {b : Nat → Int} {n p bg : Nat} {ft : Int} {out wait : List Int} {cl k dp br ex wh : Int} {F : Nat}
theorem kC_i (h : kC m0 n p bg ft out wait cl k dp br ex wh m) : (m.1 2 2).toNatClampNeg = p := by
  have := h.2.2.1.1
  show (m.1 2 2).toInt.toNat = p
  omega
theorem kft {a c : Int32} (a1 : 0 ≤ a.toInt) (a2 : a.toInt ≤ 400) (c1 : 0 ≤ c.toInt) (c2 : c.toInt ≤ 4) : ((1 + (8 * a)) + c).toInt = 1 + 8 * a.toInt + c.toInt := by
  have e1 : (8 * a).toInt = 8 * a.toInt := xm1 (by show _ ≤ (8 : Int) * _; omega) (by show (8 : Int) * _ ≤ _; omega)
  have e2 : (1 + 8 * a).toInt = 1 + 8 * a.toInt := (xa1 (by show _ ≤ (1 : Int) + _; omega) (by show (1 : Int) + _ ≤ _; omega)).trans (by rw [e1]; rfl)
  exact (xa1 (by omega) (by omega)).trans (by rw [e2])
/-- refuse -/
theorem P52 {a c : Int32} (h : kC m0 n p bg ft out wait cl k dp br ex wh m) (a1 : 0 ≤ a.toInt) (a2 : a.toInt ≤ 400) (c1 : 0 ≤ c.toInt) (c2 : c.toInt ≤ 4) : xP (D52_2 F a c m) (fun _ m' => kC m0 n p bg (trf ft (1 + 8 * a.toInt + c.toInt)) out wait cl k dp br ex wh m') := by
  have h5 := h.2.2.2.2.1
  unfold D52_2 trf
  refine xP_i (fun q => xP_r ?_) (fun q => xP_r ?_)
  · have q : (m.1 2 4).toInt ≠ 0 := zt q
    rw [if_neg (by omega)]
    exact h
  · have q : (m.1 2 4).toInt = 0 := Decidable.not_not.mp (zf q)
    rw [if_pos (by omega)]
    exact kC_ft h (kft a1 a2 c1 c2) (by omega) (by omega)
/-- pass -/
theorem P54 (N : kN m0 b n) (h : kC m0 n p bg ft out wait cl k dp br ex wh m) (l : p < n) : xP (D54_2 F m) (fun _ m' => kC m0 n (p + 1) bg ft out wait cl k dp br ex wh m') := by
  have h3 := h.2.2.1.1
  have n4 := N.2.1
  unfold D54_2
  exact xP_r (kC_p h ((xa1 (by show _ ≤ _ + (1 : Int); omega) (by show _ + (1 : Int) ≤ _; omega)).trans (by rw [h3]; rfl)) N.2.1 l)
/-- sign -/
theorem P53_38 (N : kN m0 b n) (h : kC m0 n p bg ft out wait cl k dp br ex wh m) : xP (D53_2_38 F m) (fun v m' => m' = m ∧ v.toInt = tsg b n p) := by
  obtain ⟨k1, k2⟩ := kC_n N h
  have h3 := h.2.2.1
  have n4 := N.2.1
  unfold D53_2_38 tsg
  refine xP_i (fun c => xP_r ⟨rfl, ?_⟩) (fun c => xP_g ?_ (xP_r ⟨rfl, ?_⟩))
  · have c : (m.1 2 1).toInt ≤ (m.1 2 2).toInt := zt c
    rw [if_neg (by omega)]
    rfl
  · have c : ¬ (m.1 2 1).toInt ≤ (m.1 2 2).toInt := zf c
    exact xib_t (by omega) (by omega)
  · have c : ¬ (m.1 2 1).toInt ≤ (m.1 2 2).toInt := zf c
    rw [kC_i h, if_pos (by omega)]
    exact k2 p (by omega)
theorem P53_0 (N : kN m0 b n) : ∀ (f : Nat) {p : Nat} {m : xS}, kC m0 n p bg ft out wait cl k dp br ex wh m → n - p < f → xP (D53_2_0 F f m) (fun v m' => kC m0 n (tS tbl b n p) bg ft out wait cl k dp br ex wh m' ∧ v.toInt = tsg b n (tS tbl b n p)) := by
  intro f
  induction f with
  | zero => intro p m _ l; omega
  | succ f ih =>
    intro p m h l
    obtain ⟨k1, k2⟩ := kC_n N h
    have h3 := h.2.2.1
    have n4 := N.2.1
    unfold D53_2_0
    refine xP_i (fun c => ?_) (fun c => ?_)
    · have c : (m.1 2 1).toInt ≤ (m.1 2 2).toInt := zt c
      rw [tS_f (fun z => by omega)]
      exact xP_m (P53_38 N h) (fun v m' q => by obtain ⟨rfl, q⟩ := q; exact ⟨h, q⟩)
    · have c : ¬ (m.1 2 1).toInt ≤ (m.1 2 2).toInt := zf c
      refine xP_g (xib_t (by omega) (by omega)) (xP_i (fun d => ?_) (fun d => ?_))
      · rw [kC_i h] at d
        have d : (m.1 1 p).toInt ≠ 32 := zt d
        rw [k2 p (by omega)] at d
        rw [tS_f (P := tbl) (b := b) (n := n) (p := p) (fun z => d (eq_of_beq (show (b p == 32) = true from z.2)))]
        exact xP_m (P53_38 N h) (fun v m' q => by obtain ⟨rfl, q⟩ := q; exact ⟨h, q⟩)
      · rw [kC_i h] at d
        have d : (m.1 1 p).toInt = 32 := Decidable.not_not.mp (zf d)
        rw [k2 p (by omega)] at d
        rw [tS_t (P := tbl) (show p < n by omega) (by unfold tbl; rw [d]; rfl)]
        exact ih (kC_p h ((xa1 (by show _ ≤ _ + (1 : Int); omega) (by show _ + (1 : Int) ≤ _; omega)).trans (by rw [h3.1]; rfl)) N.2.1 (by omega)) (by omega)
theorem P53 (hF : 500 ≤ F) (N : kN m0 b n) (h : kC m0 n p bg ft out wait cl k dp br ex wh m) : xP (D53_2 F m) (fun v m' => kC m0 n (tS tbl b n p) bg ft out wait cl k dp br ex wh m' ∧ v.toInt = tsg b n (tS tbl b n p)) := P53_0 N F h (by have := N.2.1; omega)
/-- isDigit, isLetter -/
theorem P56 {v : Int32} : xP (D56 F v m) (fun r m' => m' = m ∧ ((r = 1 ∧ tdg v.toInt = true) ∨ (r = 0 ∧ tdg v.toInt = false))) := by
  unfold D56 D56_16 tdg
  refine xP_i (fun c => xP_r ⟨rfl, Or.inr ⟨rfl, ?_⟩⟩) (fun c => xP_i (fun d => xP_r ⟨rfl, Or.inr ⟨rfl, ?_⟩⟩) (fun d => xP_r ⟨rfl, Or.inl ⟨rfl, ?_⟩⟩))
  · have c : v.toInt < 48 := zt c
    rw [decide_eq_false (by omega)]
    rfl
  · have d : (57 : Int) < v.toInt := zt d
    rw [decide_eq_false (p := v.toInt ≤ 57) (by omega), Bool.and_false]
  · have c : ¬ v.toInt < 48 := zf c
    have d : ¬ (57 : Int) < v.toInt := zf d
    rw [decide_eq_true (by omega), decide_eq_true (by omega)]
    rfl
theorem P57 {v : Int32} : xP (D57 F v m) (fun r m' => m' = m ∧ ((r = 1 ∧ tlt v.toInt = true) ∨ (r = 0 ∧ tlt v.toInt = false))) := by
  unfold D57 D57_16 tlt
  refine xP_i (fun c => xP_r ⟨rfl, Or.inr ⟨rfl, ?_⟩⟩) (fun c => xP_i (fun d => xP_r ⟨rfl, Or.inr ⟨rfl, ?_⟩⟩) (fun d => xP_r ⟨rfl, Or.inl ⟨rfl, ?_⟩⟩))
  · have c : v.toInt < 97 := zt c
    rw [decide_eq_false (by omega)]
    rfl
  · have d : (122 : Int) < v.toInt := zt d
    rw [decide_eq_false (p := v.toInt ≤ 122) (by omega), Bool.and_false]
  · have c : ¬ v.toInt < 97 := zf c
    have d : ¬ (122 : Int) < v.toInt := zf d
    rw [decide_eq_true (by omega), decide_eq_true (by omega)]
    rfl
/-- numeral -/
def tnf (lo hi : Int) (bg e : Nat) (v ft : Int) : Int := if e = bg then trf ft (1 + 8 * bg + 0) else if 5 < e - bg ∨ v < lo ∨ hi < v then trf ft (1 + 8 * bg + 1) else ft
theorem P58_85 {lo hi v : Int32} (N : kN m0 b n) (h : kC m0 n p bg ft out wait cl k dp br ex wh m) (l : bg ≤ p) : xP (D58_2_85 F lo hi v m) (fun r m' => r = v ∧ kC m0 n p bg (tnf lo.toInt hi.toInt bg p v.toInt ft) out wait cl k dp br ex wh m') := by
  have h3 := h.2.2.1
  have h4 := h.2.2.2.1
  have n4 := N.2.1
  have sb : ((m.1 2 2) - (m.1 2 3)).toInt = (p : Int) - (bg : Int) := (xs1 (by omega) (by omega)).trans (by omega)
  have bad : 5 < p - bg ∨ v.toInt < lo.toInt ∨ hi.toInt < v.toInt → ¬ p = bg → xP (D58_2_131 F lo hi v m) (fun r m' => r = v ∧ kC m0 n p bg (tnf lo.toInt hi.toInt bg p v.toInt ft) out wait cl k dp br ex wh m') := fun c1 c2 => by
    unfold D58_2_131 D58_2_140 tnf
    rw [if_neg c2, if_pos c1]
    refine xP_b (P52 h (by omega) (by omega) (by decide) (by decide)) (fun _ m1 q => xP_r ⟨rfl, ?_⟩)
    rw [h4] at q
    exact q
  unfold D58_2_85
  refine xP_i (fun c => ?_) (fun c => ?_)
  · have c : (m.1 2 2).toInt ≠ (m.1 2 3).toInt := zt c
    refine xP_i (fun d => ?_) (fun d => ?_)
    · have d : (5 : Int) < ((m.1 2 2) - (m.1 2 3)).toInt := zt d
      exact bad (Or.inl (by omega)) (by omega)
    · have d : ¬ (5 : Int) < ((m.1 2 2) - (m.1 2 3)).toInt := zf d
      refine xP_i (fun e => ?_) (fun e => ?_)
      · have e : v.toInt < lo.toInt := zt e
        exact bad (Or.inr (Or.inl e)) (by omega)
      · have e : ¬ v.toInt < lo.toInt := zf e
        refine xP_i (fun g => ?_) (fun g => ?_)
        · have g : v.toInt ≤ hi.toInt := zt g
          unfold D58_2_140 tnf
          rw [if_neg (by omega), if_neg (by omega)]
          exact xP_r ⟨rfl, h⟩
        · have g : ¬ v.toInt ≤ hi.toInt := zf g
          exact bad (Or.inr (Or.inr (by omega))) (by omega)
  · have c : (m.1 2 2).toInt = (m.1 2 3).toInt := Decidable.not_not.mp (zf c)
    unfold D58_2_140 tnf
    rw [if_pos (by omega)]
    refine xP_b (P52 h (by omega) (by omega) (by decide) (by decide)) (fun _ m1 q => xP_r ⟨rfl, ?_⟩)
    rw [h4] at q
    exact q
theorem P58_15 {lo hi : Int32} (N : kN m0 b n) : ∀ (f : Nat) {p : Nat} {v : Int32} {m : xS}, kC m0 n p bg ft out wait cl k dp br ex wh m → bg ≤ p → n - p < f → (∀ j, bg ≤ j → j < p → tdg (b j) = true) → v.toInt = tv b bg (min (p - bg) 5) → xP (D58_2_15 F f lo hi v m) (fun r m' => r.toInt = tv b bg (min (tS tdg b n p - bg) 5) ∧ kC m0 n (tS tdg b n p) bg (tnf lo.toInt hi.toInt bg (tS tdg b n p) r.toInt ft) out wait cl k dp br ex wh m') := by
  intro f
  induction f with
  | zero => intro p v m _ _ l; omega
  | succ f ih =>
    intro p v m h l0 l dg hv
    obtain ⟨k1, k2⟩ := kC_n N h
    have h3 := h.2.2.1
    have h4 := h.2.2.2.1
    have n4 := N.2.1
    have sb : ((m.1 2 2) - (m.1 2 3)).toInt = (p : Int) - (bg : Int) := (xs1 (by omega) (by omega)).trans (by omega)
    unfold D58_2_15
    refine xP_i (fun c => ?_) (fun c => ?_)
    · have c : (m.1 2 1).toInt ≤ (m.1 2 2).toInt := zt c
      rw [tS_f (fun z => by omega)]
      exact xP_m (P58_85 N h l0) (fun r m' q => by obtain ⟨rfl, q⟩ := q; exact ⟨hv, q⟩)
    · have c : ¬ (m.1 2 1).toInt ≤ (m.1 2 2).toInt := zf c
      refine xP_g (xib_t (by omega) (by omega)) ?_
      refine xP_b P56 (fun r mx q => ?_)
      obtain ⟨rfl, q⟩ := q
      rw [kC_i h, k2 p (by omega)] at q
      dsimp only
      refine xP_i (fun d => ?_) (fun d => ?_)
      · have q : tdg (b p) = false := by
          rcases q with q | q
          · rw [q.1] at d
            cases d
          · exact q.2
        rw [tS_f (fun z => by rw [q] at z; cases z.2)]
        exact xP_m (P58_85 N h l0) (fun r m' q => by obtain ⟨rfl, q⟩ := q; exact ⟨hv, q⟩)
      · have q : tdg (b p) = true := by
          rcases q with q | q
          · exact q.2
          · rw [q.1] at d
            cases d
        have dg2 : ∀ j, bg ≤ j → j < p + 1 → tdg (b j) = true := fun j j1 j2 => by
          by_cases e : j = p
          · rw [e]
            exact q
          · exact dg j j1 (by omega)
        have dgn : ∀ j, bg ≤ j → j < p + 1 → 48 ≤ b j ∧ b j ≤ 57 := fun j j1 j2 => by
          have := dg2 j j1 j2
          unfold tdg at this
          simp only [Bool.and_eq_true, decide_eq_true_eq] at this
          exact this
        have hC := kC_p (v := mx.1 2 2 + 1) (x := p + 1) h ((xa1 (by show _ ≤ _ + (1 : Int); omega) (by show _ + (1 : Int) ≤ _; omega)).trans (by rw [h3.1]; rfl)) N.2.1 (by omega)
        rw [tS_t (P := tdg) (show p < n by omega) q]
        unfold D58_2_72
        refine xP_i (fun e => ?_) (fun e => ?_)
        · have e : (5 : Int) ≤ ((mx.1 2 2) - (mx.1 2 3)).toInt := zt e
          exact ih hC (by omega) (by omega) dg2 (by rw [show min (p + 1 - bg) 5 = min (p - bg) 5 by omega]; exact hv)
        · have e : ¬ (5 : Int) ≤ ((mx.1 2 2) - (mx.1 2 3)).toInt := zf e
          refine xP_g (xib_t (by omega) (by omega)) ?_
          refine ih hC (by omega) (by omega) dg2 ?_
          rw [kC_i h, show min (p + 1 - bg) 5 = (p - bg) + 1 by omega]
          rw [show min (p - bg) 5 = p - bg by omega] at hv
          have tb := tv_b (b := b) (p := bg) (n := p + 1 - bg) (fun j j1 j2 j3 => dgn j j1 (by omega)) (p - bg) (by omega) (by omega)
          have tb2 : tv b bg (p - bg) < 100000 := Int.lt_of_lt_of_le tb.2 (by
            have : p - bg = 0 ∨ p - bg = 1 ∨ p - bg = 2 ∨ p - bg = 3 ∨ p - bg = 4 := by omega
            rcases this with z | z | z | z | z <;> (rw [z]; decide))
          have bp := dgn p l0 (by omega)
          have kp := k2 p (by omega)
          show _ = 10 * tv b bg (p - bg) + b (bg + (p - bg)) - 48
          rw [show bg + (p - bg) = p by omega]
          have e1 : (10 * v).toInt = 10 * v.toInt := xm1 (by show _ ≤ (10 : Int) * _; omega) (by show (10 : Int) * _ ≤ _; omega)
          have e2 : (10 * v + mx.1 1 p).toInt = 10 * v.toInt + b p := (xa1 (by omega) (by omega)).trans (by rw [e1, kp])
          have e3 : (10 * v + mx.1 1 p - 48).toInt = 10 * v.toInt + b p - 48 := (xs1 (by show _ ≤ _ - (48 : Int); omega) (by show _ - (48 : Int) ≤ _; omega)).trans (by rw [e2]; rfl)
          rw [e3, hv]
theorem P58 {lo hi : Int32} (hF : 500 ≤ F) (N : kN m0 b n) (h : kC m0 n p bg ft out wait cl k dp br ex wh m) : xP (D58_2 F lo hi m) (fun r m' => r.toInt = tv b (tS tbl b n p) (min (tS tdg b n (tS tbl b n p) - tS tbl b n p) 5) ∧ kC m0 n (tS tdg b n (tS tbl b n p)) (tS tbl b n p) (tnf lo.toInt hi.toInt (tS tbl b n p) (tS tdg b n (tS tbl b n p)) r.toInt ft) out wait cl k dp br ex wh m') := by
  have n4 := N.2.1
  unfold D58_2
  refine xP_b (P53 hF N h) (fun v m1 q => ?_)
  obtain ⟨q, -⟩ := q
  have l1 : tS tbl b n p ≤ n := q.2.2.1.2
  dsimp only
  exact P58_15 N F (kC_bg q q.2.2.1.1 (by omega)) (Nat.le_refl _) (by omega) (fun j j1 j2 => by omega) (by rw [Nat.sub_self]; rfl)
end KT
end
section
/-! Words: the class's passWord, expectWord. -/
def tnx (b : Nat → Int) (e : Nat) (c : Int) (a : Option Nat) : Option Nat := match a with
  | some x => if x < e ∧ b x = c then some (x + 1) else none
  | none => none
def tpw (b : Nat → Int) (e bg : Nat) : List Int → Option Nat → Nat → Option Nat
  | [], _, _ => none
  | c :: s, a, num => if c = 32 then (if a = some e then some num else tpw b e bg s (some bg) (num + 1)) else tpw b e bg s (tnx b e c a) num
def tfl : List (List Int) → List Int
  | [] => []
  | w :: ws => w ++ 32 :: tfl ws
section TPW
variable {b : Nat → Int} {e bg : Nat}
theorem tpw_none {s : List Int} {num : Nat} : ∀ w : List Int, (∀ c ∈ w, c ≠ 32) → tpw b e bg (w ++ 32 :: s) none num = tpw b e bg s (some bg) (num + 1) := by
  intro w
  induction w with
  | nil =>
    intro _
    show (if (32 : Int) = 32 then (if (none : Option Nat) = some e then some num else tpw b e bg s (some bg) (num + 1)) else _) = _
    rw [if_pos rfl, if_neg (fun z => by cases z)]
  | cons c w ih =>
    intro h
    show (if c = 32 then _ else tpw b e bg (w ++ 32 :: s) (tnx b e c none) num) = _
    rw [if_neg (h c List.mem_cons_self)]
    exact ih (fun c hc => h c (List.mem_cons_of_mem _ hc))
theorem tpw_w {s : List Int} {num : Nat} : ∀ (w : List Int) (a : Nat), a ≤ e → (∀ c ∈ w, c ≠ 32) → tpw b e bg (w ++ 32 :: s) (some a) num = if tw b a e = w then some num else tpw b e bg s (some bg) (num + 1) := by
  intro w
  induction w with
  | nil =>
    intro a ha _
    show (if (32 : Int) = 32 then (if (some a : Option Nat) = some e then some num else tpw b e bg s (some bg) (num + 1)) else _) = _
    rw [if_pos rfl]
    by_cases c : a = e
    · rw [if_pos (by rw [c]), c, if_pos (tw_nil e)]
    · rw [if_neg (fun z => c (Option.some.inj z)), if_neg (fun z => c (by
        have := tw_len (b := b) a e
        rw [z] at this
        have : 0 = e - a := this
        omega))]
  | cons c w ih =>
    intro a ha h
    show (if c = 32 then _ else tpw b e bg (w ++ 32 :: s) (tnx b e c (some a)) num) = _
    rw [if_neg (h c List.mem_cons_self)]
    have hw : ∀ c ∈ w, c ≠ 32 := fun c hc => h c (List.mem_cons_of_mem _ hc)
    unfold tnx
    dsimp only
    by_cases q : a < e ∧ b a = c
    · rw [if_pos q, ih (a + 1) (by omega) hw, tw_cons q.1, q.2]
      by_cases z : tw b (a + 1) e = w
      · rw [if_pos z, if_pos (by rw [z])]
      · rw [if_neg z, if_neg (fun y => z (List.cons.inj y).2)]
    · rw [if_neg q, tpw_none w hw, if_neg]
      intro z
      by_cases l : a < e
      · rw [tw_cons l] at z
        exact q ⟨l, (List.cons.inj z).1⟩
      · have := tw_len (b := b) a e
        rw [z, List.length_cons] at this
        omega
theorem tpw_ws (hb : bg ≤ e) : ∀ (ws : List (List Int)) (num : Nat), (∀ w ∈ ws, ∀ c ∈ w, c ≠ 32) → tpw b e bg (tfl ws) (some bg) num = (tix (tw b bg e) ws).map (· + num) := by
  intro ws
  induction ws with
  | nil => intro num _; rfl
  | cons w ws ih =>
    intro num h
    show tpw b e bg (w ++ 32 :: tfl ws) (some bg) num = (if w = tw b bg e then some 0 else (tix (tw b bg e) ws).map (· + 1)).map (· + num)
    rw [tpw_w w bg hb (h w List.mem_cons_self)]
    by_cases c : tw b bg e = w
    · rw [if_pos c, if_pos c.symm]
      show some num = some (0 + num)
      rw [Nat.zero_add]
    · rw [if_neg c, if_neg (fun z => c z.symm), ih (num + 1) (fun v hv => h v (List.mem_cons_of_mem _ hv)), Option.map_map]
      congr 1
      funext x
      show x + (num + 1) = x + 1 + num
      omega
end TPW
def zsX (j i : Nat) : Int32 := (((zsv j i) &&& 255 : Int32).toUInt32 % 65536).toInt32
def tat (a : Option Nat) (v : Int) : Prop := match a with
  | some x => v = (x : Int)
  | none => v = -1
section KW
variable {m0 m : xS} {b : Nat → Int} {n p bg : Nat} {ft : Int} {out wait : List Int} {cl k dp br ex wh : Int} {F : Nat}
theorem P293 {v0 v1 : Int32} (h1 : 0 ≤ v0.toInt) (h2 : v0.toInt < v1.toInt) : xP (D293 F v0 v1 m) (fun _ m' => m' = m) := by
  unfold D293
  refine xP_i (fun c => ?_) (fun _ => xP_i (fun _ => xP_r rfl) (fun c => ?_))
  · have c : v0.toInt < 0 := zt c
    omega
  · have c : ¬ v0.toInt < v1.toInt := zf c
    omega
theorem P285 {v0 v1 : Int32} (h1 : 0 ≤ v0.toInt) (h2 : v0.toInt < v1.toInt) : xP (D285 F v0 v1 m) (fun _ m' => m' = m) := by
  unfold D285
  exact xP_b (P293 h1 h2) (fun _ m' q => xP_r q)
theorem xinc {v : Int32} {i : Nat} (h : v.toInt = (i : Int)) (l : i < 2000) : (v + Int32.ofInt 1).toInt = ((i + 1 : Nat) : Int) := by
  have e : (Int32.ofInt 1).toInt = 1 := rfl
  exact (xa1 (by rw [e]; omega) (by rw [e]; omega)).trans (by rw [e]; omega)
def tw1001 : List (List Int) := tCls
theorem tl1001 : (tfl tw1001).length = 31 := by decide
theorem tb1001 : ∀ w ∈ tw1001, ∀ c ∈ w, c ≠ (32 : Int) := by decide
theorem zsx1001 : (List.range 31).all (fun i => (vp_nar .char (zsX 20 i) == zsX 20 i) && (zsX 20 i).toInt == (tfl tw1001).getD i 0) = true := by decide +kernel
theorem P281_1001 : xP (D281_1001 F m) (fun v m' => m' = m ∧ v.toInt = 31) := by
  unfold D281_1001
  refine xP_b (R := fun v m' => m' = m ∧ v = 0) ?_ (fun v m' q => ?_)
  · unfold D283_1001
    exact xP_i (fun c => absurd c (by decide)) (fun _ => xP_r ⟨rfl, rfl⟩)
  · obtain ⟨rfl, rfl⟩ := q
    exact xP_r ⟨rfl, by show (Int32.ofNat 31 >>> ((0 : Int32) &&& 31)).toInt = 31; decide⟩
theorem P282_1001 {v : Int32} {i : Nat} (hv : v.toInt = (i : Int)) (l : i < 31) : xP (D282_1001 F v m) (fun r m' => m' = m ∧ r.toInt = (tfl tw1001).getD i 0) := by
  have z := List.all_eq_true.mp zsx1001 i (List.mem_range.mpr l)
  simp only [Bool.and_eq_true] at z
  have z2 := eq_of_beq z.2
  have ei : v.toNatClampNeg = i := by show v.toInt.toNat = i; omega
  unfold D282_1001
  refine xP_b (R := fun v m' => m' = m ∧ v = 1) ?_ (fun v1 m' q => ?_)
  · unfold D284_1001
    exact xP_i (fun c => absurd c (by decide)) (fun _ => xP_i (fun c => absurd c (by decide)) (fun _ => xP_r ⟨rfl, rfl⟩))
  · obtain ⟨rfl, rfl⟩ := q
    refine xP_i (fun c => absurd (show zcmp .eq (1 : Int32) 0 = true from c) (by decide)) (fun _ => ?_)
    refine xP_b (R := fun v2 m2 => m2 = m' ∧ v2 = zsX 20 i) ?_ (fun v2 m2 q => ?_)
    · unfold D286_1020
      refine xP_b (P285 (by omega) (by show _ < (31 : Int); omega)) (fun _ m3 q => ?_)
      subst q
      refine xP_g (xib_t (by omega) (by omega)) ?_
      dsimp only
      rw [ei]
      exact xP_g z.1 (xP_r ⟨rfl, rfl⟩)
    · obtain ⟨rfl, rfl⟩ := q
      exact xP_g z.1 (xP_r ⟨rfl, z2⟩)
theorem P59_55_1001 {e : Nat} (N : kN m0 b n) (he : e ≤ n) : ∀ (f : Nat) {i num : Nat} {a : Option Nat} {v2 v3 v4 v5 : Int32} {m : xS}, kC m0 n p bg ft out wait cl k dp br ex wh m → i ≤ 31 → 31 - i < f → v5.toInt = (i : Int) → v2.toInt = (e : Int) → v3.toInt = (num : Int) → num ≤ i → tat a v4.toInt → bg ≤ e → xP (D59_2_1001_55 F f v2 v3 v4 v5 m) (fun r m' => (∃ u, tpw b e bg ((tfl tw1001).drop i) a num = some u ∧ r.toInt = (u : Int) ∧ kC m0 n e bg ft out wait cl k dp br ex wh m') ∨ (tpw b e bg ((tfl tw1001).drop i) a num = none ∧ r.toInt = -1 ∧ kC m0 n p bg ft out wait cl k dp br ex wh m')) := by
  intro f
  induction f with
  | zero => intro i num a v2 v3 v4 v5 m _ _ l; omega
  | succ f ih =>
    intro i num a v2 v3 v4 v5 m h l1 l2 h5 h2 h3 l3 ha hb
    obtain ⟨k1, k2⟩ := kC_n N h
    have n4 := N.2.1
    have h4 := h.2.2.2.1
    unfold D59_2_1001_55
    refine xP_b P281_1001 (fun w0 mx q => ?_)
    obtain ⟨rfl, q⟩ := q
    dsimp only
    refine xP_i (fun c => ?_) (fun c => ?_)
    · have c : w0.toInt ≤ v5.toInt := zt c
      refine xP_r (Or.inr ⟨?_, by decide, h⟩)
      rw [List.drop_eq_nil_of_le (by rw [tl1001]; omega)]
      rfl
    · have c : ¬ w0.toInt ≤ v5.toInt := zf c
      have li : i < 31 := by omega
      have hd : (tfl tw1001).drop i = (tfl tw1001).getD i 0 :: (tfl tw1001).drop (i + 1) := by
        have l4 : i < (tfl tw1001).length := by rw [tl1001]; exact li
        rw [List.drop_eq_getElem_cons l4, List.getD_eq_getElem?_getD, List.getElem?_eq_getElem l4]
        rfl
      have i5 : (v5 + Int32.ofInt 1).toInt = ((i + 1 : Nat) : Int) := xinc h5 (by omega)
      refine xP_b (P282_1001 h5 li) (fun r1 mx q1 => ?_)
      obtain ⟨rfl, q1⟩ := q1
      dsimp only
      rw [hd]
      generalize hc0 : (tfl tw1001).getD i 0 = c0 at q1 ⊢
      have nx : ∀ {a' : Option Nat} {num' : Nat} {v3' v4' : Int32}, v3'.toInt = (num' : Int) → num' ≤ i + 1 → tat a' v4'.toInt → tpw b e bg (c0 :: (tfl tw1001).drop (i + 1)) a num = tpw b e bg ((tfl tw1001).drop (i + 1)) a' num' → xP (D59_2_1001_55 F f v2 v3' v4' (v5 + Int32.ofInt 1) mx) (fun r m' => (∃ u, tpw b e bg (c0 :: (tfl tw1001).drop (i + 1)) a num = some u ∧ r.toInt = (u : Int) ∧ kC m0 n e bg ft out wait cl k dp br ex wh m') ∨ (tpw b e bg (c0 :: (tfl tw1001).drop (i + 1)) a num = none ∧ r.toInt = -1 ∧ kC m0 n p bg ft out wait cl k dp br ex wh m')) := fun e3 l6 e4 eq => by
        rw [eq]
        exact ih h (by omega) (by omega) i5 h2 e3 l6 e4 hb
      refine xP_i (fun d => ?_) (fun d => ?_)
      · have d : r1.toInt = 32 := zt d
        have d0 : c0 = 32 := by omega
        refine xP_i (fun g => ?_) (fun g => ?_)
        · have g : v4.toInt ≠ v2.toInt := zt g
          unfold D59_2_1001_138
          refine nx (a' := some bg) (num' := num + 1) (xinc h3 (by omega)) (by omega) h4 ?_
          show (if c0 = 32 then (if a = some e then some num else _) else _) = _
          rw [if_pos d0, if_neg (fun z => by rw [z] at ha; have ha : v4.toInt = (e : Int) := ha; omega)]
        · have g : v4.toInt = v2.toInt := Decidable.not_not.mp (zf g)
          refine xP_r (Or.inl ⟨num, ?_, h3, kC_p h h2 N.2.1 he⟩)
          show (if c0 = 32 then (if a = some e then some num else _) else _) = _
          rw [if_pos d0, if_pos]
          cases a with
          | none =>
            have ha : v4.toInt = -1 := ha
            omega
          | some x =>
            have ha : v4.toInt = (x : Int) := ha
            rw [show x = e by omega]
      · have d : r1.toInt ≠ 32 := zf d
        have d0 : ¬ c0 = 32 := by omega
        have st : ∀ {a' : Option Nat}, tnx b e c0 a = a' → tpw b e bg (c0 :: (tfl tw1001).drop (i + 1)) a num = tpw b e bg ((tfl tw1001).drop (i + 1)) a' num := fun z => by
          show (if c0 = 32 then _ else tpw b e bg _ (tnx b e c0 a) num) = _
          rw [if_neg d0, z]
        have no : tnx b e c0 a = none → xP (D59_2_1001_110 F (D59_2_1001_55 F f) v2 v3 v4 v5 mx) (fun r m' => (∃ u, tpw b e bg (c0 :: (tfl tw1001).drop (i + 1)) a num = some u ∧ r.toInt = (u : Int) ∧ kC m0 n e bg ft out wait cl k dp br ex wh m') ∨ (tpw b e bg (c0 :: (tfl tw1001).drop (i + 1)) a num = none ∧ r.toInt = -1 ∧ kC m0 n p bg ft out wait cl k dp br ex wh m')) := fun z => by
          unfold D59_2_1001_110 D59_2_1001_111 D59_2_1001_138
          exact nx (a' := none) h3 (by omega) (by show (-1 : Int32).toInt = -1; decide) (st z)
        refine xP_i (fun g => ?_) (fun g => ?_)
        · have g : v4.toInt = -1 := zt g
          refine no ?_
          cases a with
          | none => rfl
          | some x =>
            have ha : v4.toInt = (x : Int) := ha
            omega
        · have g : v4.toInt ≠ -1 := zf g
          cases a with
          | none =>
            have ha : v4.toInt = -1 := ha
            omega
          | some x =>
            have ha : v4.toInt = (x : Int) := ha
            refine xP_i (fun g2 => ?_) (fun g2 => ?_)
            · have g2 : v2.toInt ≤ v4.toInt := zt g2
              exact no (if_neg (fun z => by omega))
            · have g2 : ¬ v2.toInt ≤ v4.toInt := zf g2
              refine xP_g (xib_t (by omega) (by omega)) ?_
              refine xP_b (P282_1001 h5 li) (fun r2 mx q2 => ?_)
              obtain ⟨rfl, q2⟩ := q2
              dsimp only
              have ex4 : v4.toNatClampNeg = x := by show v4.toInt.toNat = x; omega
              rw [ex4]
              have kx := k2 x (by omega)
              have q3 : r2.toInt = c0 := q2.trans hc0
              refine xP_i (fun g3 => ?_) (fun g3 => ?_)
              · have g3 : (mx.1 1 x).toInt ≠ r2.toInt := zt g3
                exact no (if_neg (fun z => by omega))
              · have g3 : (mx.1 1 x).toInt = r2.toInt := Decidable.not_not.mp (zf g3)
                unfold D59_2_1001_111 D59_2_1001_138
                exact nx (a' := some (x + 1)) h3 (by omega) ((xa1 (by show _ ≤ _ + (1 : Int); omega) (by show _ + (1 : Int) ≤ _; omega)).trans (by rw [ha]; rfl)) (st (if_pos ⟨by omega, by omega⟩))
theorem P59_18_1001 (hF : 500 ≤ F) (N : kN m0 b n) (hb : bg ≤ n) : ∀ (f : Nat) {j : Nat} {v2 : Int32} {m : xS}, kC m0 n p bg ft out wait cl k dp br ex wh m → v2.toInt = (j : Int) → bg ≤ j → j ≤ n → n - j < f → xP (D59_2_1001_18 F f v2 m) (fun r m' => (∃ u, tix (tw b bg (tS tlt b n j)) tw1001 = some u ∧ r.toInt = (u : Int) ∧ kC m0 n (tS tlt b n j) bg ft out wait cl k dp br ex wh m') ∨ (tix (tw b bg (tS tlt b n j)) tw1001 = none ∧ r.toInt = -1 ∧ kC m0 n p bg ft out wait cl k dp br ex wh m')) := by
  have fin : ∀ {j : Nat} {v2 : Int32} {m : xS}, kC m0 n p bg ft out wait cl k dp br ex wh m → v2.toInt = (j : Int) → bg ≤ j → j ≤ n → xP (D59_2_1001_44 F v2 m) (fun r m' => (∃ u, tix (tw b bg j) tw1001 = some u ∧ r.toInt = (u : Int) ∧ kC m0 n j bg ft out wait cl k dp br ex wh m') ∨ (tix (tw b bg j) tw1001 = none ∧ r.toInt = -1 ∧ kC m0 n p bg ft out wait cl k dp br ex wh m')) := by
    intro j v2 m h h2 l1 l2
    unfold D59_2_1001_44
    have z := P59_55_1001 (F := F) (b := b) (e := j) N l2 F (i := 0) (num := 0) (a := some bg) (v2 := v2) (v3 := 0) (v4 := m.1 2 3) (v5 := 0) h (by omega) (by omega) rfl h2 rfl (Nat.le_refl _) h.2.2.2.1 l1
    rw [List.drop_zero, tpw_ws l1 tw1001 0 tb1001, show (fun x : Nat => x + 0) = id from funext (fun _ => rfl), Option.map_id] at z
    exact z
  intro f
  induction f with
  | zero => intro j v2 m _ _ _ _ l; omega
  | succ f ih =>
    intro j v2 m h h2 l1 l2 l3
    obtain ⟨k1, k2⟩ := kC_n N h
    have n4 := N.2.1
    unfold D59_2_1001_18
    refine xP_i (fun c => ?_) (fun c => ?_)
    · have c : (m.1 2 1).toInt ≤ v2.toInt := zt c
      rw [tS_f (fun z => by omega)]
      exact fin h h2 l1 l2
    · have c : ¬ (m.1 2 1).toInt ≤ v2.toInt := zf c
      refine xP_g (xib_t (by omega) (by omega)) ?_
      refine xP_b P57 (fun r mx q => ?_)
      obtain ⟨rfl, q⟩ := q
      have ej : v2.toNatClampNeg = j := by show v2.toInt.toNat = j; omega
      rw [ej, k2 j (by omega)] at q
      dsimp only
      refine xP_i (fun d => ?_) (fun d => ?_)
      · have q : tlt (b j) = false := by
          rcases q with q | q
          · rw [q.1] at d
            cases d
          · exact q.2
        rw [tS_f (fun z => by rw [q] at z; cases z.2)]
        exact fin h h2 l1 l2
      · have q : tlt (b j) = true := by
          rcases q with q | q
          · exact q.2
          · rw [q.1] at d
            cases d
        rw [tS_t (P := tlt) (show j < n by omega) q]
        exact ih h (xinc h2 (by omega)) (by omega) (by omega) (by omega)
theorem P59_1001 (hF : 500 ≤ F) (N : kN m0 b n) (h : kC m0 n p bg ft out wait cl k dp br ex wh m) : xP (D59_2_1001 F m) (fun r m' => (∃ u, tix (tw b (tS tbl b n p) (tS tlt b n (tS tbl b n p))) tw1001 = some u ∧ r.toInt = (u : Int) ∧ kC m0 n (tS tlt b n (tS tbl b n p)) (tS tbl b n p) ft out wait cl k dp br ex wh m') ∨ (tix (tw b (tS tbl b n p) (tS tlt b n (tS tbl b n p))) tw1001 = none ∧ r.toInt = -1 ∧ kC m0 n (tS tbl b n p) (tS tbl b n p) ft out wait cl k dp br ex wh m')) := by
  have n4 := N.2.1
  unfold D59_2_1001
  refine xP_b (P53 hF N h) (fun v m1 q => ?_)
  obtain ⟨q, -⟩ := q
  have l1 : tS tbl b n p ≤ n := q.2.2.1.2
  dsimp only
  exact P59_18_1001 hF N l1 F (kC_bg q q.2.2.1.1 (by omega)) q.2.2.1.1 (Nat.le_refl _) l1 (by omega)
theorem P60_1001 (hF : 500 ≤ F) (N : kN m0 b n) (h : kC m0 n p bg ft out wait cl k dp br ex wh m) : xP (D60_2_1001 F m) (fun r m' => (∃ u, tix (tw b (tS tbl b n p) (tS tlt b n (tS tbl b n p))) tw1001 = some u ∧ r.toInt = (u : Int) ∧ kC m0 n (tS tlt b n (tS tbl b n p)) (tS tbl b n p) ft out wait cl k dp br ex wh m') ∨ (tix (tw b (tS tbl b n p) (tS tlt b n (tS tbl b n p))) tw1001 = none ∧ r.toInt = -1 ∧ kC m0 n (tS tbl b n p) (tS tbl b n p) (trf ft (1 + 8 * (tS tbl b n p : Int))) out wait cl k dp br ex wh m')) := by
  have n4 := N.2.1
  have l2 := h.2.2.1.2
  unfold D60_2_1001 D60_2_1001_20
  refine xP_b (P59_1001 hF N h) (fun v m1 q => ?_)
  dsimp only
  refine xP_i (fun c => ?_) (fun c => ?_)
  · have c : v.toInt ≠ -1 := zt c
    rcases q with q | q
    · exact xP_r (Or.inl q)
    · exact absurd q.2.1 c
  · have c : v.toInt = -1 := Decidable.not_not.mp (zf c)
    rcases q with ⟨u, -, q, -⟩ | ⟨q1, q2, q3⟩
    · omega
    · have b3 := q3.2.2.2.1
      have l1 : tS tbl b n p ≤ n := q3.2.2.1.2
      refine xP_b (P52 q3 (by omega) (by omega) (by decide) (by decide)) (fun _ m2 q4 => xP_r (Or.inr ⟨q1, q2, ?_⟩))
      rw [b3, show (1 + 8 * ((tS tbl b n p : Nat) : Int) + (0 : Int32).toInt) = 1 + 8 * ((tS tbl b n p : Nat) : Int) from Int.add_zero _] at q4
      exact q4
def tw1002 : List (List Int) := [tLend]
theorem tl1002 : (tfl tw1002).length = 5 := by decide
theorem tb1002 : ∀ w ∈ tw1002, ∀ c ∈ w, c ≠ (32 : Int) := by decide
theorem zsx1002 : (List.range 5).all (fun i => (vp_nar .char (zsX 21 i) == zsX 21 i) && (zsX 21 i).toInt == (tfl tw1002).getD i 0) = true := by decide +kernel
theorem P281_1002 : xP (D281_1002 F m) (fun v m' => m' = m ∧ v.toInt = 5) := by
  unfold D281_1002
  refine xP_b (R := fun v m' => m' = m ∧ v = 0) ?_ (fun v m' q => ?_)
  · unfold D283_1002
    exact xP_i (fun c => absurd c (by decide)) (fun _ => xP_r ⟨rfl, rfl⟩)
  · obtain ⟨rfl, rfl⟩ := q
    exact xP_r ⟨rfl, by show (Int32.ofNat 5 >>> ((0 : Int32) &&& 31)).toInt = 5; decide⟩
theorem P282_1002 {v : Int32} {i : Nat} (hv : v.toInt = (i : Int)) (l : i < 5) : xP (D282_1002 F v m) (fun r m' => m' = m ∧ r.toInt = (tfl tw1002).getD i 0) := by
  have z := List.all_eq_true.mp zsx1002 i (List.mem_range.mpr l)
  simp only [Bool.and_eq_true] at z
  have z2 := eq_of_beq z.2
  have ei : v.toNatClampNeg = i := by show v.toInt.toNat = i; omega
  unfold D282_1002
  refine xP_b (R := fun v m' => m' = m ∧ v = 1) ?_ (fun v1 m' q => ?_)
  · unfold D284_1002
    exact xP_i (fun c => absurd c (by decide)) (fun _ => xP_i (fun c => absurd c (by decide)) (fun _ => xP_r ⟨rfl, rfl⟩))
  · obtain ⟨rfl, rfl⟩ := q
    refine xP_i (fun c => absurd (show zcmp .eq (1 : Int32) 0 = true from c) (by decide)) (fun _ => ?_)
    refine xP_b (R := fun v2 m2 => m2 = m' ∧ v2 = zsX 21 i) ?_ (fun v2 m2 q => ?_)
    · unfold D286_1021
      refine xP_b (P285 (by omega) (by show _ < (5 : Int); omega)) (fun _ m3 q => ?_)
      subst q
      refine xP_g (xib_t (by omega) (by omega)) ?_
      dsimp only
      rw [ei]
      exact xP_g z.1 (xP_r ⟨rfl, rfl⟩)
    · obtain ⟨rfl, rfl⟩ := q
      exact xP_g z.1 (xP_r ⟨rfl, z2⟩)
theorem P59_55_1002 {e : Nat} (N : kN m0 b n) (he : e ≤ n) : ∀ (f : Nat) {i num : Nat} {a : Option Nat} {v2 v3 v4 v5 : Int32} {m : xS}, kC m0 n p bg ft out wait cl k dp br ex wh m → i ≤ 5 → 5 - i < f → v5.toInt = (i : Int) → v2.toInt = (e : Int) → v3.toInt = (num : Int) → num ≤ i → tat a v4.toInt → bg ≤ e → xP (D59_2_1002_55 F f v2 v3 v4 v5 m) (fun r m' => (∃ u, tpw b e bg ((tfl tw1002).drop i) a num = some u ∧ r.toInt = (u : Int) ∧ kC m0 n e bg ft out wait cl k dp br ex wh m') ∨ (tpw b e bg ((tfl tw1002).drop i) a num = none ∧ r.toInt = -1 ∧ kC m0 n p bg ft out wait cl k dp br ex wh m')) := by
  intro f
  induction f with
  | zero => intro i num a v2 v3 v4 v5 m _ _ l; omega
  | succ f ih =>
    intro i num a v2 v3 v4 v5 m h l1 l2 h5 h2 h3 l3 ha hb
    obtain ⟨k1, k2⟩ := kC_n N h
    have n4 := N.2.1
    have h4 := h.2.2.2.1
    unfold D59_2_1002_55
    refine xP_b P281_1002 (fun w0 mx q => ?_)
    obtain ⟨rfl, q⟩ := q
    dsimp only
    refine xP_i (fun c => ?_) (fun c => ?_)
    · have c : w0.toInt ≤ v5.toInt := zt c
      refine xP_r (Or.inr ⟨?_, by decide, h⟩)
      rw [List.drop_eq_nil_of_le (by rw [tl1002]; omega)]
      rfl
    · have c : ¬ w0.toInt ≤ v5.toInt := zf c
      have li : i < 5 := by omega
      have hd : (tfl tw1002).drop i = (tfl tw1002).getD i 0 :: (tfl tw1002).drop (i + 1) := by
        have l4 : i < (tfl tw1002).length := by rw [tl1002]; exact li
        rw [List.drop_eq_getElem_cons l4, List.getD_eq_getElem?_getD, List.getElem?_eq_getElem l4]
        rfl
      have i5 : (v5 + Int32.ofInt 1).toInt = ((i + 1 : Nat) : Int) := xinc h5 (by omega)
      refine xP_b (P282_1002 h5 li) (fun r1 mx q1 => ?_)
      obtain ⟨rfl, q1⟩ := q1
      dsimp only
      rw [hd]
      generalize hc0 : (tfl tw1002).getD i 0 = c0 at q1 ⊢
      have nx : ∀ {a' : Option Nat} {num' : Nat} {v3' v4' : Int32}, v3'.toInt = (num' : Int) → num' ≤ i + 1 → tat a' v4'.toInt → tpw b e bg (c0 :: (tfl tw1002).drop (i + 1)) a num = tpw b e bg ((tfl tw1002).drop (i + 1)) a' num' → xP (D59_2_1002_55 F f v2 v3' v4' (v5 + Int32.ofInt 1) mx) (fun r m' => (∃ u, tpw b e bg (c0 :: (tfl tw1002).drop (i + 1)) a num = some u ∧ r.toInt = (u : Int) ∧ kC m0 n e bg ft out wait cl k dp br ex wh m') ∨ (tpw b e bg (c0 :: (tfl tw1002).drop (i + 1)) a num = none ∧ r.toInt = -1 ∧ kC m0 n p bg ft out wait cl k dp br ex wh m')) := fun e3 l6 e4 eq => by
        rw [eq]
        exact ih h (by omega) (by omega) i5 h2 e3 l6 e4 hb
      refine xP_i (fun d => ?_) (fun d => ?_)
      · have d : r1.toInt = 32 := zt d
        have d0 : c0 = 32 := by omega
        refine xP_i (fun g => ?_) (fun g => ?_)
        · have g : v4.toInt ≠ v2.toInt := zt g
          unfold D59_2_1002_138
          refine nx (a' := some bg) (num' := num + 1) (xinc h3 (by omega)) (by omega) h4 ?_
          show (if c0 = 32 then (if a = some e then some num else _) else _) = _
          rw [if_pos d0, if_neg (fun z => by rw [z] at ha; have ha : v4.toInt = (e : Int) := ha; omega)]
        · have g : v4.toInt = v2.toInt := Decidable.not_not.mp (zf g)
          refine xP_r (Or.inl ⟨num, ?_, h3, kC_p h h2 N.2.1 he⟩)
          show (if c0 = 32 then (if a = some e then some num else _) else _) = _
          rw [if_pos d0, if_pos]
          cases a with
          | none =>
            have ha : v4.toInt = -1 := ha
            omega
          | some x =>
            have ha : v4.toInt = (x : Int) := ha
            rw [show x = e by omega]
      · have d : r1.toInt ≠ 32 := zf d
        have d0 : ¬ c0 = 32 := by omega
        have st : ∀ {a' : Option Nat}, tnx b e c0 a = a' → tpw b e bg (c0 :: (tfl tw1002).drop (i + 1)) a num = tpw b e bg ((tfl tw1002).drop (i + 1)) a' num := fun z => by
          show (if c0 = 32 then _ else tpw b e bg _ (tnx b e c0 a) num) = _
          rw [if_neg d0, z]
        have no : tnx b e c0 a = none → xP (D59_2_1002_110 F (D59_2_1002_55 F f) v2 v3 v4 v5 mx) (fun r m' => (∃ u, tpw b e bg (c0 :: (tfl tw1002).drop (i + 1)) a num = some u ∧ r.toInt = (u : Int) ∧ kC m0 n e bg ft out wait cl k dp br ex wh m') ∨ (tpw b e bg (c0 :: (tfl tw1002).drop (i + 1)) a num = none ∧ r.toInt = -1 ∧ kC m0 n p bg ft out wait cl k dp br ex wh m')) := fun z => by
          unfold D59_2_1002_110 D59_2_1002_111 D59_2_1002_138
          exact nx (a' := none) h3 (by omega) (by show (-1 : Int32).toInt = -1; decide) (st z)
        refine xP_i (fun g => ?_) (fun g => ?_)
        · have g : v4.toInt = -1 := zt g
          refine no ?_
          cases a with
          | none => rfl
          | some x =>
            have ha : v4.toInt = (x : Int) := ha
            omega
        · have g : v4.toInt ≠ -1 := zf g
          cases a with
          | none =>
            have ha : v4.toInt = -1 := ha
            omega
          | some x =>
            have ha : v4.toInt = (x : Int) := ha
            refine xP_i (fun g2 => ?_) (fun g2 => ?_)
            · have g2 : v2.toInt ≤ v4.toInt := zt g2
              exact no (if_neg (fun z => by omega))
            · have g2 : ¬ v2.toInt ≤ v4.toInt := zf g2
              refine xP_g (xib_t (by omega) (by omega)) ?_
              refine xP_b (P282_1002 h5 li) (fun r2 mx q2 => ?_)
              obtain ⟨rfl, q2⟩ := q2
              dsimp only
              have ex4 : v4.toNatClampNeg = x := by show v4.toInt.toNat = x; omega
              rw [ex4]
              have kx := k2 x (by omega)
              have q3 : r2.toInt = c0 := q2.trans hc0
              refine xP_i (fun g3 => ?_) (fun g3 => ?_)
              · have g3 : (mx.1 1 x).toInt ≠ r2.toInt := zt g3
                exact no (if_neg (fun z => by omega))
              · have g3 : (mx.1 1 x).toInt = r2.toInt := Decidable.not_not.mp (zf g3)
                unfold D59_2_1002_111 D59_2_1002_138
                exact nx (a' := some (x + 1)) h3 (by omega) ((xa1 (by show _ ≤ _ + (1 : Int); omega) (by show _ + (1 : Int) ≤ _; omega)).trans (by rw [ha]; rfl)) (st (if_pos ⟨by omega, by omega⟩))
theorem P59_18_1002 (hF : 500 ≤ F) (N : kN m0 b n) (hb : bg ≤ n) : ∀ (f : Nat) {j : Nat} {v2 : Int32} {m : xS}, kC m0 n p bg ft out wait cl k dp br ex wh m → v2.toInt = (j : Int) → bg ≤ j → j ≤ n → n - j < f → xP (D59_2_1002_18 F f v2 m) (fun r m' => (∃ u, tix (tw b bg (tS tlt b n j)) tw1002 = some u ∧ r.toInt = (u : Int) ∧ kC m0 n (tS tlt b n j) bg ft out wait cl k dp br ex wh m') ∨ (tix (tw b bg (tS tlt b n j)) tw1002 = none ∧ r.toInt = -1 ∧ kC m0 n p bg ft out wait cl k dp br ex wh m')) := by
  have fin : ∀ {j : Nat} {v2 : Int32} {m : xS}, kC m0 n p bg ft out wait cl k dp br ex wh m → v2.toInt = (j : Int) → bg ≤ j → j ≤ n → xP (D59_2_1002_44 F v2 m) (fun r m' => (∃ u, tix (tw b bg j) tw1002 = some u ∧ r.toInt = (u : Int) ∧ kC m0 n j bg ft out wait cl k dp br ex wh m') ∨ (tix (tw b bg j) tw1002 = none ∧ r.toInt = -1 ∧ kC m0 n p bg ft out wait cl k dp br ex wh m')) := by
    intro j v2 m h h2 l1 l2
    unfold D59_2_1002_44
    have z := P59_55_1002 (F := F) (b := b) (e := j) N l2 F (i := 0) (num := 0) (a := some bg) (v2 := v2) (v3 := 0) (v4 := m.1 2 3) (v5 := 0) h (by omega) (by omega) rfl h2 rfl (Nat.le_refl _) h.2.2.2.1 l1
    rw [List.drop_zero, tpw_ws l1 tw1002 0 tb1002, show (fun x : Nat => x + 0) = id from funext (fun _ => rfl), Option.map_id] at z
    exact z
  intro f
  induction f with
  | zero => intro j v2 m _ _ _ _ l; omega
  | succ f ih =>
    intro j v2 m h h2 l1 l2 l3
    obtain ⟨k1, k2⟩ := kC_n N h
    have n4 := N.2.1
    unfold D59_2_1002_18
    refine xP_i (fun c => ?_) (fun c => ?_)
    · have c : (m.1 2 1).toInt ≤ v2.toInt := zt c
      rw [tS_f (fun z => by omega)]
      exact fin h h2 l1 l2
    · have c : ¬ (m.1 2 1).toInt ≤ v2.toInt := zf c
      refine xP_g (xib_t (by omega) (by omega)) ?_
      refine xP_b P57 (fun r mx q => ?_)
      obtain ⟨rfl, q⟩ := q
      have ej : v2.toNatClampNeg = j := by show v2.toInt.toNat = j; omega
      rw [ej, k2 j (by omega)] at q
      dsimp only
      refine xP_i (fun d => ?_) (fun d => ?_)
      · have q : tlt (b j) = false := by
          rcases q with q | q
          · rw [q.1] at d
            cases d
          · exact q.2
        rw [tS_f (fun z => by rw [q] at z; cases z.2)]
        exact fin h h2 l1 l2
      · have q : tlt (b j) = true := by
          rcases q with q | q
          · exact q.2
          · rw [q.1] at d
            cases d
        rw [tS_t (P := tlt) (show j < n by omega) q]
        exact ih h (xinc h2 (by omega)) (by omega) (by omega) (by omega)
theorem P59_1002 (hF : 500 ≤ F) (N : kN m0 b n) (h : kC m0 n p bg ft out wait cl k dp br ex wh m) : xP (D59_2_1002 F m) (fun r m' => (∃ u, tix (tw b (tS tbl b n p) (tS tlt b n (tS tbl b n p))) tw1002 = some u ∧ r.toInt = (u : Int) ∧ kC m0 n (tS tlt b n (tS tbl b n p)) (tS tbl b n p) ft out wait cl k dp br ex wh m') ∨ (tix (tw b (tS tbl b n p) (tS tlt b n (tS tbl b n p))) tw1002 = none ∧ r.toInt = -1 ∧ kC m0 n (tS tbl b n p) (tS tbl b n p) ft out wait cl k dp br ex wh m')) := by
  have n4 := N.2.1
  unfold D59_2_1002
  refine xP_b (P53 hF N h) (fun v m1 q => ?_)
  obtain ⟨q, -⟩ := q
  have l1 : tS tbl b n p ≤ n := q.2.2.1.2
  dsimp only
  exact P59_18_1002 hF N l1 F (kC_bg q q.2.2.1.1 (by omega)) q.2.2.1.1 (Nat.le_refl _) l1 (by omega)
theorem P60_1002 (hF : 500 ≤ F) (N : kN m0 b n) (h : kC m0 n p bg ft out wait cl k dp br ex wh m) : xP (D60_2_1002 F m) (fun r m' => (∃ u, tix (tw b (tS tbl b n p) (tS tlt b n (tS tbl b n p))) tw1002 = some u ∧ r.toInt = (u : Int) ∧ kC m0 n (tS tlt b n (tS tbl b n p)) (tS tbl b n p) ft out wait cl k dp br ex wh m') ∨ (tix (tw b (tS tbl b n p) (tS tlt b n (tS tbl b n p))) tw1002 = none ∧ r.toInt = -1 ∧ kC m0 n (tS tbl b n p) (tS tbl b n p) (trf ft (1 + 8 * (tS tbl b n p : Int))) out wait cl k dp br ex wh m')) := by
  have n4 := N.2.1
  have l2 := h.2.2.1.2
  unfold D60_2_1002 D60_2_1002_20
  refine xP_b (P59_1002 hF N h) (fun v m1 q => ?_)
  dsimp only
  refine xP_i (fun c => ?_) (fun c => ?_)
  · have c : v.toInt ≠ -1 := zt c
    rcases q with q | q
    · exact xP_r (Or.inl q)
    · exact absurd q.2.1 c
  · have c : v.toInt = -1 := Decidable.not_not.mp (zf c)
    rcases q with ⟨u, -, q, -⟩ | ⟨q1, q2, q3⟩
    · omega
    · have b3 := q3.2.2.2.1
      have l1 : tS tbl b n p ≤ n := q3.2.2.1.2
      refine xP_b (P52 q3 (by omega) (by omega) (by decide) (by decide)) (fun _ m2 q4 => xP_r (Or.inr ⟨q1, q2, ?_⟩))
      rw [b3, show (1 + 8 * ((tS tbl b n p : Nat) : Int) + (0 : Int32).toInt) = 1 + 8 * ((tS tbl b n p : Nat) : Int) from Int.add_zero _] at q4
      exact q4
def tw1003 : List (List Int) := [tNot]
theorem tl1003 : (tfl tw1003).length = 4 := by decide
theorem tb1003 : ∀ w ∈ tw1003, ∀ c ∈ w, c ≠ (32 : Int) := by decide
theorem zsx1003 : (List.range 4).all (fun i => (vp_nar .char (zsX 22 i) == zsX 22 i) && (zsX 22 i).toInt == (tfl tw1003).getD i 0) = true := by decide +kernel
theorem P281_1003 : xP (D281_1003 F m) (fun v m' => m' = m ∧ v.toInt = 4) := by
  unfold D281_1003
  refine xP_b (R := fun v m' => m' = m ∧ v = 0) ?_ (fun v m' q => ?_)
  · unfold D283_1003
    exact xP_i (fun c => absurd c (by decide)) (fun _ => xP_r ⟨rfl, rfl⟩)
  · obtain ⟨rfl, rfl⟩ := q
    exact xP_r ⟨rfl, by show (Int32.ofNat 4 >>> ((0 : Int32) &&& 31)).toInt = 4; decide⟩
theorem P282_1003 {v : Int32} {i : Nat} (hv : v.toInt = (i : Int)) (l : i < 4) : xP (D282_1003 F v m) (fun r m' => m' = m ∧ r.toInt = (tfl tw1003).getD i 0) := by
  have z := List.all_eq_true.mp zsx1003 i (List.mem_range.mpr l)
  simp only [Bool.and_eq_true] at z
  have z2 := eq_of_beq z.2
  have ei : v.toNatClampNeg = i := by show v.toInt.toNat = i; omega
  unfold D282_1003
  refine xP_b (R := fun v m' => m' = m ∧ v = 1) ?_ (fun v1 m' q => ?_)
  · unfold D284_1003
    exact xP_i (fun c => absurd c (by decide)) (fun _ => xP_i (fun c => absurd c (by decide)) (fun _ => xP_r ⟨rfl, rfl⟩))
  · obtain ⟨rfl, rfl⟩ := q
    refine xP_i (fun c => absurd (show zcmp .eq (1 : Int32) 0 = true from c) (by decide)) (fun _ => ?_)
    refine xP_b (R := fun v2 m2 => m2 = m' ∧ v2 = zsX 22 i) ?_ (fun v2 m2 q => ?_)
    · unfold D286_1022
      refine xP_b (P285 (by omega) (by show _ < (4 : Int); omega)) (fun _ m3 q => ?_)
      subst q
      refine xP_g (xib_t (by omega) (by omega)) ?_
      dsimp only
      rw [ei]
      exact xP_g z.1 (xP_r ⟨rfl, rfl⟩)
    · obtain ⟨rfl, rfl⟩ := q
      exact xP_g z.1 (xP_r ⟨rfl, z2⟩)
theorem P59_55_1003 {e : Nat} (N : kN m0 b n) (he : e ≤ n) : ∀ (f : Nat) {i num : Nat} {a : Option Nat} {v2 v3 v4 v5 : Int32} {m : xS}, kC m0 n p bg ft out wait cl k dp br ex wh m → i ≤ 4 → 4 - i < f → v5.toInt = (i : Int) → v2.toInt = (e : Int) → v3.toInt = (num : Int) → num ≤ i → tat a v4.toInt → bg ≤ e → xP (D59_2_1003_55 F f v2 v3 v4 v5 m) (fun r m' => (∃ u, tpw b e bg ((tfl tw1003).drop i) a num = some u ∧ r.toInt = (u : Int) ∧ kC m0 n e bg ft out wait cl k dp br ex wh m') ∨ (tpw b e bg ((tfl tw1003).drop i) a num = none ∧ r.toInt = -1 ∧ kC m0 n p bg ft out wait cl k dp br ex wh m')) := by
  intro f
  induction f with
  | zero => intro i num a v2 v3 v4 v5 m _ _ l; omega
  | succ f ih =>
    intro i num a v2 v3 v4 v5 m h l1 l2 h5 h2 h3 l3 ha hb
    obtain ⟨k1, k2⟩ := kC_n N h
    have n4 := N.2.1
    have h4 := h.2.2.2.1
    unfold D59_2_1003_55
    refine xP_b P281_1003 (fun w0 mx q => ?_)
    obtain ⟨rfl, q⟩ := q
    dsimp only
    refine xP_i (fun c => ?_) (fun c => ?_)
    · have c : w0.toInt ≤ v5.toInt := zt c
      refine xP_r (Or.inr ⟨?_, by decide, h⟩)
      rw [List.drop_eq_nil_of_le (by rw [tl1003]; omega)]
      rfl
    · have c : ¬ w0.toInt ≤ v5.toInt := zf c
      have li : i < 4 := by omega
      have hd : (tfl tw1003).drop i = (tfl tw1003).getD i 0 :: (tfl tw1003).drop (i + 1) := by
        have l4 : i < (tfl tw1003).length := by rw [tl1003]; exact li
        rw [List.drop_eq_getElem_cons l4, List.getD_eq_getElem?_getD, List.getElem?_eq_getElem l4]
        rfl
      have i5 : (v5 + Int32.ofInt 1).toInt = ((i + 1 : Nat) : Int) := xinc h5 (by omega)
      refine xP_b (P282_1003 h5 li) (fun r1 mx q1 => ?_)
      obtain ⟨rfl, q1⟩ := q1
      dsimp only
      rw [hd]
      generalize hc0 : (tfl tw1003).getD i 0 = c0 at q1 ⊢
      have nx : ∀ {a' : Option Nat} {num' : Nat} {v3' v4' : Int32}, v3'.toInt = (num' : Int) → num' ≤ i + 1 → tat a' v4'.toInt → tpw b e bg (c0 :: (tfl tw1003).drop (i + 1)) a num = tpw b e bg ((tfl tw1003).drop (i + 1)) a' num' → xP (D59_2_1003_55 F f v2 v3' v4' (v5 + Int32.ofInt 1) mx) (fun r m' => (∃ u, tpw b e bg (c0 :: (tfl tw1003).drop (i + 1)) a num = some u ∧ r.toInt = (u : Int) ∧ kC m0 n e bg ft out wait cl k dp br ex wh m') ∨ (tpw b e bg (c0 :: (tfl tw1003).drop (i + 1)) a num = none ∧ r.toInt = -1 ∧ kC m0 n p bg ft out wait cl k dp br ex wh m')) := fun e3 l6 e4 eq => by
        rw [eq]
        exact ih h (by omega) (by omega) i5 h2 e3 l6 e4 hb
      refine xP_i (fun d => ?_) (fun d => ?_)
      · have d : r1.toInt = 32 := zt d
        have d0 : c0 = 32 := by omega
        refine xP_i (fun g => ?_) (fun g => ?_)
        · have g : v4.toInt ≠ v2.toInt := zt g
          unfold D59_2_1003_138
          refine nx (a' := some bg) (num' := num + 1) (xinc h3 (by omega)) (by omega) h4 ?_
          show (if c0 = 32 then (if a = some e then some num else _) else _) = _
          rw [if_pos d0, if_neg (fun z => by rw [z] at ha; have ha : v4.toInt = (e : Int) := ha; omega)]
        · have g : v4.toInt = v2.toInt := Decidable.not_not.mp (zf g)
          refine xP_r (Or.inl ⟨num, ?_, h3, kC_p h h2 N.2.1 he⟩)
          show (if c0 = 32 then (if a = some e then some num else _) else _) = _
          rw [if_pos d0, if_pos]
          cases a with
          | none =>
            have ha : v4.toInt = -1 := ha
            omega
          | some x =>
            have ha : v4.toInt = (x : Int) := ha
            rw [show x = e by omega]
      · have d : r1.toInt ≠ 32 := zf d
        have d0 : ¬ c0 = 32 := by omega
        have st : ∀ {a' : Option Nat}, tnx b e c0 a = a' → tpw b e bg (c0 :: (tfl tw1003).drop (i + 1)) a num = tpw b e bg ((tfl tw1003).drop (i + 1)) a' num := fun z => by
          show (if c0 = 32 then _ else tpw b e bg _ (tnx b e c0 a) num) = _
          rw [if_neg d0, z]
        have no : tnx b e c0 a = none → xP (D59_2_1003_110 F (D59_2_1003_55 F f) v2 v3 v4 v5 mx) (fun r m' => (∃ u, tpw b e bg (c0 :: (tfl tw1003).drop (i + 1)) a num = some u ∧ r.toInt = (u : Int) ∧ kC m0 n e bg ft out wait cl k dp br ex wh m') ∨ (tpw b e bg (c0 :: (tfl tw1003).drop (i + 1)) a num = none ∧ r.toInt = -1 ∧ kC m0 n p bg ft out wait cl k dp br ex wh m')) := fun z => by
          unfold D59_2_1003_110 D59_2_1003_111 D59_2_1003_138
          exact nx (a' := none) h3 (by omega) (by show (-1 : Int32).toInt = -1; decide) (st z)
        refine xP_i (fun g => ?_) (fun g => ?_)
        · have g : v4.toInt = -1 := zt g
          refine no ?_
          cases a with
          | none => rfl
          | some x =>
            have ha : v4.toInt = (x : Int) := ha
            omega
        · have g : v4.toInt ≠ -1 := zf g
          cases a with
          | none =>
            have ha : v4.toInt = -1 := ha
            omega
          | some x =>
            have ha : v4.toInt = (x : Int) := ha
            refine xP_i (fun g2 => ?_) (fun g2 => ?_)
            · have g2 : v2.toInt ≤ v4.toInt := zt g2
              exact no (if_neg (fun z => by omega))
            · have g2 : ¬ v2.toInt ≤ v4.toInt := zf g2
              refine xP_g (xib_t (by omega) (by omega)) ?_
              refine xP_b (P282_1003 h5 li) (fun r2 mx q2 => ?_)
              obtain ⟨rfl, q2⟩ := q2
              dsimp only
              have ex4 : v4.toNatClampNeg = x := by show v4.toInt.toNat = x; omega
              rw [ex4]
              have kx := k2 x (by omega)
              have q3 : r2.toInt = c0 := q2.trans hc0
              refine xP_i (fun g3 => ?_) (fun g3 => ?_)
              · have g3 : (mx.1 1 x).toInt ≠ r2.toInt := zt g3
                exact no (if_neg (fun z => by omega))
              · have g3 : (mx.1 1 x).toInt = r2.toInt := Decidable.not_not.mp (zf g3)
                unfold D59_2_1003_111 D59_2_1003_138
                exact nx (a' := some (x + 1)) h3 (by omega) ((xa1 (by show _ ≤ _ + (1 : Int); omega) (by show _ + (1 : Int) ≤ _; omega)).trans (by rw [ha]; rfl)) (st (if_pos ⟨by omega, by omega⟩))
theorem P59_18_1003 (hF : 500 ≤ F) (N : kN m0 b n) (hb : bg ≤ n) : ∀ (f : Nat) {j : Nat} {v2 : Int32} {m : xS}, kC m0 n p bg ft out wait cl k dp br ex wh m → v2.toInt = (j : Int) → bg ≤ j → j ≤ n → n - j < f → xP (D59_2_1003_18 F f v2 m) (fun r m' => (∃ u, tix (tw b bg (tS tlt b n j)) tw1003 = some u ∧ r.toInt = (u : Int) ∧ kC m0 n (tS tlt b n j) bg ft out wait cl k dp br ex wh m') ∨ (tix (tw b bg (tS tlt b n j)) tw1003 = none ∧ r.toInt = -1 ∧ kC m0 n p bg ft out wait cl k dp br ex wh m')) := by
  have fin : ∀ {j : Nat} {v2 : Int32} {m : xS}, kC m0 n p bg ft out wait cl k dp br ex wh m → v2.toInt = (j : Int) → bg ≤ j → j ≤ n → xP (D59_2_1003_44 F v2 m) (fun r m' => (∃ u, tix (tw b bg j) tw1003 = some u ∧ r.toInt = (u : Int) ∧ kC m0 n j bg ft out wait cl k dp br ex wh m') ∨ (tix (tw b bg j) tw1003 = none ∧ r.toInt = -1 ∧ kC m0 n p bg ft out wait cl k dp br ex wh m')) := by
    intro j v2 m h h2 l1 l2
    unfold D59_2_1003_44
    have z := P59_55_1003 (F := F) (b := b) (e := j) N l2 F (i := 0) (num := 0) (a := some bg) (v2 := v2) (v3 := 0) (v4 := m.1 2 3) (v5 := 0) h (by omega) (by omega) rfl h2 rfl (Nat.le_refl _) h.2.2.2.1 l1
    rw [List.drop_zero, tpw_ws l1 tw1003 0 tb1003, show (fun x : Nat => x + 0) = id from funext (fun _ => rfl), Option.map_id] at z
    exact z
  intro f
  induction f with
  | zero => intro j v2 m _ _ _ _ l; omega
  | succ f ih =>
    intro j v2 m h h2 l1 l2 l3
    obtain ⟨k1, k2⟩ := kC_n N h
    have n4 := N.2.1
    unfold D59_2_1003_18
    refine xP_i (fun c => ?_) (fun c => ?_)
    · have c : (m.1 2 1).toInt ≤ v2.toInt := zt c
      rw [tS_f (fun z => by omega)]
      exact fin h h2 l1 l2
    · have c : ¬ (m.1 2 1).toInt ≤ v2.toInt := zf c
      refine xP_g (xib_t (by omega) (by omega)) ?_
      refine xP_b P57 (fun r mx q => ?_)
      obtain ⟨rfl, q⟩ := q
      have ej : v2.toNatClampNeg = j := by show v2.toInt.toNat = j; omega
      rw [ej, k2 j (by omega)] at q
      dsimp only
      refine xP_i (fun d => ?_) (fun d => ?_)
      · have q : tlt (b j) = false := by
          rcases q with q | q
          · rw [q.1] at d
            cases d
          · exact q.2
        rw [tS_f (fun z => by rw [q] at z; cases z.2)]
        exact fin h h2 l1 l2
      · have q : tlt (b j) = true := by
          rcases q with q | q
          · exact q.2
          · rw [q.1] at d
            cases d
        rw [tS_t (P := tlt) (show j < n by omega) q]
        exact ih h (xinc h2 (by omega)) (by omega) (by omega) (by omega)
theorem P59_1003 (hF : 500 ≤ F) (N : kN m0 b n) (h : kC m0 n p bg ft out wait cl k dp br ex wh m) : xP (D59_2_1003 F m) (fun r m' => (∃ u, tix (tw b (tS tbl b n p) (tS tlt b n (tS tbl b n p))) tw1003 = some u ∧ r.toInt = (u : Int) ∧ kC m0 n (tS tlt b n (tS tbl b n p)) (tS tbl b n p) ft out wait cl k dp br ex wh m') ∨ (tix (tw b (tS tbl b n p) (tS tlt b n (tS tbl b n p))) tw1003 = none ∧ r.toInt = -1 ∧ kC m0 n (tS tbl b n p) (tS tbl b n p) ft out wait cl k dp br ex wh m')) := by
  have n4 := N.2.1
  unfold D59_2_1003
  refine xP_b (P53 hF N h) (fun v m1 q => ?_)
  obtain ⟨q, -⟩ := q
  have l1 : tS tbl b n p ≤ n := q.2.2.1.2
  dsimp only
  exact P59_18_1003 hF N l1 F (kC_bg q q.2.2.1.1 (by omega)) q.2.2.1.1 (Nat.le_refl _) l1 (by omega)
def tw1004 : List (List Int) := tWds
theorem tl1004 : (tfl tw1004).length = 66 := by decide
theorem tb1004 : ∀ w ∈ tw1004, ∀ c ∈ w, c ≠ (32 : Int) := by decide
theorem zsx1004 : (List.range 66).all (fun i => (vp_nar .char (zsX 23 i) == zsX 23 i) && (zsX 23 i).toInt == (tfl tw1004).getD i 0) = true := by decide +kernel
theorem P281_1004 : xP (D281_1004 F m) (fun v m' => m' = m ∧ v.toInt = 66) := by
  unfold D281_1004
  refine xP_b (R := fun v m' => m' = m ∧ v = 0) ?_ (fun v m' q => ?_)
  · unfold D283_1004
    exact xP_i (fun c => absurd c (by decide)) (fun _ => xP_r ⟨rfl, rfl⟩)
  · obtain ⟨rfl, rfl⟩ := q
    exact xP_r ⟨rfl, by show (Int32.ofNat 66 >>> ((0 : Int32) &&& 31)).toInt = 66; decide⟩
theorem P282_1004 {v : Int32} {i : Nat} (hv : v.toInt = (i : Int)) (l : i < 66) : xP (D282_1004 F v m) (fun r m' => m' = m ∧ r.toInt = (tfl tw1004).getD i 0) := by
  have z := List.all_eq_true.mp zsx1004 i (List.mem_range.mpr l)
  simp only [Bool.and_eq_true] at z
  have z2 := eq_of_beq z.2
  have ei : v.toNatClampNeg = i := by show v.toInt.toNat = i; omega
  unfold D282_1004
  refine xP_b (R := fun v m' => m' = m ∧ v = 1) ?_ (fun v1 m' q => ?_)
  · unfold D284_1004
    exact xP_i (fun c => absurd c (by decide)) (fun _ => xP_i (fun c => absurd c (by decide)) (fun _ => xP_r ⟨rfl, rfl⟩))
  · obtain ⟨rfl, rfl⟩ := q
    refine xP_i (fun c => absurd (show zcmp .eq (1 : Int32) 0 = true from c) (by decide)) (fun _ => ?_)
    refine xP_b (R := fun v2 m2 => m2 = m' ∧ v2 = zsX 23 i) ?_ (fun v2 m2 q => ?_)
    · unfold D286_1023
      refine xP_b (P285 (by omega) (by show _ < (66 : Int); omega)) (fun _ m3 q => ?_)
      subst q
      refine xP_g (xib_t (by omega) (by omega)) ?_
      dsimp only
      rw [ei]
      exact xP_g z.1 (xP_r ⟨rfl, rfl⟩)
    · obtain ⟨rfl, rfl⟩ := q
      exact xP_g z.1 (xP_r ⟨rfl, z2⟩)
theorem P59_55_1004 {e : Nat} (N : kN m0 b n) (he : e ≤ n) : ∀ (f : Nat) {i num : Nat} {a : Option Nat} {v2 v3 v4 v5 : Int32} {m : xS}, kC m0 n p bg ft out wait cl k dp br ex wh m → i ≤ 66 → 66 - i < f → v5.toInt = (i : Int) → v2.toInt = (e : Int) → v3.toInt = (num : Int) → num ≤ i → tat a v4.toInt → bg ≤ e → xP (D59_2_1004_55 F f v2 v3 v4 v5 m) (fun r m' => (∃ u, tpw b e bg ((tfl tw1004).drop i) a num = some u ∧ r.toInt = (u : Int) ∧ kC m0 n e bg ft out wait cl k dp br ex wh m') ∨ (tpw b e bg ((tfl tw1004).drop i) a num = none ∧ r.toInt = -1 ∧ kC m0 n p bg ft out wait cl k dp br ex wh m')) := by
  intro f
  induction f with
  | zero => intro i num a v2 v3 v4 v5 m _ _ l; omega
  | succ f ih =>
    intro i num a v2 v3 v4 v5 m h l1 l2 h5 h2 h3 l3 ha hb
    obtain ⟨k1, k2⟩ := kC_n N h
    have n4 := N.2.1
    have h4 := h.2.2.2.1
    unfold D59_2_1004_55
    refine xP_b P281_1004 (fun w0 mx q => ?_)
    obtain ⟨rfl, q⟩ := q
    dsimp only
    refine xP_i (fun c => ?_) (fun c => ?_)
    · have c : w0.toInt ≤ v5.toInt := zt c
      refine xP_r (Or.inr ⟨?_, by decide, h⟩)
      rw [List.drop_eq_nil_of_le (by rw [tl1004]; omega)]
      rfl
    · have c : ¬ w0.toInt ≤ v5.toInt := zf c
      have li : i < 66 := by omega
      have hd : (tfl tw1004).drop i = (tfl tw1004).getD i 0 :: (tfl tw1004).drop (i + 1) := by
        have l4 : i < (tfl tw1004).length := by rw [tl1004]; exact li
        rw [List.drop_eq_getElem_cons l4, List.getD_eq_getElem?_getD, List.getElem?_eq_getElem l4]
        rfl
      have i5 : (v5 + Int32.ofInt 1).toInt = ((i + 1 : Nat) : Int) := xinc h5 (by omega)
      refine xP_b (P282_1004 h5 li) (fun r1 mx q1 => ?_)
      obtain ⟨rfl, q1⟩ := q1
      dsimp only
      rw [hd]
      generalize hc0 : (tfl tw1004).getD i 0 = c0 at q1 ⊢
      have nx : ∀ {a' : Option Nat} {num' : Nat} {v3' v4' : Int32}, v3'.toInt = (num' : Int) → num' ≤ i + 1 → tat a' v4'.toInt → tpw b e bg (c0 :: (tfl tw1004).drop (i + 1)) a num = tpw b e bg ((tfl tw1004).drop (i + 1)) a' num' → xP (D59_2_1004_55 F f v2 v3' v4' (v5 + Int32.ofInt 1) mx) (fun r m' => (∃ u, tpw b e bg (c0 :: (tfl tw1004).drop (i + 1)) a num = some u ∧ r.toInt = (u : Int) ∧ kC m0 n e bg ft out wait cl k dp br ex wh m') ∨ (tpw b e bg (c0 :: (tfl tw1004).drop (i + 1)) a num = none ∧ r.toInt = -1 ∧ kC m0 n p bg ft out wait cl k dp br ex wh m')) := fun e3 l6 e4 eq => by
        rw [eq]
        exact ih h (by omega) (by omega) i5 h2 e3 l6 e4 hb
      refine xP_i (fun d => ?_) (fun d => ?_)
      · have d : r1.toInt = 32 := zt d
        have d0 : c0 = 32 := by omega
        refine xP_i (fun g => ?_) (fun g => ?_)
        · have g : v4.toInt ≠ v2.toInt := zt g
          unfold D59_2_1004_138
          refine nx (a' := some bg) (num' := num + 1) (xinc h3 (by omega)) (by omega) h4 ?_
          show (if c0 = 32 then (if a = some e then some num else _) else _) = _
          rw [if_pos d0, if_neg (fun z => by rw [z] at ha; have ha : v4.toInt = (e : Int) := ha; omega)]
        · have g : v4.toInt = v2.toInt := Decidable.not_not.mp (zf g)
          refine xP_r (Or.inl ⟨num, ?_, h3, kC_p h h2 N.2.1 he⟩)
          show (if c0 = 32 then (if a = some e then some num else _) else _) = _
          rw [if_pos d0, if_pos]
          cases a with
          | none =>
            have ha : v4.toInt = -1 := ha
            omega
          | some x =>
            have ha : v4.toInt = (x : Int) := ha
            rw [show x = e by omega]
      · have d : r1.toInt ≠ 32 := zf d
        have d0 : ¬ c0 = 32 := by omega
        have st : ∀ {a' : Option Nat}, tnx b e c0 a = a' → tpw b e bg (c0 :: (tfl tw1004).drop (i + 1)) a num = tpw b e bg ((tfl tw1004).drop (i + 1)) a' num := fun z => by
          show (if c0 = 32 then _ else tpw b e bg _ (tnx b e c0 a) num) = _
          rw [if_neg d0, z]
        have no : tnx b e c0 a = none → xP (D59_2_1004_110 F (D59_2_1004_55 F f) v2 v3 v4 v5 mx) (fun r m' => (∃ u, tpw b e bg (c0 :: (tfl tw1004).drop (i + 1)) a num = some u ∧ r.toInt = (u : Int) ∧ kC m0 n e bg ft out wait cl k dp br ex wh m') ∨ (tpw b e bg (c0 :: (tfl tw1004).drop (i + 1)) a num = none ∧ r.toInt = -1 ∧ kC m0 n p bg ft out wait cl k dp br ex wh m')) := fun z => by
          unfold D59_2_1004_110 D59_2_1004_111 D59_2_1004_138
          exact nx (a' := none) h3 (by omega) (by show (-1 : Int32).toInt = -1; decide) (st z)
        refine xP_i (fun g => ?_) (fun g => ?_)
        · have g : v4.toInt = -1 := zt g
          refine no ?_
          cases a with
          | none => rfl
          | some x =>
            have ha : v4.toInt = (x : Int) := ha
            omega
        · have g : v4.toInt ≠ -1 := zf g
          cases a with
          | none =>
            have ha : v4.toInt = -1 := ha
            omega
          | some x =>
            have ha : v4.toInt = (x : Int) := ha
            refine xP_i (fun g2 => ?_) (fun g2 => ?_)
            · have g2 : v2.toInt ≤ v4.toInt := zt g2
              exact no (if_neg (fun z => by omega))
            · have g2 : ¬ v2.toInt ≤ v4.toInt := zf g2
              refine xP_g (xib_t (by omega) (by omega)) ?_
              refine xP_b (P282_1004 h5 li) (fun r2 mx q2 => ?_)
              obtain ⟨rfl, q2⟩ := q2
              dsimp only
              have ex4 : v4.toNatClampNeg = x := by show v4.toInt.toNat = x; omega
              rw [ex4]
              have kx := k2 x (by omega)
              have q3 : r2.toInt = c0 := q2.trans hc0
              refine xP_i (fun g3 => ?_) (fun g3 => ?_)
              · have g3 : (mx.1 1 x).toInt ≠ r2.toInt := zt g3
                exact no (if_neg (fun z => by omega))
              · have g3 : (mx.1 1 x).toInt = r2.toInt := Decidable.not_not.mp (zf g3)
                unfold D59_2_1004_111 D59_2_1004_138
                exact nx (a' := some (x + 1)) h3 (by omega) ((xa1 (by show _ ≤ _ + (1 : Int); omega) (by show _ + (1 : Int) ≤ _; omega)).trans (by rw [ha]; rfl)) (st (if_pos ⟨by omega, by omega⟩))
theorem P59_18_1004 (hF : 500 ≤ F) (N : kN m0 b n) (hb : bg ≤ n) : ∀ (f : Nat) {j : Nat} {v2 : Int32} {m : xS}, kC m0 n p bg ft out wait cl k dp br ex wh m → v2.toInt = (j : Int) → bg ≤ j → j ≤ n → n - j < f → xP (D59_2_1004_18 F f v2 m) (fun r m' => (∃ u, tix (tw b bg (tS tlt b n j)) tw1004 = some u ∧ r.toInt = (u : Int) ∧ kC m0 n (tS tlt b n j) bg ft out wait cl k dp br ex wh m') ∨ (tix (tw b bg (tS tlt b n j)) tw1004 = none ∧ r.toInt = -1 ∧ kC m0 n p bg ft out wait cl k dp br ex wh m')) := by
  have fin : ∀ {j : Nat} {v2 : Int32} {m : xS}, kC m0 n p bg ft out wait cl k dp br ex wh m → v2.toInt = (j : Int) → bg ≤ j → j ≤ n → xP (D59_2_1004_44 F v2 m) (fun r m' => (∃ u, tix (tw b bg j) tw1004 = some u ∧ r.toInt = (u : Int) ∧ kC m0 n j bg ft out wait cl k dp br ex wh m') ∨ (tix (tw b bg j) tw1004 = none ∧ r.toInt = -1 ∧ kC m0 n p bg ft out wait cl k dp br ex wh m')) := by
    intro j v2 m h h2 l1 l2
    unfold D59_2_1004_44
    have z := P59_55_1004 (F := F) (b := b) (e := j) N l2 F (i := 0) (num := 0) (a := some bg) (v2 := v2) (v3 := 0) (v4 := m.1 2 3) (v5 := 0) h (by omega) (by omega) rfl h2 rfl (Nat.le_refl _) h.2.2.2.1 l1
    rw [List.drop_zero, tpw_ws l1 tw1004 0 tb1004, show (fun x : Nat => x + 0) = id from funext (fun _ => rfl), Option.map_id] at z
    exact z
  intro f
  induction f with
  | zero => intro j v2 m _ _ _ _ l; omega
  | succ f ih =>
    intro j v2 m h h2 l1 l2 l3
    obtain ⟨k1, k2⟩ := kC_n N h
    have n4 := N.2.1
    unfold D59_2_1004_18
    refine xP_i (fun c => ?_) (fun c => ?_)
    · have c : (m.1 2 1).toInt ≤ v2.toInt := zt c
      rw [tS_f (fun z => by omega)]
      exact fin h h2 l1 l2
    · have c : ¬ (m.1 2 1).toInt ≤ v2.toInt := zf c
      refine xP_g (xib_t (by omega) (by omega)) ?_
      refine xP_b P57 (fun r mx q => ?_)
      obtain ⟨rfl, q⟩ := q
      have ej : v2.toNatClampNeg = j := by show v2.toInt.toNat = j; omega
      rw [ej, k2 j (by omega)] at q
      dsimp only
      refine xP_i (fun d => ?_) (fun d => ?_)
      · have q : tlt (b j) = false := by
          rcases q with q | q
          · rw [q.1] at d
            cases d
          · exact q.2
        rw [tS_f (fun z => by rw [q] at z; cases z.2)]
        exact fin h h2 l1 l2
      · have q : tlt (b j) = true := by
          rcases q with q | q
          · exact q.2
          · rw [q.1] at d
            cases d
        rw [tS_t (P := tlt) (show j < n by omega) q]
        exact ih h (xinc h2 (by omega)) (by omega) (by omega) (by omega)
theorem P59_1004 (hF : 500 ≤ F) (N : kN m0 b n) (h : kC m0 n p bg ft out wait cl k dp br ex wh m) : xP (D59_2_1004 F m) (fun r m' => (∃ u, tix (tw b (tS tbl b n p) (tS tlt b n (tS tbl b n p))) tw1004 = some u ∧ r.toInt = (u : Int) ∧ kC m0 n (tS tlt b n (tS tbl b n p)) (tS tbl b n p) ft out wait cl k dp br ex wh m') ∨ (tix (tw b (tS tbl b n p) (tS tlt b n (tS tbl b n p))) tw1004 = none ∧ r.toInt = -1 ∧ kC m0 n (tS tbl b n p) (tS tbl b n p) ft out wait cl k dp br ex wh m')) := by
  have n4 := N.2.1
  unfold D59_2_1004
  refine xP_b (P53 hF N h) (fun v m1 q => ?_)
  obtain ⟨q, -⟩ := q
  have l1 : tS tbl b n p ≤ n := q.2.2.1.2
  dsimp only
  exact P59_18_1004 hF N l1 F (kC_bg q q.2.2.1.1 (by omega)) q.2.2.1.1 (Nat.le_refl _) l1 (by omega)
theorem P60_1004 (hF : 500 ≤ F) (N : kN m0 b n) (h : kC m0 n p bg ft out wait cl k dp br ex wh m) : xP (D60_2_1004 F m) (fun r m' => (∃ u, tix (tw b (tS tbl b n p) (tS tlt b n (tS tbl b n p))) tw1004 = some u ∧ r.toInt = (u : Int) ∧ kC m0 n (tS tlt b n (tS tbl b n p)) (tS tbl b n p) ft out wait cl k dp br ex wh m') ∨ (tix (tw b (tS tbl b n p) (tS tlt b n (tS tbl b n p))) tw1004 = none ∧ r.toInt = -1 ∧ kC m0 n (tS tbl b n p) (tS tbl b n p) (trf ft (1 + 8 * (tS tbl b n p : Int))) out wait cl k dp br ex wh m')) := by
  have n4 := N.2.1
  have l2 := h.2.2.1.2
  unfold D60_2_1004 D60_2_1004_20
  refine xP_b (P59_1004 hF N h) (fun v m1 q => ?_)
  dsimp only
  refine xP_i (fun c => ?_) (fun c => ?_)
  · have c : v.toInt ≠ -1 := zt c
    rcases q with q | q
    · exact xP_r (Or.inl q)
    · exact absurd q.2.1 c
  · have c : v.toInt = -1 := Decidable.not_not.mp (zf c)
    rcases q with ⟨u, -, q, -⟩ | ⟨q1, q2, q3⟩
    · omega
    · have b3 := q3.2.2.2.1
      have l1 : tS tbl b n p ≤ n := q3.2.2.1.2
      refine xP_b (P52 q3 (by omega) (by omega) (by decide) (by decide)) (fun _ m2 q4 => xP_r (Or.inr ⟨q1, q2, ?_⟩))
      rw [b3, show (1 + 8 * ((tS tbl b n p : Nat) : Int) + (0 : Int32).toInt) = 1 + 8 * ((tS tbl b n p : Nat) : Int) from Int.add_zero _] at q4
      exact q4
def tw1005 : List (List Int) := [tIf]
theorem tl1005 : (tfl tw1005).length = 3 := by decide
theorem tb1005 : ∀ w ∈ tw1005, ∀ c ∈ w, c ≠ (32 : Int) := by decide
theorem zsx1005 : (List.range 3).all (fun i => (vp_nar .char (zsX 24 i) == zsX 24 i) && (zsX 24 i).toInt == (tfl tw1005).getD i 0) = true := by decide +kernel
theorem P281_1005 : xP (D281_1005 F m) (fun v m' => m' = m ∧ v.toInt = 3) := by
  unfold D281_1005
  refine xP_b (R := fun v m' => m' = m ∧ v = 0) ?_ (fun v m' q => ?_)
  · unfold D283_1005
    exact xP_i (fun c => absurd c (by decide)) (fun _ => xP_r ⟨rfl, rfl⟩)
  · obtain ⟨rfl, rfl⟩ := q
    exact xP_r ⟨rfl, by show (Int32.ofNat 3 >>> ((0 : Int32) &&& 31)).toInt = 3; decide⟩
theorem P282_1005 {v : Int32} {i : Nat} (hv : v.toInt = (i : Int)) (l : i < 3) : xP (D282_1005 F v m) (fun r m' => m' = m ∧ r.toInt = (tfl tw1005).getD i 0) := by
  have z := List.all_eq_true.mp zsx1005 i (List.mem_range.mpr l)
  simp only [Bool.and_eq_true] at z
  have z2 := eq_of_beq z.2
  have ei : v.toNatClampNeg = i := by show v.toInt.toNat = i; omega
  unfold D282_1005
  refine xP_b (R := fun v m' => m' = m ∧ v = 1) ?_ (fun v1 m' q => ?_)
  · unfold D284_1005
    exact xP_i (fun c => absurd c (by decide)) (fun _ => xP_i (fun c => absurd c (by decide)) (fun _ => xP_r ⟨rfl, rfl⟩))
  · obtain ⟨rfl, rfl⟩ := q
    refine xP_i (fun c => absurd (show zcmp .eq (1 : Int32) 0 = true from c) (by decide)) (fun _ => ?_)
    refine xP_b (R := fun v2 m2 => m2 = m' ∧ v2 = zsX 24 i) ?_ (fun v2 m2 q => ?_)
    · unfold D286_1024
      refine xP_b (P285 (by omega) (by show _ < (3 : Int); omega)) (fun _ m3 q => ?_)
      subst q
      refine xP_g (xib_t (by omega) (by omega)) ?_
      dsimp only
      rw [ei]
      exact xP_g z.1 (xP_r ⟨rfl, rfl⟩)
    · obtain ⟨rfl, rfl⟩ := q
      exact xP_g z.1 (xP_r ⟨rfl, z2⟩)
theorem P59_55_1005 {e : Nat} (N : kN m0 b n) (he : e ≤ n) : ∀ (f : Nat) {i num : Nat} {a : Option Nat} {v2 v3 v4 v5 : Int32} {m : xS}, kC m0 n p bg ft out wait cl k dp br ex wh m → i ≤ 3 → 3 - i < f → v5.toInt = (i : Int) → v2.toInt = (e : Int) → v3.toInt = (num : Int) → num ≤ i → tat a v4.toInt → bg ≤ e → xP (D59_2_1005_55 F f v2 v3 v4 v5 m) (fun r m' => (∃ u, tpw b e bg ((tfl tw1005).drop i) a num = some u ∧ r.toInt = (u : Int) ∧ kC m0 n e bg ft out wait cl k dp br ex wh m') ∨ (tpw b e bg ((tfl tw1005).drop i) a num = none ∧ r.toInt = -1 ∧ kC m0 n p bg ft out wait cl k dp br ex wh m')) := by
  intro f
  induction f with
  | zero => intro i num a v2 v3 v4 v5 m _ _ l; omega
  | succ f ih =>
    intro i num a v2 v3 v4 v5 m h l1 l2 h5 h2 h3 l3 ha hb
    obtain ⟨k1, k2⟩ := kC_n N h
    have n4 := N.2.1
    have h4 := h.2.2.2.1
    unfold D59_2_1005_55
    refine xP_b P281_1005 (fun w0 mx q => ?_)
    obtain ⟨rfl, q⟩ := q
    dsimp only
    refine xP_i (fun c => ?_) (fun c => ?_)
    · have c : w0.toInt ≤ v5.toInt := zt c
      refine xP_r (Or.inr ⟨?_, by decide, h⟩)
      rw [List.drop_eq_nil_of_le (by rw [tl1005]; omega)]
      rfl
    · have c : ¬ w0.toInt ≤ v5.toInt := zf c
      have li : i < 3 := by omega
      have hd : (tfl tw1005).drop i = (tfl tw1005).getD i 0 :: (tfl tw1005).drop (i + 1) := by
        have l4 : i < (tfl tw1005).length := by rw [tl1005]; exact li
        rw [List.drop_eq_getElem_cons l4, List.getD_eq_getElem?_getD, List.getElem?_eq_getElem l4]
        rfl
      have i5 : (v5 + Int32.ofInt 1).toInt = ((i + 1 : Nat) : Int) := xinc h5 (by omega)
      refine xP_b (P282_1005 h5 li) (fun r1 mx q1 => ?_)
      obtain ⟨rfl, q1⟩ := q1
      dsimp only
      rw [hd]
      generalize hc0 : (tfl tw1005).getD i 0 = c0 at q1 ⊢
      have nx : ∀ {a' : Option Nat} {num' : Nat} {v3' v4' : Int32}, v3'.toInt = (num' : Int) → num' ≤ i + 1 → tat a' v4'.toInt → tpw b e bg (c0 :: (tfl tw1005).drop (i + 1)) a num = tpw b e bg ((tfl tw1005).drop (i + 1)) a' num' → xP (D59_2_1005_55 F f v2 v3' v4' (v5 + Int32.ofInt 1) mx) (fun r m' => (∃ u, tpw b e bg (c0 :: (tfl tw1005).drop (i + 1)) a num = some u ∧ r.toInt = (u : Int) ∧ kC m0 n e bg ft out wait cl k dp br ex wh m') ∨ (tpw b e bg (c0 :: (tfl tw1005).drop (i + 1)) a num = none ∧ r.toInt = -1 ∧ kC m0 n p bg ft out wait cl k dp br ex wh m')) := fun e3 l6 e4 eq => by
        rw [eq]
        exact ih h (by omega) (by omega) i5 h2 e3 l6 e4 hb
      refine xP_i (fun d => ?_) (fun d => ?_)
      · have d : r1.toInt = 32 := zt d
        have d0 : c0 = 32 := by omega
        refine xP_i (fun g => ?_) (fun g => ?_)
        · have g : v4.toInt ≠ v2.toInt := zt g
          unfold D59_2_1005_138
          refine nx (a' := some bg) (num' := num + 1) (xinc h3 (by omega)) (by omega) h4 ?_
          show (if c0 = 32 then (if a = some e then some num else _) else _) = _
          rw [if_pos d0, if_neg (fun z => by rw [z] at ha; have ha : v4.toInt = (e : Int) := ha; omega)]
        · have g : v4.toInt = v2.toInt := Decidable.not_not.mp (zf g)
          refine xP_r (Or.inl ⟨num, ?_, h3, kC_p h h2 N.2.1 he⟩)
          show (if c0 = 32 then (if a = some e then some num else _) else _) = _
          rw [if_pos d0, if_pos]
          cases a with
          | none =>
            have ha : v4.toInt = -1 := ha
            omega
          | some x =>
            have ha : v4.toInt = (x : Int) := ha
            rw [show x = e by omega]
      · have d : r1.toInt ≠ 32 := zf d
        have d0 : ¬ c0 = 32 := by omega
        have st : ∀ {a' : Option Nat}, tnx b e c0 a = a' → tpw b e bg (c0 :: (tfl tw1005).drop (i + 1)) a num = tpw b e bg ((tfl tw1005).drop (i + 1)) a' num := fun z => by
          show (if c0 = 32 then _ else tpw b e bg _ (tnx b e c0 a) num) = _
          rw [if_neg d0, z]
        have no : tnx b e c0 a = none → xP (D59_2_1005_110 F (D59_2_1005_55 F f) v2 v3 v4 v5 mx) (fun r m' => (∃ u, tpw b e bg (c0 :: (tfl tw1005).drop (i + 1)) a num = some u ∧ r.toInt = (u : Int) ∧ kC m0 n e bg ft out wait cl k dp br ex wh m') ∨ (tpw b e bg (c0 :: (tfl tw1005).drop (i + 1)) a num = none ∧ r.toInt = -1 ∧ kC m0 n p bg ft out wait cl k dp br ex wh m')) := fun z => by
          unfold D59_2_1005_110 D59_2_1005_111 D59_2_1005_138
          exact nx (a' := none) h3 (by omega) (by show (-1 : Int32).toInt = -1; decide) (st z)
        refine xP_i (fun g => ?_) (fun g => ?_)
        · have g : v4.toInt = -1 := zt g
          refine no ?_
          cases a with
          | none => rfl
          | some x =>
            have ha : v4.toInt = (x : Int) := ha
            omega
        · have g : v4.toInt ≠ -1 := zf g
          cases a with
          | none =>
            have ha : v4.toInt = -1 := ha
            omega
          | some x =>
            have ha : v4.toInt = (x : Int) := ha
            refine xP_i (fun g2 => ?_) (fun g2 => ?_)
            · have g2 : v2.toInt ≤ v4.toInt := zt g2
              exact no (if_neg (fun z => by omega))
            · have g2 : ¬ v2.toInt ≤ v4.toInt := zf g2
              refine xP_g (xib_t (by omega) (by omega)) ?_
              refine xP_b (P282_1005 h5 li) (fun r2 mx q2 => ?_)
              obtain ⟨rfl, q2⟩ := q2
              dsimp only
              have ex4 : v4.toNatClampNeg = x := by show v4.toInt.toNat = x; omega
              rw [ex4]
              have kx := k2 x (by omega)
              have q3 : r2.toInt = c0 := q2.trans hc0
              refine xP_i (fun g3 => ?_) (fun g3 => ?_)
              · have g3 : (mx.1 1 x).toInt ≠ r2.toInt := zt g3
                exact no (if_neg (fun z => by omega))
              · have g3 : (mx.1 1 x).toInt = r2.toInt := Decidable.not_not.mp (zf g3)
                unfold D59_2_1005_111 D59_2_1005_138
                exact nx (a' := some (x + 1)) h3 (by omega) ((xa1 (by show _ ≤ _ + (1 : Int); omega) (by show _ + (1 : Int) ≤ _; omega)).trans (by rw [ha]; rfl)) (st (if_pos ⟨by omega, by omega⟩))
theorem P59_18_1005 (hF : 500 ≤ F) (N : kN m0 b n) (hb : bg ≤ n) : ∀ (f : Nat) {j : Nat} {v2 : Int32} {m : xS}, kC m0 n p bg ft out wait cl k dp br ex wh m → v2.toInt = (j : Int) → bg ≤ j → j ≤ n → n - j < f → xP (D59_2_1005_18 F f v2 m) (fun r m' => (∃ u, tix (tw b bg (tS tlt b n j)) tw1005 = some u ∧ r.toInt = (u : Int) ∧ kC m0 n (tS tlt b n j) bg ft out wait cl k dp br ex wh m') ∨ (tix (tw b bg (tS tlt b n j)) tw1005 = none ∧ r.toInt = -1 ∧ kC m0 n p bg ft out wait cl k dp br ex wh m')) := by
  have fin : ∀ {j : Nat} {v2 : Int32} {m : xS}, kC m0 n p bg ft out wait cl k dp br ex wh m → v2.toInt = (j : Int) → bg ≤ j → j ≤ n → xP (D59_2_1005_44 F v2 m) (fun r m' => (∃ u, tix (tw b bg j) tw1005 = some u ∧ r.toInt = (u : Int) ∧ kC m0 n j bg ft out wait cl k dp br ex wh m') ∨ (tix (tw b bg j) tw1005 = none ∧ r.toInt = -1 ∧ kC m0 n p bg ft out wait cl k dp br ex wh m')) := by
    intro j v2 m h h2 l1 l2
    unfold D59_2_1005_44
    have z := P59_55_1005 (F := F) (b := b) (e := j) N l2 F (i := 0) (num := 0) (a := some bg) (v2 := v2) (v3 := 0) (v4 := m.1 2 3) (v5 := 0) h (by omega) (by omega) rfl h2 rfl (Nat.le_refl _) h.2.2.2.1 l1
    rw [List.drop_zero, tpw_ws l1 tw1005 0 tb1005, show (fun x : Nat => x + 0) = id from funext (fun _ => rfl), Option.map_id] at z
    exact z
  intro f
  induction f with
  | zero => intro j v2 m _ _ _ _ l; omega
  | succ f ih =>
    intro j v2 m h h2 l1 l2 l3
    obtain ⟨k1, k2⟩ := kC_n N h
    have n4 := N.2.1
    unfold D59_2_1005_18
    refine xP_i (fun c => ?_) (fun c => ?_)
    · have c : (m.1 2 1).toInt ≤ v2.toInt := zt c
      rw [tS_f (fun z => by omega)]
      exact fin h h2 l1 l2
    · have c : ¬ (m.1 2 1).toInt ≤ v2.toInt := zf c
      refine xP_g (xib_t (by omega) (by omega)) ?_
      refine xP_b P57 (fun r mx q => ?_)
      obtain ⟨rfl, q⟩ := q
      have ej : v2.toNatClampNeg = j := by show v2.toInt.toNat = j; omega
      rw [ej, k2 j (by omega)] at q
      dsimp only
      refine xP_i (fun d => ?_) (fun d => ?_)
      · have q : tlt (b j) = false := by
          rcases q with q | q
          · rw [q.1] at d
            cases d
          · exact q.2
        rw [tS_f (fun z => by rw [q] at z; cases z.2)]
        exact fin h h2 l1 l2
      · have q : tlt (b j) = true := by
          rcases q with q | q
          · exact q.2
          · rw [q.1] at d
            cases d
        rw [tS_t (P := tlt) (show j < n by omega) q]
        exact ih h (xinc h2 (by omega)) (by omega) (by omega) (by omega)
theorem P59_1005 (hF : 500 ≤ F) (N : kN m0 b n) (h : kC m0 n p bg ft out wait cl k dp br ex wh m) : xP (D59_2_1005 F m) (fun r m' => (∃ u, tix (tw b (tS tbl b n p) (tS tlt b n (tS tbl b n p))) tw1005 = some u ∧ r.toInt = (u : Int) ∧ kC m0 n (tS tlt b n (tS tbl b n p)) (tS tbl b n p) ft out wait cl k dp br ex wh m') ∨ (tix (tw b (tS tbl b n p) (tS tlt b n (tS tbl b n p))) tw1005 = none ∧ r.toInt = -1 ∧ kC m0 n (tS tbl b n p) (tS tbl b n p) ft out wait cl k dp br ex wh m')) := by
  have n4 := N.2.1
  unfold D59_2_1005
  refine xP_b (P53 hF N h) (fun v m1 q => ?_)
  obtain ⟨q, -⟩ := q
  have l1 : tS tbl b n p ≤ n := q.2.2.1.2
  dsimp only
  exact P59_18_1005 hF N l1 F (kC_bg q q.2.2.1.1 (by omega)) q.2.2.1.1 (Nat.le_refl _) l1 (by omega)
def tw1006 : List (List Int) := [tAnd, tOr]
theorem tl1006 : (tfl tw1006).length = 7 := by decide
theorem tb1006 : ∀ w ∈ tw1006, ∀ c ∈ w, c ≠ (32 : Int) := by decide
theorem zsx1006 : (List.range 7).all (fun i => (vp_nar .char (zsX 25 i) == zsX 25 i) && (zsX 25 i).toInt == (tfl tw1006).getD i 0) = true := by decide +kernel
theorem P281_1006 : xP (D281_1006 F m) (fun v m' => m' = m ∧ v.toInt = 7) := by
  unfold D281_1006
  refine xP_b (R := fun v m' => m' = m ∧ v = 0) ?_ (fun v m' q => ?_)
  · unfold D283_1006
    exact xP_i (fun c => absurd c (by decide)) (fun _ => xP_r ⟨rfl, rfl⟩)
  · obtain ⟨rfl, rfl⟩ := q
    exact xP_r ⟨rfl, by show (Int32.ofNat 7 >>> ((0 : Int32) &&& 31)).toInt = 7; decide⟩
theorem P282_1006 {v : Int32} {i : Nat} (hv : v.toInt = (i : Int)) (l : i < 7) : xP (D282_1006 F v m) (fun r m' => m' = m ∧ r.toInt = (tfl tw1006).getD i 0) := by
  have z := List.all_eq_true.mp zsx1006 i (List.mem_range.mpr l)
  simp only [Bool.and_eq_true] at z
  have z2 := eq_of_beq z.2
  have ei : v.toNatClampNeg = i := by show v.toInt.toNat = i; omega
  unfold D282_1006
  refine xP_b (R := fun v m' => m' = m ∧ v = 1) ?_ (fun v1 m' q => ?_)
  · unfold D284_1006
    exact xP_i (fun c => absurd c (by decide)) (fun _ => xP_i (fun c => absurd c (by decide)) (fun _ => xP_r ⟨rfl, rfl⟩))
  · obtain ⟨rfl, rfl⟩ := q
    refine xP_i (fun c => absurd (show zcmp .eq (1 : Int32) 0 = true from c) (by decide)) (fun _ => ?_)
    refine xP_b (R := fun v2 m2 => m2 = m' ∧ v2 = zsX 25 i) ?_ (fun v2 m2 q => ?_)
    · unfold D286_1025
      refine xP_b (P285 (by omega) (by show _ < (7 : Int); omega)) (fun _ m3 q => ?_)
      subst q
      refine xP_g (xib_t (by omega) (by omega)) ?_
      dsimp only
      rw [ei]
      exact xP_g z.1 (xP_r ⟨rfl, rfl⟩)
    · obtain ⟨rfl, rfl⟩ := q
      exact xP_g z.1 (xP_r ⟨rfl, z2⟩)
theorem P59_55_1006 {e : Nat} (N : kN m0 b n) (he : e ≤ n) : ∀ (f : Nat) {i num : Nat} {a : Option Nat} {v2 v3 v4 v5 : Int32} {m : xS}, kC m0 n p bg ft out wait cl k dp br ex wh m → i ≤ 7 → 7 - i < f → v5.toInt = (i : Int) → v2.toInt = (e : Int) → v3.toInt = (num : Int) → num ≤ i → tat a v4.toInt → bg ≤ e → xP (D59_2_1006_55 F f v2 v3 v4 v5 m) (fun r m' => (∃ u, tpw b e bg ((tfl tw1006).drop i) a num = some u ∧ r.toInt = (u : Int) ∧ kC m0 n e bg ft out wait cl k dp br ex wh m') ∨ (tpw b e bg ((tfl tw1006).drop i) a num = none ∧ r.toInt = -1 ∧ kC m0 n p bg ft out wait cl k dp br ex wh m')) := by
  intro f
  induction f with
  | zero => intro i num a v2 v3 v4 v5 m _ _ l; omega
  | succ f ih =>
    intro i num a v2 v3 v4 v5 m h l1 l2 h5 h2 h3 l3 ha hb
    obtain ⟨k1, k2⟩ := kC_n N h
    have n4 := N.2.1
    have h4 := h.2.2.2.1
    unfold D59_2_1006_55
    refine xP_b P281_1006 (fun w0 mx q => ?_)
    obtain ⟨rfl, q⟩ := q
    dsimp only
    refine xP_i (fun c => ?_) (fun c => ?_)
    · have c : w0.toInt ≤ v5.toInt := zt c
      refine xP_r (Or.inr ⟨?_, by decide, h⟩)
      rw [List.drop_eq_nil_of_le (by rw [tl1006]; omega)]
      rfl
    · have c : ¬ w0.toInt ≤ v5.toInt := zf c
      have li : i < 7 := by omega
      have hd : (tfl tw1006).drop i = (tfl tw1006).getD i 0 :: (tfl tw1006).drop (i + 1) := by
        have l4 : i < (tfl tw1006).length := by rw [tl1006]; exact li
        rw [List.drop_eq_getElem_cons l4, List.getD_eq_getElem?_getD, List.getElem?_eq_getElem l4]
        rfl
      have i5 : (v5 + Int32.ofInt 1).toInt = ((i + 1 : Nat) : Int) := xinc h5 (by omega)
      refine xP_b (P282_1006 h5 li) (fun r1 mx q1 => ?_)
      obtain ⟨rfl, q1⟩ := q1
      dsimp only
      rw [hd]
      generalize hc0 : (tfl tw1006).getD i 0 = c0 at q1 ⊢
      have nx : ∀ {a' : Option Nat} {num' : Nat} {v3' v4' : Int32}, v3'.toInt = (num' : Int) → num' ≤ i + 1 → tat a' v4'.toInt → tpw b e bg (c0 :: (tfl tw1006).drop (i + 1)) a num = tpw b e bg ((tfl tw1006).drop (i + 1)) a' num' → xP (D59_2_1006_55 F f v2 v3' v4' (v5 + Int32.ofInt 1) mx) (fun r m' => (∃ u, tpw b e bg (c0 :: (tfl tw1006).drop (i + 1)) a num = some u ∧ r.toInt = (u : Int) ∧ kC m0 n e bg ft out wait cl k dp br ex wh m') ∨ (tpw b e bg (c0 :: (tfl tw1006).drop (i + 1)) a num = none ∧ r.toInt = -1 ∧ kC m0 n p bg ft out wait cl k dp br ex wh m')) := fun e3 l6 e4 eq => by
        rw [eq]
        exact ih h (by omega) (by omega) i5 h2 e3 l6 e4 hb
      refine xP_i (fun d => ?_) (fun d => ?_)
      · have d : r1.toInt = 32 := zt d
        have d0 : c0 = 32 := by omega
        refine xP_i (fun g => ?_) (fun g => ?_)
        · have g : v4.toInt ≠ v2.toInt := zt g
          unfold D59_2_1006_138
          refine nx (a' := some bg) (num' := num + 1) (xinc h3 (by omega)) (by omega) h4 ?_
          show (if c0 = 32 then (if a = some e then some num else _) else _) = _
          rw [if_pos d0, if_neg (fun z => by rw [z] at ha; have ha : v4.toInt = (e : Int) := ha; omega)]
        · have g : v4.toInt = v2.toInt := Decidable.not_not.mp (zf g)
          refine xP_r (Or.inl ⟨num, ?_, h3, kC_p h h2 N.2.1 he⟩)
          show (if c0 = 32 then (if a = some e then some num else _) else _) = _
          rw [if_pos d0, if_pos]
          cases a with
          | none =>
            have ha : v4.toInt = -1 := ha
            omega
          | some x =>
            have ha : v4.toInt = (x : Int) := ha
            rw [show x = e by omega]
      · have d : r1.toInt ≠ 32 := zf d
        have d0 : ¬ c0 = 32 := by omega
        have st : ∀ {a' : Option Nat}, tnx b e c0 a = a' → tpw b e bg (c0 :: (tfl tw1006).drop (i + 1)) a num = tpw b e bg ((tfl tw1006).drop (i + 1)) a' num := fun z => by
          show (if c0 = 32 then _ else tpw b e bg _ (tnx b e c0 a) num) = _
          rw [if_neg d0, z]
        have no : tnx b e c0 a = none → xP (D59_2_1006_110 F (D59_2_1006_55 F f) v2 v3 v4 v5 mx) (fun r m' => (∃ u, tpw b e bg (c0 :: (tfl tw1006).drop (i + 1)) a num = some u ∧ r.toInt = (u : Int) ∧ kC m0 n e bg ft out wait cl k dp br ex wh m') ∨ (tpw b e bg (c0 :: (tfl tw1006).drop (i + 1)) a num = none ∧ r.toInt = -1 ∧ kC m0 n p bg ft out wait cl k dp br ex wh m')) := fun z => by
          unfold D59_2_1006_110 D59_2_1006_111 D59_2_1006_138
          exact nx (a' := none) h3 (by omega) (by show (-1 : Int32).toInt = -1; decide) (st z)
        refine xP_i (fun g => ?_) (fun g => ?_)
        · have g : v4.toInt = -1 := zt g
          refine no ?_
          cases a with
          | none => rfl
          | some x =>
            have ha : v4.toInt = (x : Int) := ha
            omega
        · have g : v4.toInt ≠ -1 := zf g
          cases a with
          | none =>
            have ha : v4.toInt = -1 := ha
            omega
          | some x =>
            have ha : v4.toInt = (x : Int) := ha
            refine xP_i (fun g2 => ?_) (fun g2 => ?_)
            · have g2 : v2.toInt ≤ v4.toInt := zt g2
              exact no (if_neg (fun z => by omega))
            · have g2 : ¬ v2.toInt ≤ v4.toInt := zf g2
              refine xP_g (xib_t (by omega) (by omega)) ?_
              refine xP_b (P282_1006 h5 li) (fun r2 mx q2 => ?_)
              obtain ⟨rfl, q2⟩ := q2
              dsimp only
              have ex4 : v4.toNatClampNeg = x := by show v4.toInt.toNat = x; omega
              rw [ex4]
              have kx := k2 x (by omega)
              have q3 : r2.toInt = c0 := q2.trans hc0
              refine xP_i (fun g3 => ?_) (fun g3 => ?_)
              · have g3 : (mx.1 1 x).toInt ≠ r2.toInt := zt g3
                exact no (if_neg (fun z => by omega))
              · have g3 : (mx.1 1 x).toInt = r2.toInt := Decidable.not_not.mp (zf g3)
                unfold D59_2_1006_111 D59_2_1006_138
                exact nx (a' := some (x + 1)) h3 (by omega) ((xa1 (by show _ ≤ _ + (1 : Int); omega) (by show _ + (1 : Int) ≤ _; omega)).trans (by rw [ha]; rfl)) (st (if_pos ⟨by omega, by omega⟩))
theorem P59_18_1006 (hF : 500 ≤ F) (N : kN m0 b n) (hb : bg ≤ n) : ∀ (f : Nat) {j : Nat} {v2 : Int32} {m : xS}, kC m0 n p bg ft out wait cl k dp br ex wh m → v2.toInt = (j : Int) → bg ≤ j → j ≤ n → n - j < f → xP (D59_2_1006_18 F f v2 m) (fun r m' => (∃ u, tix (tw b bg (tS tlt b n j)) tw1006 = some u ∧ r.toInt = (u : Int) ∧ kC m0 n (tS tlt b n j) bg ft out wait cl k dp br ex wh m') ∨ (tix (tw b bg (tS tlt b n j)) tw1006 = none ∧ r.toInt = -1 ∧ kC m0 n p bg ft out wait cl k dp br ex wh m')) := by
  have fin : ∀ {j : Nat} {v2 : Int32} {m : xS}, kC m0 n p bg ft out wait cl k dp br ex wh m → v2.toInt = (j : Int) → bg ≤ j → j ≤ n → xP (D59_2_1006_44 F v2 m) (fun r m' => (∃ u, tix (tw b bg j) tw1006 = some u ∧ r.toInt = (u : Int) ∧ kC m0 n j bg ft out wait cl k dp br ex wh m') ∨ (tix (tw b bg j) tw1006 = none ∧ r.toInt = -1 ∧ kC m0 n p bg ft out wait cl k dp br ex wh m')) := by
    intro j v2 m h h2 l1 l2
    unfold D59_2_1006_44
    have z := P59_55_1006 (F := F) (b := b) (e := j) N l2 F (i := 0) (num := 0) (a := some bg) (v2 := v2) (v3 := 0) (v4 := m.1 2 3) (v5 := 0) h (by omega) (by omega) rfl h2 rfl (Nat.le_refl _) h.2.2.2.1 l1
    rw [List.drop_zero, tpw_ws l1 tw1006 0 tb1006, show (fun x : Nat => x + 0) = id from funext (fun _ => rfl), Option.map_id] at z
    exact z
  intro f
  induction f with
  | zero => intro j v2 m _ _ _ _ l; omega
  | succ f ih =>
    intro j v2 m h h2 l1 l2 l3
    obtain ⟨k1, k2⟩ := kC_n N h
    have n4 := N.2.1
    unfold D59_2_1006_18
    refine xP_i (fun c => ?_) (fun c => ?_)
    · have c : (m.1 2 1).toInt ≤ v2.toInt := zt c
      rw [tS_f (fun z => by omega)]
      exact fin h h2 l1 l2
    · have c : ¬ (m.1 2 1).toInt ≤ v2.toInt := zf c
      refine xP_g (xib_t (by omega) (by omega)) ?_
      refine xP_b P57 (fun r mx q => ?_)
      obtain ⟨rfl, q⟩ := q
      have ej : v2.toNatClampNeg = j := by show v2.toInt.toNat = j; omega
      rw [ej, k2 j (by omega)] at q
      dsimp only
      refine xP_i (fun d => ?_) (fun d => ?_)
      · have q : tlt (b j) = false := by
          rcases q with q | q
          · rw [q.1] at d
            cases d
          · exact q.2
        rw [tS_f (fun z => by rw [q] at z; cases z.2)]
        exact fin h h2 l1 l2
      · have q : tlt (b j) = true := by
          rcases q with q | q
          · exact q.2
          · rw [q.1] at d
            cases d
        rw [tS_t (P := tlt) (show j < n by omega) q]
        exact ih h (xinc h2 (by omega)) (by omega) (by omega) (by omega)
theorem P59_1006 (hF : 500 ≤ F) (N : kN m0 b n) (h : kC m0 n p bg ft out wait cl k dp br ex wh m) : xP (D59_2_1006 F m) (fun r m' => (∃ u, tix (tw b (tS tbl b n p) (tS tlt b n (tS tbl b n p))) tw1006 = some u ∧ r.toInt = (u : Int) ∧ kC m0 n (tS tlt b n (tS tbl b n p)) (tS tbl b n p) ft out wait cl k dp br ex wh m') ∨ (tix (tw b (tS tbl b n p) (tS tlt b n (tS tbl b n p))) tw1006 = none ∧ r.toInt = -1 ∧ kC m0 n (tS tbl b n p) (tS tbl b n p) ft out wait cl k dp br ex wh m')) := by
  have n4 := N.2.1
  unfold D59_2_1006
  refine xP_b (P53 hF N h) (fun v m1 q => ?_)
  obtain ⟨q, -⟩ := q
  have l1 : tS tbl b n p ≤ n := q.2.2.1.2
  dsimp only
  exact P59_18_1006 hF N l1 F (kC_bg q q.2.2.1.1 (by omega)) q.2.2.1.1 (Nat.le_refl _) l1 (by omega)
end KW
end
section
/-! A machine that reads rules, as the class does: place, values and facts counted, steps (the last first), what waits (the last first), clauses, what is expected, where. -/
abbrev tSt : Type := Nat × Nat × List Int × List Int × Nat × Nat × Nat
def tcl (o : Int) : Int := if o ≤ 3 then o else if o ≤ 8 then 4 else if o ≤ 10 then 9 else 11
def tSe (o : Int) : List Int → List Int → List Int × List Int × Nat
  | [], out => (out, [], 0)
  | w :: ws, out => if tcl o ≤ tcl w then ((tSe o ws (w :: out)).1, (tSe o ws (w :: out)).2.1, (tSe o ws (w :: out)).2.2 + (if w = 3 then 1 else 0)) else (out, w :: ws, 0)
def tdp : List Int → Nat
  | [] => 0
  | w :: ws => (if w = 0 ∨ w = 3 then 1 else 0) + tdp ws
def tbr : List Int → Nat
  | [] => 0
  | w :: ws => (if w = 0 then 1 else 0) + tbr ws
def topr (c : Int) : Int := if c = 43 then 9 else if c = 45 then 10 else if c = 42 then 11 else if c = 47 then 12 else if c = 37 then 13 else -1
section TMAC
variable (b : Nat → Int) (n : Nat)
abbrev tsk (p : Nat) : Nat := tS tbl b n p
abbrev tle (p : Nat) : Nat := tS tlt b n (tS tbl b n p)
abbrev tde (p : Nat) : Nat := tS tdg b n (tS tbl b n p)
abbrev twd (p : Nat) : List Int := tw b (tS tbl b n p) (tS tlt b n (tS tbl b n p))
def tval (p k : Nat) : Int ⊕ (Nat × Int) :=
  if tdg (tsg b n (tsk b n p)) = true then
    (if 5 < tde b n p - tsk b n p then .inl (1 + 8 * (tsk b n p : Int) + 1) else if 60 ≤ k then .inl (1 + 8 * (tsk b n p : Int) + 3) else .inr (tde b n p, 40 + tv b (tsk b n p) (tde b n p - tsk b n p)))
  else match tix (twd b n p) tw1004 with
    | none => .inl (1 + 8 * (tsk b n p : Int))
    | some u => if 60 ≤ k then .inl (1 + 8 * (tsk b n p : Int) + 3) else .inr (tle b n p, 20 + (u : Int))
def tvs (p k : Nat) (out wait : List Int) (cl wh : Nat) : Int ⊕ tSt := match tval b n p k with
  | .inl f => .inl f
  | .inr x => .inr (x.1, k + 1, x.2 :: out, wait, cl, 3, wh)
def tendc (a : Int) (p k : Nat) (out wait : List Int) (cl wh : Nat) : Int ⊕ tSt :=
  if tsg b n (tsk b n p) = 59 then .inr (tsk b n p + 1, k, a :: (tSe 1 wait out).1, (tSe 1 wait out).2.1, cl, 0, wh)
  else if tsg b n (tsk b n p) = -1 then .inr (tsk b n p, k, a :: (tSe 1 wait out).1, (tSe 1 wait out).2.1, cl, 4, wh)
  else .inl (1 + 8 * (tsk b n p : Int))
def tlnd (p k : Nat) (out wait : List Int) (cl : Nat) : Int ⊕ tSt := match tix (twd b n p) tw1002 with
  | none => .inl (1 + 8 * (tsk b n p : Int))
  | some _ => if 12 ≤ cl then .inl (1 + 8 * (tsk b n p : Int) + 4) else .inr (tle b n p, k, out, wait, cl + 1, 2, 0)
def tfac (p k : Nat) (out wait : List Int) (cl wh : Nat) : Int ⊕ tSt :=
  if tsg b n (tsk b n p) = 91 then (if 10 ≤ tdp wait then .inl (1 + 8 * (tsk b n p : Int) + 2) else .inr (tsk b n p + 1, k, out, 0 :: wait, cl, 1, wh))
  else match tix (twd b n p) tw1003 with
    | some _ => if 10 ≤ tdp wait then .inl (1 + 8 * (tsk b n p : Int) + 2) else .inr (tle b n p, k, out, 3 :: wait, cl, 1, wh)
    | none => tvs b n p k out wait cl 1
def tsig (p k : Nat) (out wait : List Int) (cl : Nat) : Int ⊕ tSt :=
  if tsg b n (tsk b n p) = 60 ∨ tsg b n (tsk b n p) = 61 ∨ tsg b n (tsk b n p) = 62 then
    (if 60 ≤ k then .inl (1 + 8 * (tsk b n p : Int) + 3)
    else if tsg b n (tsk b n p) = 61 then .inr (tsk b n p + 1, k + 1, (tSe 6 wait out).1, 6 :: (tSe 6 wait out).2.1, cl, 2, 2)
    else if tsg b n (tsk b n p + 1) = 61 then .inr (tsk b n p + 2, k + 1, (tSe (if tsg b n (tsk b n p) = 60 then 5 else 7) wait out).1, (if tsg b n (tsk b n p) = 60 then 5 else 7) :: (tSe (if tsg b n (tsk b n p) = 60 then 5 else 7) wait out).2.1, cl, 2, 2)
    else .inr (tsk b n p + 1, k + 1, (tSe (if tsg b n (tsk b n p) = 60 then 4 else 8) wait out).1, (if tsg b n (tsk b n p) = 60 then 4 else 8) :: (tSe (if tsg b n (tsk b n p) = 60 then 4 else 8) wait out).2.1, cl, 2, 2))
  else .inl (1 + 8 * (tsk b n p : Int))
def tenf (p k : Nat) (out wait : List Int) (cl wh : Nat) : Int ⊕ tSt := match tix (twd b n p) tw1006 with
  | some u => .inr (tle b n p, k, (tSe (if u = 0 then 2 else 1) wait out).1, (if u = 0 then 2 else 1) :: (tSe (if u = 0 then 2 else 1) wait out).2.1, cl, 1, wh)
  | none => if tbr wait = 0 then tendc b n 15 p k out wait cl wh else if tsg b n (tsk b n p) = 93 then .inr (tsk b n p + 1, k, (tSe 1 wait out).1, (tSe 1 wait out).2.1.tail, cl, 3, 3) else .inl (1 + 8 * (tsk b n p : Int))
def tena (p k : Nat) (out wait : List Int) (cl wh : Nat) : Int ⊕ tSt := match tix (twd b n p) tw1005 with
  | some _ => .inr (tle b n p, k, (tSe 1 wait out).1, (tSe 1 wait out).2.1, cl, 1, wh)
  | none => tendc b n 14 p k out wait cl wh
def tjnt (p k : Nat) (out wait : List Int) (cl wh : Nat) : Int ⊕ tSt :=
  if wh ≠ 3 ∧ topr (tsg b n (tsk b n p)) ≠ -1 then .inr (tsk b n p + 1, k, (tSe (topr (tsg b n (tsk b n p))) wait out).1, topr (tsg b n (tsk b n p)) :: (tSe (topr (tsg b n (tsk b n p))) wait out).2.1, cl, 2, wh)
  else if wh = 0 then tena b n p k out wait cl wh
  else if wh = 1 then tsig b n p k out wait cl
  else tenf b n p k out wait cl wh
def tstp (s : tSt) : Int ⊕ tSt :=
  if s.2.2.2.2.2.1 = 0 then tlnd b n s.1 s.2.1 s.2.2.1 s.2.2.2.1 s.2.2.2.2.1
  else if s.2.2.2.2.2.1 = 1 then tfac b n s.1 s.2.1 s.2.2.1 s.2.2.2.1 s.2.2.2.2.1 s.2.2.2.2.2.2
  else if s.2.2.2.2.2.1 = 2 then tvs b n s.1 s.2.1 s.2.2.1 s.2.2.2.1 s.2.2.2.2.1 s.2.2.2.2.2.2
  else if s.2.2.2.2.2.1 = 3 then tjnt b n s.1 s.2.1 s.2.2.1 s.2.2.2.1 s.2.2.2.2.1 s.2.2.2.2.2.2
  else .inl 0
end TMAC
theorem tSe_len (o : Int) : ∀ (ws out : List Int), (tSe o ws out).1.length + (tSe o ws out).2.1.length = out.length + ws.length := by
  intro ws
  induction ws with
  | nil => intro out; rfl
  | cons w ws ih =>
    intro out
    unfold tSe
    split
    · have := ih (w :: out)
      rw [List.length_cons] at this
      rw [List.length_cons]
      dsimp only
      omega
    · rfl
theorem tSe_sub (o : Int) : ∀ (ws out : List Int), ∀ w ∈ (tSe o ws out).2.1, w ∈ ws := by
  intro ws
  induction ws with
  | nil => intro out w h; exact h
  | cons v ws ih =>
    intro out w h
    unfold tSe at h
    split at h
    · exact List.mem_cons_of_mem _ (ih _ w h)
    · exact h
theorem tSe_dp {o : Int} (ho : 1 ≤ tcl o) : ∀ (ws out : List Int), tdp ws = tdp (tSe o ws out).2.1 + (tSe o ws out).2.2 ∧ tbr ws = tbr (tSe o ws out).2.1 := by
  intro ws
  induction ws with
  | nil => intro out; exact ⟨rfl, rfl⟩
  | cons w ws ih =>
    intro out
    unfold tSe
    split
    · next c =>
      obtain ⟨a1, a2⟩ := ih (w :: out)
      have w0 : w ≠ 0 := fun z => by
        rw [z] at c
        have : tcl 0 = 0 := rfl
        omega
      constructor
      · show (if w = 0 ∨ w = 3 then 1 else 0) + tdp ws = _
        dsimp only
        by_cases z : w = 3
        · rw [if_pos (Or.inr z), if_pos z]
          omega
        · rw [if_neg (fun y => y.elim w0 z), if_neg z]
          omega
      · show (if w = 0 then 1 else 0) + tbr ws = _
        rw [if_neg w0, a2, Nat.zero_add]
    · exact ⟨rfl, rfl⟩
/-- the first that stays waiting binds less -/
theorem tSe_hd (o : Int) : ∀ (ws out : List Int) (w : Int) (vs : List Int), (tSe o ws out).2.1 = w :: vs → tcl w < tcl o := by
  intro ws
  induction ws with
  | nil => intro out w vs h; cases h
  | cons u ws ih =>
    intro out w vs h
    unfold tSe at h
    split at h
    · exact ih _ w vs h
    · next c =>
      have h : u :: ws = w :: vs := h
      rw [← (List.cons.inj h).1]
      omega
theorem tdp_len : ∀ ws : List Int, tdp ws ≤ ws.length := by
  intro ws
  induction ws with
  | nil => exact Nat.le_refl _
  | cons w ws ih =>
    show (if w = 0 ∨ w = 3 then 1 else 0) + tdp ws ≤ ws.length + 1
    split <;> omega
theorem tbr_len : ∀ ws : List Int, tbr ws ≤ ws.length := by
  intro ws
  induction ws with
  | nil => exact Nat.le_refl _
  | cons w ws ih =>
    show (if w = 0 then 1 else 0) + tbr ws ≤ ws.length + 1
    split <;> omega
end
