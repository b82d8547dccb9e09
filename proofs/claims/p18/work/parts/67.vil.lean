section
/-! Methods as functions over the memory. -/
set_option maxRecDepth 4000 in
theorem xg71 : zg zms 71 = some (zm71.2.2.1, zm71.2.2.2.1, zc71) := rfl
theorem xr71 : zar 71 = (2, 8) := by decide +kernel
set_option maxRecDepth 4000 in
theorem xg72 : zg zms 72 = some (zm72.2.2.1, zm72.2.2.2.1, zc72) := rfl
theorem xr72 : zar 72 = (3, 8) := by decide +kernel
set_option maxRecDepth 4000 in
theorem xg73 : zg zms 73 = some (zm73.2.2.1, zm73.2.2.2.1, zc73) := rfl
theorem xr73 : zar 73 = (4, 8) := by decide +kernel
set_option maxRecDepth 4000 in
theorem xg74 : zg zms 74 = some (zm74.2.2.1, zm74.2.2.2.1, zc74) := rfl
theorem xr74 : zar 74 = (2, 8) := by decide +kernel
set_option maxRecDepth 4000 in
theorem xg75 : zg zms 75 = some (zm75.2.2.1, zm75.2.2.2.1, zc75) := rfl
theorem xr75 : zar 75 = (3, 8) := by decide +kernel
set_option maxRecDepth 4000 in
theorem xg77 : zg zms 77 = some (zm77.2.2.1, zm77.2.2.2.1, zc77) := rfl
theorem xr77 : zar 77 = (0, 8) := by decide +kernel
set_option maxRecDepth 4000 in
theorem xg79 : zg zms 79 = some (zm79.2.2.1, zm79.2.2.2.1, zc79) := rfl
theorem xr79 : zar 79 = (0, 8) := by decide +kernel
set_option maxRecDepth 4000 in
theorem xg80 : zg zms 80 = some (zm80.2.2.1, zm80.2.2.2.1, zc80) := rfl
theorem xr80 : zar 80 = (0, 8) := by decide +kernel
set_option maxRecDepth 4000 in
theorem xg88 : zg zms 88 = some (zm88.2.2.1, zm88.2.2.2.1, zc88) := rfl
theorem xr88 : zar 88 = (3, 8) := by decide +kernel
set_option maxRecDepth 4000 in
theorem xg90 : zg zms 90 = some (zm90.2.2.1, zm90.2.2.2.1, zc90) := rfl
theorem xr90 : zar 90 = (3, 8) := by decide +kernel
set_option maxRecDepth 4000 in
theorem xg116 : zg zms 116 = some (zm116.2.2.1, zm116.2.2.2.1, zc116) := rfl
theorem xr116 : zar 116 = (2, 9) := by decide +kernel
set_option maxRecDepth 4000 in
theorem xg117 : zg zms 117 = some (zm117.2.2.1, zm117.2.2.2.1, zc117) := rfl
theorem xr117 : zar 117 = (3, 9) := by decide +kernel
set_option maxRecDepth 4000 in
theorem xg118 : zg zms 118 = some (zm118.2.2.1, zm118.2.2.2.1, zc118) := rfl
theorem xr118 : zar 118 = (3, 200) := by decide +kernel
set_option maxRecDepth 4000 in
theorem xg119 : zg zms 119 = some (zm119.2.2.1, zm119.2.2.2.1, zc119) := rfl
theorem xr119 : zar 119 = (3, 9) := by decide +kernel
set_option maxRecDepth 4000 in
theorem xg120 : zg zms 120 = some (zm120.2.2.1, zm120.2.2.2.1, zc120) := rfl
theorem xr120 : zar 120 = (2, 9) := by decide +kernel
set_option maxRecDepth 4000 in
theorem xg291 : zg zms 291 = some (zm291.2.2.1, zm291.2.2.2.1, zc291) := rfl
theorem xr291 : zar 291 = (2, 200) := by decide +kernel
/-- java/lang/String.coder -/
def D283_1001 (F : Nat) (m : xS) : Option (Int32 × xS) :=
  if zcmp .eq 1 0 = true then
    some (1, m)
  else
    some (0, m)
set_option maxRecDepth 20000 in
theorem T283_1001 {B : zHp} (H : yH0 B) (X : yTx B) {e : Nat} (he : 1 ≤ e + 1) (F : Nat) {lv : List (Nat × Value)} {m : xS} {x : Int32 × xS} (l0 : zld lv 0 = some (.ref 1001)) (h : D283_1001 F m = some x) : zR none e 1 (some .byte) zc283 (0, lv, []) (xW B m) (some (.int x.1), xW B x.2) := by
  unfold D283_1001 at h
  refine r_s (fr' := (3, lv, [.int 1])) (hp' := xW B m) (q := (.getstatic 38, 3, 0, 0, .int 1)) rfl (fun _ => rfl) (Nat.le_refl _) ?_
  refine r_if (len := 3) (a := 13) (b := 0) (v0 := .null) (cn := .eq) (off := 10) rfl (fun c => ?_) (fun c => ?_)
  · rw [if_pos c] at h
    refine r_s (fr' := (14, lv, [.int 1])) (hp' := xW B m) (q := (.iconst 1, 1, 0, 0, .null)) rfl (fun _ => rfl) (Nat.le_refl _) ?_
    obtain rfl := Option.some.inj h
    exact q_ri (q := (.ireturn, 1, 0, 0, .null)) rfl (fun _ => rfl) rfl rfl
  · rw [if_neg (by rw [c]; decide)] at h
    refine q_lr (k := 1) (i := 0) (q := (.aload_n 0, 1, 0, 0, .null)) rfl (fun _ => rfl) l0 ?_
    refine r_s (fr' := (10, lv, [.int 0])) (hp' := xW B m) (q := (.getfield 15, 3, 100, 1, .null)) rfl (fun _ => rfl) (Nat.le_refl _) ?_
    refine r_s (fr' := (14, lv, [.int 0])) (hp' := xW B m) (q := (.goto 4, 3, 14, 0, .null)) rfl (fun _ => rfl) (Nat.le_refl _) ?_
    obtain rfl := Option.some.inj h
    exact q_ri (q := (.ireturn, 1, 0, 0, .null)) rfl (fun _ => rfl) rfl rfl
set_option maxRecDepth 20000 in
theorem Z283_1001 {B : zHp} (H : yH0 B) (X : yTx B) {F : Nat} {m : xS} {x : Int32 × xS} (h : D283_1001 F m = some x) {d : Nat} (hd : 1 ≤ d) : zCan d 283 [.ref 1001] (xW B m) (some (.int x.1), xW B x.2) := by
  obtain ⟨e, rfl⟩ : ∃ e, d = e + 1 := ⟨d - 1, by omega⟩
  refine zCan_body (nL := 1) (rt := (some .byte)) (cd := zc283) (xg283) ⟨Nat.le_of_ble_eq_true rfl, by decide⟩ (Nat.le_refl _) ?_
  exact T283_1001 H X hd F rfl h
/-- java/lang/String.length -/
def D281_1001 (F : Nat) (m : xS) : Option (Int32 × xS) :=
  (D283_1001 F m).bind fun q6 =>
    some (((Int32.ofNat 31) >>> (q6.1 &&& 31)), q6.2)
set_option maxRecDepth 20000 in
theorem T281_1001 {B : zHp} (H : yH0 B) (X : yTx B) {e : Nat} (he : 2 ≤ e + 1) (F : Nat) {lv : List (Nat × Value)} {m : xS} {x : Int32 × xS} (l0 : zld lv 0 = some (.ref 1001)) (h : D281_1001 F m = some x) : zR none e 1 (some .int) zc281 (0, lv, []) (xW B m) (some (.int x.1), xW B x.2) := by
  unfold D281_1001 at h
  refine q_lr (k := 1) (i := 0) (q := (.aload_n 0, 1, 0, 0, .null)) rfl (fun _ => rfl) l0 ?_
  refine r_s (fr' := (4, lv, [.ref 1020])) (hp' := xW B m) (q := (.getfield 9, 3, 100, 0, .null)) rfl (fun _ => rfl) (Nat.le_refl _) ?_
  refine r_s (fr' := (5, lv, [.int (Int32.ofNat 31)])) (hp' := xW B m) (q := (.arraylength, 1, 0, 0, .null)) rfl (fun _ => rfl) (Nat.le_refl _) ?_
  refine q_lr (k := 1) (i := 0) (q := (.aload_n 0, 1, 0, 0, .null)) rfl (fun _ => rfl) l0 ?_
  obtain ⟨q6, h6, h⟩ := xbind h
  refine r_call (ix := 1001) (as := []) (rest := [.int (Int32.ofNat 31)]) (rv := some (.int q6.1)) (hp' := xW B q6.2) (pc := 6) rfl xr283 rfl rfl rfl rfl (Nat.le_of_ble_eq_true rfl) (Z283_1001 H X h6 (by omega)) (Nat.le_refl _) ?_
  refine r_s (fr' := (10, lv, [.int ((Int32.ofNat 31) >>> (q6.1 &&& 31))])) (hp' := xW B q6.2) (q := (.ishr, 1, 0, 0, .null)) rfl (fun _ => rfl) (Nat.le_refl _) ?_
  obtain rfl := Option.some.inj h
  exact q_ri (q := (.ireturn, 1, 0, 0, .null)) rfl (fun _ => rfl) rfl rfl
set_option maxRecDepth 20000 in
theorem Z281_1001 {B : zHp} (H : yH0 B) (X : yTx B) {F : Nat} {m : xS} {x : Int32 × xS} (h : D281_1001 F m = some x) {d : Nat} (hd : 2 ≤ d) : zCan d 281 [.ref 1001] (xW B m) (some (.int x.1), xW B x.2) := by
  obtain ⟨e, rfl⟩ : ∃ e, d = e + 1 := ⟨d - 1, by omega⟩
  refine zCan_body (nL := 1) (rt := (some .int)) (cd := zc281) (xg281) ⟨Nat.le_of_ble_eq_true rfl, by decide⟩ (Nat.le_refl _) ?_
  exact T281_1001 H X hd F rfl h
/-- java/lang/String.isLatin1 -/
def D284_1001_17 (F : Nat) (m : xS) : Option (Int32 × xS) :=
  some (0, m)
set_option maxRecDepth 20000 in
theorem T284_1001_17 {B : zHp} (H : yH0 B) (X : yTx B) {e : Nat} (he : 1 ≤ e + 1) (F : Nat) {lv : List (Nat × Value)} {m : xS} {x : Int32 × xS} (l0 : zld lv 0 = some (.ref 1001)) (h : D284_1001_17 F m = some x) : zR none e 1 (some .boolean) zc284 (17, lv, []) (xW B m) (some (.int x.1), xW B x.2) := by
  unfold D284_1001_17 at h
  refine r_s (fr' := (18, lv, [.int 0])) (hp' := xW B m) (q := (.iconst 0, 1, 0, 0, .null)) rfl (fun _ => rfl) (Nat.le_refl _) ?_
  obtain rfl := Option.some.inj h
  exact q_ri (q := (.ireturn, 1, 0, 0, .null)) rfl (fun _ => rfl) rfl rfl
def D284_1001 (F : Nat) (m : xS) : Option (Int32 × xS) :=
  if zcmp .eq 1 0 = true then
    D284_1001_17 F m
  else
    if zcmp .ne 0 0 = true then
      D284_1001_17 F m
    else
      some (1, m)
set_option maxRecDepth 20000 in
theorem T284_1001 {B : zHp} (H : yH0 B) (X : yTx B) {e : Nat} (he : 1 ≤ e + 1) (F : Nat) {lv : List (Nat × Value)} {m : xS} {x : Int32 × xS} (l0 : zld lv 0 = some (.ref 1001)) (h : D284_1001 F m = some x) : zR none e 1 (some .boolean) zc284 (0, lv, []) (xW B m) (some (.int x.1), xW B x.2) := by
  unfold D284_1001 at h
  refine r_s (fr' := (3, lv, [.int 1])) (hp' := xW B m) (q := (.getstatic 38, 3, 0, 0, .int 1)) rfl (fun _ => rfl) (Nat.le_refl _) ?_
  refine r_if (len := 3) (a := 17) (b := 0) (v0 := .null) (cn := .eq) (off := 14) rfl (fun c => ?_) (fun c => ?_)
  · rw [if_pos c] at h
    exact T284_1001_17 H X he F l0 h
  · rw [if_neg (by rw [c]; decide)] at h
    refine q_lr (k := 1) (i := 0) (q := (.aload_n 0, 1, 0, 0, .null)) rfl (fun _ => rfl) l0 ?_
    refine r_s (fr' := (10, lv, [.int 0])) (hp' := xW B m) (q := (.getfield 15, 3, 100, 1, .null)) rfl (fun _ => rfl) (Nat.le_refl _) ?_
    refine r_if (len := 3) (a := 17) (b := 0) (v0 := .null) (cn := .ne) (off := 7) rfl (fun c => ?_) (fun c => ?_)
    · rw [if_pos c] at h
      exact T284_1001_17 H X he F l0 h
    · rw [if_neg (by rw [c]; decide)] at h
      refine r_s (fr' := (14, lv, [.int 1])) (hp' := xW B m) (q := (.iconst 1, 1, 0, 0, .null)) rfl (fun _ => rfl) (Nat.le_refl _) ?_
      refine r_s (fr' := (18, lv, [.int 1])) (hp' := xW B m) (q := (.goto 4, 3, 18, 0, .null)) rfl (fun _ => rfl) (Nat.le_refl _) ?_
      obtain rfl := Option.some.inj h
      exact q_ri (q := (.ireturn, 1, 0, 0, .null)) rfl (fun _ => rfl) rfl rfl
set_option maxRecDepth 20000 in
theorem Z284_1001 {B : zHp} (H : yH0 B) (X : yTx B) {F : Nat} {m : xS} {x : Int32 × xS} (h : D284_1001 F m = some x) {d : Nat} (hd : 1 ≤ d) : zCan d 284 [.ref 1001] (xW B m) (some (.int x.1), xW B x.2) := by
  obtain ⟨e, rfl⟩ : ∃ e, d = e + 1 := ⟨d - 1, by omega⟩
  refine zCan_body (nL := 1) (rt := (some .boolean)) (cd := zc284) (xg284) ⟨Nat.le_of_ble_eq_true rfl, by decide⟩ (Nat.le_refl _) ?_
  exact T284_1001 H X hd F rfl h
/-- java/lang/StringLatin1.charAt -/
def D286_1020 (F : Nat) (v1 : Int32) (m : xS) : Option (Int32 × xS) :=
  (D285 F v1 (Int32.ofNat 31) m).bind fun q3 =>
    if xib v1 31 = true then
      if (vp_nar .char ((((zsv 20 (v1 : Int32).toNatClampNeg) &&& 255) : Int32).toUInt32 % 65536).toInt32 == ((((zsv 20 (v1 : Int32).toNatClampNeg) &&& 255) : Int32).toUInt32 % 65536).toInt32) = true then
        some (((((zsv 20 (v1 : Int32).toNatClampNeg) &&& 255) : Int32).toUInt32 % 65536).toInt32, q3.2)
      else none
    else none
set_option maxRecDepth 20000 in
theorem T286_1020 {B : zHp} (H : yH0 B) (X : yTx B) {e : Nat} (he : 3 ≤ e + 1) (F : Nat) {v1 : Int32} {lv : List (Nat × Value)} {m : xS} {x : Int32 × xS} (l0 : zld lv 0 = some (.ref 1020)) (l1 : zld lv 1 = some (.int v1)) (h : D286_1020 F v1 m = some x) : zR none e 2 (some .char) zc286 (0, lv, []) (xW B m) (some (.int x.1), xW B x.2) := by
  unfold D286_1020 at h
  refine q_li (k := 1) (i := 1) (q := (.iload_n 1, 1, 0, 0, .null)) rfl (fun _ => rfl) l1 ?_
  refine q_lr (k := 1) (i := 0) (q := (.aload_n 0, 1, 0, 0, .null)) rfl (fun _ => rfl) l0 ?_
  refine r_s (fr' := (3, lv, [.int (Int32.ofNat 31), .int v1])) (hp' := xW B m) (q := (.arraylength, 1, 0, 0, .null)) rfl (fun _ => rfl) (Nat.le_refl _) ?_
  obtain ⟨q3, h3, h⟩ := xbind h
  refine r_callS (as := [.int v1, .int (Int32.ofNat 31)]) (rest := []) (rv := none) (hp' := xW B q3.2) (pc := 3) rfl xr285 rfl rfl rfl (Nat.le_of_ble_eq_true rfl) (Z285 H X h3 (by omega)) (Nat.le_refl _) ?_
  refine q_lr (k := 1) (i := 0) (q := (.aload_n 0, 1, 0, 0, .null)) rfl (fun _ => rfl) l0 ?_
  refine q_li (k := 1) (i := 1) (q := (.iload_n 1, 1, 0, 0, .null)) rfl (fun _ => rfl) l1 ?_
  obtain ⟨c1, h⟩ := xif h
  refine q_sbl (n := 31) (f := zsv 20) (i := 1020) (pc := 8) rfl (by decide) rfl c1 ?_
  refine r_s (fr' := (12, lv, [.int 255, .int (zsv 20 (v1 : Int32).toNatClampNeg)])) (hp' := xW B q3.2) (q := (.sipush 255, 3, 0, 0, .null)) rfl (fun _ => rfl) (Nat.le_refl _) ?_
  refine r_s (fr' := (13, lv, [.int ((zsv 20 (v1 : Int32).toNatClampNeg) &&& 255)])) (hp' := xW B q3.2) (q := (.iand, 1, 0, 0, .null)) rfl (fun _ => rfl) (Nat.le_refl _) ?_
  refine r_s (fr' := (14, lv, [.int ((((zsv 20 (v1 : Int32).toNatClampNeg) &&& 255) : Int32).toUInt32 % 65536).toInt32])) (hp' := xW B q3.2) (q := (.i2c, 1, 0, 0, .null)) rfl (fun _ => rfl) (Nat.le_refl _) ?_
  obtain ⟨c2, h⟩ := xif h
  obtain rfl := Option.some.inj h
  exact q_ri (q := (.ireturn, 1, 0, 0, .null)) rfl (fun _ => rfl) rfl (xnar_ok rfl c2)
set_option maxRecDepth 20000 in
theorem Z286_1020 {B : zHp} (H : yH0 B) (X : yTx B) {F : Nat} {a1 : Int32} {m : xS} {x : Int32 × xS} (h : D286_1020 F a1 m = some x) {d : Nat} (hd : 3 ≤ d) : zCan d 286 [.ref 1020, .int a1] (xW B m) (some (.int x.1), xW B x.2) := by
  obtain ⟨e, rfl⟩ : ∃ e, d = e + 1 := ⟨d - 1, by omega⟩
  refine zCan_body (nL := 2) (rt := (some .char)) (cd := zc286) (xg286) ⟨Nat.le_of_ble_eq_true rfl, by decide⟩ (Nat.le_refl _) ?_
  exact T286_1020 H X hd F rfl rfl h
/-- java/lang/StringUTF16.length -/
def D288_1020 (F : Nat) (m : xS) : Option (Int32 × xS) :=
  some (((Int32.ofNat 31) >>> (1 &&& 31)), m)
set_option maxRecDepth 20000 in
theorem T288_1020 {B : zHp} (H : yH0 B) (X : yTx B) {e : Nat} (he : 1 ≤ e + 1) (F : Nat) {lv : List (Nat × Value)} {m : xS} {x : Int32 × xS} (l0 : zld lv 0 = some (.ref 1020)) (h : D288_1020 F m = some x) : zR none e 1 (some .int) zc288 (0, lv, []) (xW B m) (some (.int x.1), xW B x.2) := by
  unfold D288_1020 at h
  refine q_lr (k := 1) (i := 0) (q := (.aload_n 0, 1, 0, 0, .null)) rfl (fun _ => rfl) l0 ?_
  refine r_s (fr' := (2, lv, [.int (Int32.ofNat 31)])) (hp' := xW B m) (q := (.arraylength, 1, 0, 0, .null)) rfl (fun _ => rfl) (Nat.le_refl _) ?_
  refine r_s (fr' := (3, lv, [.int 1, .int (Int32.ofNat 31)])) (hp' := xW B m) (q := (.iconst 1, 1, 0, 0, .null)) rfl (fun _ => rfl) (Nat.le_refl _) ?_
  refine r_s (fr' := (4, lv, [.int ((Int32.ofNat 31) >>> (1 &&& 31))])) (hp' := xW B m) (q := (.ishr, 1, 0, 0, .null)) rfl (fun _ => rfl) (Nat.le_refl _) ?_
  obtain rfl := Option.some.inj h
  exact q_ri (q := (.ireturn, 1, 0, 0, .null)) rfl (fun _ => rfl) rfl rfl
set_option maxRecDepth 20000 in
theorem Z288_1020 {B : zHp} (H : yH0 B) (X : yTx B) {F : Nat} {m : xS} {x : Int32 × xS} (h : D288_1020 F m = some x) {d : Nat} (hd : 1 ≤ d) : zCan d 288 [.ref 1020] (xW B m) (some (.int x.1), xW B x.2) := by
  obtain ⟨e, rfl⟩ : ∃ e, d = e + 1 := ⟨d - 1, by omega⟩
  refine zCan_body (nL := 1) (rt := (some .int)) (cd := zc288) (xg288) ⟨Nat.le_of_ble_eq_true rfl, by decide⟩ (Nat.le_refl _) ?_
  exact T288_1020 H X hd F rfl h
/-- java/lang/StringUTF16.checkIndex -/
def D290_1020 (F : Nat) (v0 : Int32) (m : xS) : Option (Unit × xS) :=
  (D288_1020 F m).bind fun q2 =>
    (D285 F v0 q2.1 q2.2).bind fun q5 =>
      some ((), q5.2)
set_option maxRecDepth 20000 in
theorem T290_1020 {B : zHp} (H : yH0 B) (X : yTx B) {e : Nat} (he : 3 ≤ e + 1) (F : Nat) {v0 : Int32} {lv : List (Nat × Value)} {m : xS} {x : Unit × xS} (l0 : zld lv 0 = some (.int v0)) (l1 : zld lv 1 = some (.ref 1020)) (h : D290_1020 F v0 m = some x) : zR none e 2 none zc290 (0, lv, []) (xW B m) (none, xW B x.2) := by
  unfold D290_1020 at h
  refine q_li (k := 1) (i := 0) (q := (.iload_n 0, 1, 0, 0, .null)) rfl (fun _ => rfl) l0 ?_
  refine q_lr (k := 1) (i := 1) (q := (.aload_n 1, 1, 0, 0, .null)) rfl (fun _ => rfl) l1 ?_
  obtain ⟨q2, h2, h⟩ := xbind h
  refine r_callS (as := [.ref 1020]) (rest := [.int v0]) (rv := some (.int q2.1)) (hp' := xW B q2.2) (pc := 2) rfl xr288 rfl rfl rfl (Nat.le_of_ble_eq_true rfl) (Z288_1020 H X h2 (by omega)) (Nat.le_refl _) ?_
  obtain ⟨q5, h5, h⟩ := xbind h
  refine r_callS (as := [.int v0, .int q2.1]) (rest := []) (rv := none) (hp' := xW B q5.2) (pc := 5) rfl xr285 rfl rfl rfl (Nat.le_of_ble_eq_true rfl) (Z285 H X h5 (by omega)) (Nat.le_refl _) ?_
  obtain rfl := Option.some.inj h
  exact r_ret (q := (.return_, 1, 0, 0, .null)) rfl rfl (fun _ => rfl)
set_option maxRecDepth 20000 in
theorem Z290_1020 {B : zHp} (H : yH0 B) (X : yTx B) {F : Nat} {a0 : Int32} {m : xS} {x : Unit × xS} (h : D290_1020 F a0 m = some x) {d : Nat} (hd : 3 ≤ d) : zCan d 290 [.int a0, .ref 1020] (xW B m) (none, xW B x.2) := by
  obtain ⟨e, rfl⟩ : ∃ e, d = e + 1 := ⟨d - 1, by omega⟩
  refine zCan_body (nL := 2) (rt := none) (cd := zc290) (xg290) ⟨Nat.le_of_ble_eq_true rfl, by decide⟩ (Nat.le_refl _) ?_
  exact T290_1020 H X hd F rfl rfl h
/-- java/lang/StringUTF16.getChar -/
def D287_1020 (F : Nat) (v1 : Int32) (m : xS) : Option (Int32 × xS) :=
  none
set_option maxRecDepth 20000 in
theorem T287_1020 {B : zHp} (H : yH0 B) (X : yTx B) {e : Nat} (he : 1 ≤ e + 1) (F : Nat) {v1 : Int32} {lv : List (Nat × Value)} {m : xS} {x : Int32 × xS} (l0 : zld lv 0 = some (.ref 1020)) (l1 : zld lv 1 = some (.int v1)) (h : D287_1020 F v1 m = some x) : zR none e 2 (some .char) zc287 (0, lv, []) (xW B m) (some (.int x.1), xW B x.2) := by
  unfold D287_1020 at h
  cases h
set_option maxRecDepth 20000 in
theorem Z287_1020 {B : zHp} (H : yH0 B) (X : yTx B) {F : Nat} {a1 : Int32} {m : xS} {x : Int32 × xS} (h : D287_1020 F a1 m = some x) {d : Nat} (hd : 1 ≤ d) : zCan d 287 [.ref 1020, .int a1] (xW B m) (some (.int x.1), xW B x.2) := by
  obtain ⟨e, rfl⟩ : ∃ e, d = e + 1 := ⟨d - 1, by omega⟩
  refine zCan_body (nL := 2) (rt := (some .char)) (cd := zc287) (xg287) ⟨Nat.le_of_ble_eq_true rfl, by decide⟩ (Nat.le_refl _) ?_
  exact T287_1020 H X hd F rfl rfl h
/-- java/lang/StringUTF16.charAt -/
def D289_1020 (F : Nat) (v1 : Int32) (m : xS) : Option (Int32 × xS) :=
  (D290_1020 F v1 m).bind fun q2 =>
    (D287_1020 F v1 q2.2).bind fun q7 =>
      if (vp_nar .char q7.1 == q7.1) = true then
        some (q7.1, q7.2)
      else none
set_option maxRecDepth 20000 in
theorem T289_1020 {B : zHp} (H : yH0 B) (X : yTx B) {e : Nat} (he : 4 ≤ e + 1) (F : Nat) {v1 : Int32} {lv : List (Nat × Value)} {m : xS} {x : Int32 × xS} (l0 : zld lv 0 = some (.ref 1020)) (l1 : zld lv 1 = some (.int v1)) (h : D289_1020 F v1 m = some x) : zR none e 2 (some .char) zc289 (0, lv, []) (xW B m) (some (.int x.1), xW B x.2) := by
  unfold D289_1020 at h
  refine q_li (k := 1) (i := 1) (q := (.iload_n 1, 1, 0, 0, .null)) rfl (fun _ => rfl) l1 ?_
  refine q_lr (k := 1) (i := 0) (q := (.aload_n 0, 1, 0, 0, .null)) rfl (fun _ => rfl) l0 ?_
  obtain ⟨q2, h2, h⟩ := xbind h
  refine r_callS (as := [.int v1, .ref 1020]) (rest := []) (rv := none) (hp' := xW B q2.2) (pc := 2) rfl xr290 rfl rfl rfl (Nat.le_of_ble_eq_true rfl) (Z290_1020 H X h2 (by omega)) (Nat.le_refl _) ?_
  refine q_lr (k := 1) (i := 0) (q := (.aload_n 0, 1, 0, 0, .null)) rfl (fun _ => rfl) l0 ?_
  refine q_li (k := 1) (i := 1) (q := (.iload_n 1, 1, 0, 0, .null)) rfl (fun _ => rfl) l1 ?_
  obtain ⟨q7, h7, h⟩ := xbind h
  refine r_callS (as := [.ref 1020, .int v1]) (rest := []) (rv := some (.int q7.1)) (hp' := xW B q7.2) (pc := 7) rfl xr287 rfl rfl rfl (Nat.le_of_ble_eq_true rfl) (Z287_1020 H X h7 (by omega)) (Nat.le_refl _) ?_
  obtain ⟨c1, h⟩ := xif h
  obtain rfl := Option.some.inj h
  exact q_ri (q := (.ireturn, 1, 0, 0, .null)) rfl (fun _ => rfl) rfl (xnar_ok rfl c1)
set_option maxRecDepth 20000 in
theorem Z289_1020 {B : zHp} (H : yH0 B) (X : yTx B) {F : Nat} {a1 : Int32} {m : xS} {x : Int32 × xS} (h : D289_1020 F a1 m = some x) {d : Nat} (hd : 4 ≤ d) : zCan d 289 [.ref 1020, .int a1] (xW B m) (some (.int x.1), xW B x.2) := by
  obtain ⟨e, rfl⟩ : ∃ e, d = e + 1 := ⟨d - 1, by omega⟩
  refine zCan_body (nL := 2) (rt := (some .char)) (cd := zc289) (xg289) ⟨Nat.le_of_ble_eq_true rfl, by decide⟩ (Nat.le_refl _) ?_
  exact T289_1020 H X hd F rfl rfl h
/-- java/lang/String.charAt -/
def D282_1001 (F : Nat) (v1 : Int32) (m : xS) : Option (Int32 × xS) :=
  (D284_1001 F m).bind fun q1 =>
    if zcmp .eq q1.1 0 = true then
      (D289_1020 F v1 q1.2).bind fun q21 =>
        if (vp_nar .char q21.1 == q21.1) = true then
          some (q21.1, q21.2)
        else none
    else
      (D286_1020 F v1 q1.2).bind fun q12 =>
        if (vp_nar .char q12.1 == q12.1) = true then
          some (q12.1, q12.2)
        else none
set_option maxRecDepth 20000 in
theorem T282_1001 {B : zHp} (H : yH0 B) (X : yTx B) {e : Nat} (he : 5 ≤ e + 1) (F : Nat) {v1 : Int32} {lv : List (Nat × Value)} {m : xS} {x : Int32 × xS} (l0 : zld lv 0 = some (.ref 1001)) (l1 : zld lv 1 = some (.int v1)) (h : D282_1001 F v1 m = some x) : zR none e 2 (some .char) zc282 (0, lv, []) (xW B m) (some (.int x.1), xW B x.2) := by
  unfold D282_1001 at h
  refine q_lr (k := 1) (i := 0) (q := (.aload_n 0, 1, 0, 0, .null)) rfl (fun _ => rfl) l0 ?_
  obtain ⟨q1, h1, h⟩ := xbind h
  refine r_call (ix := 1001) (as := []) (rest := []) (rv := some (.int q1.1)) (hp' := xW B q1.2) (pc := 1) rfl xr284 rfl rfl rfl rfl (Nat.le_of_ble_eq_true rfl) (Z284_1001 H X h1 (by omega)) (Nat.le_refl _) ?_
  refine r_if (len := 3) (a := 16) (b := 0) (v0 := .null) (cn := .eq) (off := 12) rfl (fun c => ?_) (fun c => ?_)
  · rw [if_pos c] at h
    refine q_lr (k := 1) (i := 0) (q := (.aload_n 0, 1, 0, 0, .null)) rfl (fun _ => rfl) l0 ?_
    refine r_s (fr' := (20, lv, [.ref 1020])) (hp' := xW B q1.2) (q := (.getfield 9, 3, 100, 0, .null)) rfl (fun _ => rfl) (Nat.le_refl _) ?_
    refine q_li (k := 1) (i := 1) (q := (.iload_n 1, 1, 0, 0, .null)) rfl (fun _ => rfl) l1 ?_
    obtain ⟨q21, h21, h⟩ := xbind h
    refine r_callS (as := [.ref 1020, .int v1]) (rest := []) (rv := some (.int q21.1)) (hp' := xW B q21.2) (pc := 21) rfl xr289 rfl rfl rfl (Nat.le_of_ble_eq_true rfl) (Z289_1020 H X h21 (by omega)) (Nat.le_refl _) ?_
    obtain ⟨c1, h⟩ := xif h
    obtain rfl := Option.some.inj h
    exact q_ri (q := (.ireturn, 1, 0, 0, .null)) rfl (fun _ => rfl) rfl (xnar_ok rfl c1)
  · rw [if_neg (by rw [c]; decide)] at h
    refine q_lr (k := 1) (i := 0) (q := (.aload_n 0, 1, 0, 0, .null)) rfl (fun _ => rfl) l0 ?_
    refine r_s (fr' := (11, lv, [.ref 1020])) (hp' := xW B q1.2) (q := (.getfield 9, 3, 100, 0, .null)) rfl (fun _ => rfl) (Nat.le_refl _) ?_
    refine q_li (k := 1) (i := 1) (q := (.iload_n 1, 1, 0, 0, .null)) rfl (fun _ => rfl) l1 ?_
    obtain ⟨q12, h12, h⟩ := xbind h
    refine r_callS (as := [.ref 1020, .int v1]) (rest := []) (rv := some (.int q12.1)) (hp' := xW B q12.2) (pc := 12) rfl xr286 rfl rfl rfl (Nat.le_of_ble_eq_true rfl) (Z286_1020 H X h12 (by omega)) (Nat.le_refl _) ?_
    obtain ⟨c2, h⟩ := xif h
    obtain rfl := Option.some.inj h
    exact q_ri (q := (.ireturn, 1, 0, 0, .null)) rfl (fun _ => rfl) rfl (xnar_ok rfl c2)
set_option maxRecDepth 20000 in
theorem Z282_1001 {B : zHp} (H : yH0 B) (X : yTx B) {F : Nat} {a1 : Int32} {m : xS} {x : Int32 × xS} (h : D282_1001 F a1 m = some x) {d : Nat} (hd : 5 ≤ d) : zCan d 282 [.ref 1001, .int a1] (xW B m) (some (.int x.1), xW B x.2) := by
  obtain ⟨e, rfl⟩ : ∃ e, d = e + 1 := ⟨d - 1, by omega⟩
  refine zCan_body (nL := 2) (rt := (some .char)) (cd := zc282) (xg282) ⟨Nat.le_of_ble_eq_true rfl, by decide⟩ (Nat.le_refl _) ?_
  exact T282_1001 H X hd F rfl rfl h
/-- LentTools$Text.passWord -/
def D59_2_1001_138 (F : Nat) (g55 : Int32 → Int32 → Int32 → Int32 → xS → Option (Int32 × xS)) (v2 : Int32) (v3 : Int32) (v4 : Int32) (v5 : Int32) (m : xS) : Option (Int32 × xS) :=
  g55 v2 v3 v4 (v5 + Int32.ofInt 1) m
set_option maxRecDepth 20000 in
theorem T59_2_1001_138 {B : zHp} (H : yH0 B) (X : yTx B) {e : Nat} (he : 6 ≤ e + 1) (F : Nat) (g55 : Int32 → Int32 → Int32 → Int32 → xS → Option (Int32 × xS)) (k55 : ∀ {v2 : Int32} {v3 : Int32} {v4 : Int32} {v5 : Int32} {lv : List (Nat × Value)} {m : xS} {x : Int32 × xS}, zld lv 0 = some (.ref 2) → zld lv 1 = some (.ref 1001) → zld lv 2 = some (.int v2) → zld lv 3 = some (.int v3) → zld lv 4 = some (.int v4) → zld lv 5 = some (.int v5) → g55 v2 v3 v4 v5 m = some x → zR none e 6 (some .int) zc59 (55, lv, []) (xW B m) (some (.int x.1), xW B x.2)) {v2 : Int32} {v3 : Int32} {v4 : Int32} {v5 : Int32} {lv : List (Nat × Value)} {m : xS} {x : Int32 × xS} (l0 : zld lv 0 = some (.ref 2)) (l1 : zld lv 1 = some (.ref 1001)) (l2 : zld lv 2 = some (.int v2)) (l3 : zld lv 3 = some (.int v3)) (l4 : zld lv 4 = some (.int v4)) (l5 : zld lv 5 = some (.int v5)) (h : D59_2_1001_138 F g55 v2 v3 v4 v5 m = some x) : zR none e 6 (some .int) zc59 (138, lv, []) (xW B m) (some (.int x.1), xW B x.2) := by
  unfold D59_2_1001_138 at h
  refine q_inc (i := 5) (n := 1) (q := (.iinc 5 1, 3, 0, 0, .null)) rfl (fun _ => rfl) l5 (by decide) ?_
  have l0_1 : zld (zs1 lv 5 (.int (v5 + Int32.ofInt 1))) 0 = some (.ref 2) := x_o1 l0 rfl rfl
  have l1_1 : zld (zs1 lv 5 (.int (v5 + Int32.ofInt 1))) 1 = some (.ref 1001) := x_o1 l1 rfl rfl
  have l2_1 : zld (zs1 lv 5 (.int (v5 + Int32.ofInt 1))) 2 = some (.int v2) := x_o1 l2 rfl rfl
  have l3_1 : zld (zs1 lv 5 (.int (v5 + Int32.ofInt 1))) 3 = some (.int v3) := x_o1 l3 rfl rfl
  have l4_1 : zld (zs1 lv 5 (.int (v5 + Int32.ofInt 1))) 4 = some (.int v4) := x_o1 l4 rfl rfl
  have l5_1 : zld (zs1 lv 5 (.int (v5 + Int32.ofInt 1))) 5 = some (.int (v5 + Int32.ofInt 1)) := zs1_ld _ _ _
  generalize (zs1 lv 5 (.int (v5 + Int32.ofInt 1))) = lv1 at *
  refine r_s (fr' := (55, lv1, [])) (hp' := xW B m) (q := (.goto (-86), 3, 55, 0, .null)) rfl (fun _ => rfl) (Nat.le_refl _) ?_
  exact k55 l0_1 l1_1 l2_1 l3_1 l4_1 l5_1 h
def D59_2_1001_111 (F : Nat) (g55 : Int32 → Int32 → Int32 → Int32 → xS → Option (Int32 × xS)) (v2 : Int32) (v3 : Int32) (v4 : Int32) (v5 : Int32) (w0 : Int32) (m : xS) : Option (Int32 × xS) :=
  D59_2_1001_138 F g55 v2 v3 w0 v5 m
set_option maxRecDepth 20000 in
theorem T59_2_1001_111 {B : zHp} (H : yH0 B) (X : yTx B) {e : Nat} (he : 6 ≤ e + 1) (F : Nat) (g55 : Int32 → Int32 → Int32 → Int32 → xS → Option (Int32 × xS)) (k55 : ∀ {v2 : Int32} {v3 : Int32} {v4 : Int32} {v5 : Int32} {lv : List (Nat × Value)} {m : xS} {x : Int32 × xS}, zld lv 0 = some (.ref 2) → zld lv 1 = some (.ref 1001) → zld lv 2 = some (.int v2) → zld lv 3 = some (.int v3) → zld lv 4 = some (.int v4) → zld lv 5 = some (.int v5) → g55 v2 v3 v4 v5 m = some x → zR none e 6 (some .int) zc59 (55, lv, []) (xW B m) (some (.int x.1), xW B x.2)) {v2 : Int32} {v3 : Int32} {v4 : Int32} {v5 : Int32} {w0 : Int32} {lv : List (Nat × Value)} {m : xS} {x : Int32 × xS} (l0 : zld lv 0 = some (.ref 2)) (l1 : zld lv 1 = some (.ref 1001)) (l2 : zld lv 2 = some (.int v2)) (l3 : zld lv 3 = some (.int v3)) (l4 : zld lv 4 = some (.int v4)) (l5 : zld lv 5 = some (.int v5)) (h : D59_2_1001_111 F g55 v2 v3 v4 v5 w0 m = some x) : zR none e 6 (some .int) zc59 (111, lv, [.int w0]) (xW B m) (some (.int x.1), xW B x.2) := by
  unfold D59_2_1001_111 at h
  refine q_si (k := 2) (i := 4) (q := (.istore 4, 2, 0, 0, .null)) rfl (fun _ => rfl) (by decide) ?_
  have l0_1 : zld (zs1 lv 4 (.int w0)) 0 = some (.ref 2) := x_o1 l0 rfl rfl
  have l1_1 : zld (zs1 lv 4 (.int w0)) 1 = some (.ref 1001) := x_o1 l1 rfl rfl
  have l2_1 : zld (zs1 lv 4 (.int w0)) 2 = some (.int v2) := x_o1 l2 rfl rfl
  have l3_1 : zld (zs1 lv 4 (.int w0)) 3 = some (.int v3) := x_o1 l3 rfl rfl
  have l4_1 : zld (zs1 lv 4 (.int w0)) 4 = some (.int w0) := zs1_ld _ _ _
  have l5_1 : zld (zs1 lv 4 (.int w0)) 5 = some (.int v5) := x_o1 l5 rfl rfl
  generalize (zs1 lv 4 (.int w0)) = lv1 at *
  refine r_s (fr' := (138, lv1, [])) (hp' := xW B m) (q := (.goto 25, 3, 138, 0, .null)) rfl (fun _ => rfl) (Nat.le_refl _) ?_
  exact T59_2_1001_138 H X he F _ k55 l0_1 l1_1 l2_1 l3_1 l4_1 l5_1 h
def D59_2_1001_110 (F : Nat) (g55 : Int32 → Int32 → Int32 → Int32 → xS → Option (Int32 × xS)) (v2 : Int32) (v3 : Int32) (v4 : Int32) (v5 : Int32) (m : xS) : Option (Int32 × xS) :=
  D59_2_1001_111 F g55 v2 v3 v4 v5 (-1) m
set_option maxRecDepth 20000 in
theorem T59_2_1001_110 {B : zHp} (H : yH0 B) (X : yTx B) {e : Nat} (he : 6 ≤ e + 1) (F : Nat) (g55 : Int32 → Int32 → Int32 → Int32 → xS → Option (Int32 × xS)) (k55 : ∀ {v2 : Int32} {v3 : Int32} {v4 : Int32} {v5 : Int32} {lv : List (Nat × Value)} {m : xS} {x : Int32 × xS}, zld lv 0 = some (.ref 2) → zld lv 1 = some (.ref 1001) → zld lv 2 = some (.int v2) → zld lv 3 = some (.int v3) → zld lv 4 = some (.int v4) → zld lv 5 = some (.int v5) → g55 v2 v3 v4 v5 m = some x → zR none e 6 (some .int) zc59 (55, lv, []) (xW B m) (some (.int x.1), xW B x.2)) {v2 : Int32} {v3 : Int32} {v4 : Int32} {v5 : Int32} {lv : List (Nat × Value)} {m : xS} {x : Int32 × xS} (l0 : zld lv 0 = some (.ref 2)) (l1 : zld lv 1 = some (.ref 1001)) (l2 : zld lv 2 = some (.int v2)) (l3 : zld lv 3 = some (.int v3)) (l4 : zld lv 4 = some (.int v4)) (l5 : zld lv 5 = some (.int v5)) (h : D59_2_1001_110 F g55 v2 v3 v4 v5 m = some x) : zR none e 6 (some .int) zc59 (110, lv, []) (xW B m) (some (.int x.1), xW B x.2) := by
  unfold D59_2_1001_110 at h
  refine r_s (fr' := (111, lv, [.int (-1)])) (hp' := xW B m) (q := (.iconst (-1), 1, 0, 0, .null)) rfl (fun _ => rfl) (Nat.le_refl _) ?_
  exact T59_2_1001_111 H X he F _ k55 l0 l1 l2 l3 l4 l5 h
def D59_2_1001_55 (F : Nat) : Nat → Int32 → Int32 → Int32 → Int32 → xS → Option (Int32 × xS)
  | 0, _, _, _, _, _ => none
  | f + 1, v2, v3, v4, v5, m =>
    (D281_1001 F m).bind fun q58 =>
      if zcmp .ge v5 q58.1 = true then
        some ((-1), q58.2)
      else
        (D282_1001 F v5 q58.2).bind fun q67 =>
          if zcmp .eq q67.1 32 = true then
            if zcmp .ne v4 v2 = true then
              D59_2_1001_138 F (D59_2_1001_55 F f) v2 (v3 + Int32.ofInt 1) (q67.2.1 2 3) v5 q67.2
            else
              some (v3, (xu q67.2 2 2 v2))
          else
            if zcmp .eq v4 (-1) = true then
              D59_2_1001_110 F (D59_2_1001_55 F f) v2 v3 v4 v5 q67.2
            else
              if zcmp .ge v4 v2 = true then
                D59_2_1001_110 F (D59_2_1001_55 F f) v2 v3 v4 v5 q67.2
              else
                if xib v4 400 = true then
                  (D282_1001 F v5 q67.2).bind fun q97 =>
                    if zcmp .ne (q67.2.1 1 (v4 : Int32).toNatClampNeg) q97.1 = true then
                      D59_2_1001_110 F (D59_2_1001_55 F f) v2 v3 v4 v5 q97.2
                    else
                      D59_2_1001_111 F (D59_2_1001_55 F f) v2 v3 v4 v5 (v4 + 1) q97.2
                else none
set_option maxRecDepth 20000 in
theorem T59_2_1001_55 {B : zHp} (H : yH0 B) (X : yTx B) {e : Nat} (he : 6 ≤ e + 1) (F : Nat) : ∀ (f : Nat) {v2 : Int32} {v3 : Int32} {v4 : Int32} {v5 : Int32} {lv : List (Nat × Value)} {m : xS} {x : Int32 × xS}, zld lv 0 = some (.ref 2) → zld lv 1 = some (.ref 1001) → zld lv 2 = some (.int v2) → zld lv 3 = some (.int v3) → zld lv 4 = some (.int v4) → zld lv 5 = some (.int v5) → D59_2_1001_55 F f v2 v3 v4 v5 m = some x → zR none e 6 (some .int) zc59 (55, lv, []) (xW B m) (some (.int x.1), xW B x.2) := by
  intro f
  induction f with
  | zero => intro v2 v3 v4 v5 lv m x l0 l1 l2 l3 l4 l5 h; cases h
  | succ f ih =>
    intro v2 v3 v4 v5 lv m x l0 l1 l2 l3 l4 l5 h
    unfold D59_2_1001_55 at h
    refine q_li (k := 2) (i := 5) (q := (.iload 5, 2, 0, 0, .null)) rfl (fun _ => rfl) l5 ?_
    refine q_lr (k := 1) (i := 1) (q := (.aload_n 1, 1, 0, 0, .null)) rfl (fun _ => rfl) l1 ?_
    obtain ⟨q58, h58, h⟩ := xbind h
    refine r_call (ix := 1001) (as := []) (rest := [.int v5]) (rv := some (.int q58.1)) (hp' := xW B q58.2) (pc := 58) rfl xr281 rfl rfl rfl rfl (Nat.le_of_ble_eq_true rfl) (Z281_1001 H X h58 (by omega)) (Nat.le_refl _) ?_
    refine r_ifc (len := 3) (a := 144) (b := 0) (v0 := .null) (cn := .ge) (off := 83) rfl (fun c => ?_) (fun c => ?_)
    · rw [if_pos c] at h
      refine r_s (fr' := (145, lv, [.int (-1)])) (hp' := xW B q58.2) (q := (.iconst (-1), 1, 0, 0, .null)) rfl (fun _ => rfl) (Nat.le_refl _) ?_
      obtain rfl := Option.some.inj h
      exact q_ri (q := (.ireturn, 1, 0, 0, .null)) rfl (fun _ => rfl) rfl rfl
    · rw [if_neg (by rw [c]; decide)] at h
      refine q_lr (k := 1) (i := 1) (q := (.aload_n 1, 1, 0, 0, .null)) rfl (fun _ => rfl) l1 ?_
      refine q_li (k := 2) (i := 5) (q := (.iload 5, 2, 0, 0, .null)) rfl (fun _ => rfl) l5 ?_
      obtain ⟨q67, h67, h⟩ := xbind h
      refine r_call (ix := 1001) (as := [.int v5]) (rest := []) (rv := some (.int q67.1)) (hp' := xW B q67.2) (pc := 67) rfl xr282 rfl rfl rfl rfl (Nat.le_of_ble_eq_true rfl) (Z282_1001 H X h67 (by omega)) (Nat.le_refl _) ?_
      refine r_s (fr' := (72, lv, [.int 32, .int q67.1])) (hp' := xW B q67.2) (q := (.bipush 32, 2, 0, 0, .null)) rfl (fun _ => rfl) (Nat.le_refl _) ?_
      refine r_ifc (len := 3) (a := 116) (b := 0) (v0 := .null) (cn := .eq) (off := 44) rfl (fun c => ?_) (fun c => ?_)
      · rw [if_pos c] at h
        refine q_li (k := 2) (i := 4) (q := (.iload 4, 2, 0, 0, .null)) rfl (fun _ => rfl) l4 ?_
        refine q_li (k := 1) (i := 2) (q := (.iload_n 2, 1, 0, 0, .null)) rfl (fun _ => rfl) l2 ?_
        refine r_ifc (len := 3) (a := 129) (b := 0) (v0 := .null) (cn := .ne) (off := 10) rfl (fun c => ?_) (fun c => ?_)
        · rw [if_pos c] at h
          refine q_inc (i := 3) (n := 1) (q := (.iinc 3 1, 3, 0, 0, .null)) rfl (fun _ => rfl) l3 (by decide) ?_
          have l0_1 : zld (zs1 lv 3 (.int (v3 + Int32.ofInt 1))) 0 = some (.ref 2) := x_o1 l0 rfl rfl
          have l1_1 : zld (zs1 lv 3 (.int (v3 + Int32.ofInt 1))) 1 = some (.ref 1001) := x_o1 l1 rfl rfl
          have l2_1 : zld (zs1 lv 3 (.int (v3 + Int32.ofInt 1))) 2 = some (.int v2) := x_o1 l2 rfl rfl
          have l3_1 : zld (zs1 lv 3 (.int (v3 + Int32.ofInt 1))) 3 = some (.int (v3 + Int32.ofInt 1)) := zs1_ld _ _ _
          have l4_1 : zld (zs1 lv 3 (.int (v3 + Int32.ofInt 1))) 4 = some (.int v4) := x_o1 l4 rfl rfl
          have l5_1 : zld (zs1 lv 3 (.int (v3 + Int32.ofInt 1))) 5 = some (.int v5) := x_o1 l5 rfl rfl
          generalize (zs1 lv 3 (.int (v3 + Int32.ofInt 1))) = lv1 at *
          refine q_lr (k := 1) (i := 0) (q := (.aload_n 0, 1, 0, 0, .null)) rfl (fun _ => rfl) l0_1 ?_
          refine r_gi (v := (q67.2.1 2 3)) H (pc := 133) (i := _) rfl (by decide) (by decide) rfl ?_
          refine q_si (k := 2) (i := 4) (q := (.istore 4, 2, 0, 0, .null)) rfl (fun _ => rfl) (by decide) ?_
          have l0_2 : zld (zs1 lv1 4 (.int (q67.2.1 2 3))) 0 = some (.ref 2) := x_o1 l0_1 rfl rfl
          have l1_2 : zld (zs1 lv1 4 (.int (q67.2.1 2 3))) 1 = some (.ref 1001) := x_o1 l1_1 rfl rfl
          have l2_2 : zld (zs1 lv1 4 (.int (q67.2.1 2 3))) 2 = some (.int v2) := x_o1 l2_1 rfl rfl
          have l3_2 : zld (zs1 lv1 4 (.int (q67.2.1 2 3))) 3 = some (.int (v3 + Int32.ofInt 1)) := x_o1 l3_1 rfl rfl
          have l4_2 : zld (zs1 lv1 4 (.int (q67.2.1 2 3))) 4 = some (.int (q67.2.1 2 3)) := zs1_ld _ _ _
          have l5_2 : zld (zs1 lv1 4 (.int (q67.2.1 2 3))) 5 = some (.int v5) := x_o1 l5_1 rfl rfl
          generalize (zs1 lv1 4 (.int (q67.2.1 2 3))) = lv2 at *
          exact T59_2_1001_138 H X he F _ ih l0_2 l1_2 l2_2 l3_2 l4_2 l5_2 h
        · rw [if_neg (by rw [c]; decide)] at h
          refine q_lr (k := 1) (i := 0) (q := (.aload_n 0, 1, 0, 0, .null)) rfl (fun _ => rfl) l0 ?_
          refine q_li (k := 1) (i := 2) (q := (.iload_n 2, 1, 0, 0, .null)) rfl (fun _ => rfl) l2 ?_
          refine r_pi (s2 := (xu q67.2 2 2 v2)) H (pc := 124) rfl (by decide) rfl rfl ?_
          refine q_li (k := 1) (i := 3) (q := (.iload_n 3, 1, 0, 0, .null)) rfl (fun _ => rfl) l3 ?_
          obtain rfl := Option.some.inj h
          exact q_ri (q := (.ireturn, 1, 0, 0, .null)) rfl (fun _ => rfl) rfl rfl
      · rw [if_neg (by rw [c]; decide)] at h
        refine q_li (k := 2) (i := 4) (q := (.iload 4, 2, 0, 0, .null)) rfl (fun _ => rfl) l4 ?_
        refine r_s (fr' := (78, lv, [.int (-1), .int v4])) (hp' := xW B q67.2) (q := (.iconst (-1), 1, 0, 0, .null)) rfl (fun _ => rfl) (Nat.le_refl _) ?_
        refine r_ifc (len := 3) (a := 110) (b := 0) (v0 := .null) (cn := .eq) (off := 32) rfl (fun c => ?_) (fun c => ?_)
        · rw [if_pos c] at h
          exact T59_2_1001_110 H X he F _ ih l0 l1 l2 l3 l4 l5 h
        · rw [if_neg (by rw [c]; decide)] at h
          refine q_li (k := 2) (i := 4) (q := (.iload 4, 2, 0, 0, .null)) rfl (fun _ => rfl) l4 ?_
          refine q_li (k := 1) (i := 2) (q := (.iload_n 2, 1, 0, 0, .null)) rfl (fun _ => rfl) l2 ?_
          refine r_ifc (len := 3) (a := 110) (b := 0) (v0 := .null) (cn := .ge) (off := 26) rfl (fun c => ?_) (fun c => ?_)
          · rw [if_pos c] at h
            exact T59_2_1001_110 H X he F _ ih l0 l1 l2 l3 l4 l5 h
          · rw [if_neg (by rw [c]; decide)] at h
            refine q_lr (k := 1) (i := 0) (q := (.aload_n 0, 1, 0, 0, .null)) rfl (fun _ => rfl) l0 ?_
            refine r_grx H X (pc := 88) rfl ?_
            refine q_li (k := 2) (i := 4) (q := (.iload 4, 2, 0, 0, .null)) rfl (fun _ => rfl) l4 ?_
            obtain ⟨c3, h⟩ := xif h
            refine q_al (n := 400) (v := (q67.2.1 1 (v4 : Int32).toNatClampNeg)) H (pc := 93) rfl (by decide) c3 rfl ?_
            refine q_lr (k := 1) (i := 1) (q := (.aload_n 1, 1, 0, 0, .null)) rfl (fun _ => rfl) l1 ?_
            refine q_li (k := 2) (i := 5) (q := (.iload 5, 2, 0, 0, .null)) rfl (fun _ => rfl) l5 ?_
            obtain ⟨q97, h97, h⟩ := xbind h
            refine r_call (ix := 1001) (as := [.int v5]) (rest := [.int (q67.2.1 1 (v4 : Int32).toNatClampNeg)]) (rv := some (.int q97.1)) (hp' := xW B q97.2) (pc := 97) rfl xr282 rfl rfl rfl rfl (Nat.le_of_ble_eq_true rfl) (Z282_1001 H X h97 (by omega)) (Nat.le_refl _) ?_
            refine r_ifc (len := 3) (a := 110) (b := 0) (v0 := .null) (cn := .ne) (off := 10) rfl (fun c => ?_) (fun c => ?_)
            · rw [if_pos c] at h
              exact T59_2_1001_110 H X he F _ ih l0 l1 l2 l3 l4 l5 h
            · rw [if_neg (by rw [c]; decide)] at h
              refine q_li (k := 2) (i := 4) (q := (.iload 4, 2, 0, 0, .null)) rfl (fun _ => rfl) l4 ?_
              refine r_s (fr' := (106, lv, [.int 1, .int v4])) (hp' := xW B q97.2) (q := (.iconst 1, 1, 0, 0, .null)) rfl (fun _ => rfl) (Nat.le_refl _) ?_
              refine r_s (fr' := (107, lv, [.int (v4 + 1)])) (hp' := xW B q97.2) (q := (.iadd, 1, 0, 0, .null)) rfl (fun _ => rfl) (Nat.le_refl _) ?_
              refine r_s (fr' := (111, lv, [.int (v4 + 1)])) (hp' := xW B q97.2) (q := (.goto 4, 3, 111, 0, .null)) rfl (fun _ => rfl) (Nat.le_refl _) ?_
              exact T59_2_1001_111 H X he F _ ih l0 l1 l2 l3 l4 l5 h
def D59_2_1001_44 (F : Nat) (v2 : Int32) (m : xS) : Option (Int32 × xS) :=
  D59_2_1001_55 F F v2 0 (m.1 2 3) 0 m
set_option maxRecDepth 20000 in
theorem T59_2_1001_44 {B : zHp} (H : yH0 B) (X : yTx B) {e : Nat} (he : 6 ≤ e + 1) (F : Nat) {v2 : Int32} {lv : List (Nat × Value)} {m : xS} {x : Int32 × xS} (l0 : zld lv 0 = some (.ref 2)) (l1 : zld lv 1 = some (.ref 1001)) (l2 : zld lv 2 = some (.int v2)) (h : D59_2_1001_44 F v2 m = some x) : zR none e 6 (some .int) zc59 (44, lv, []) (xW B m) (some (.int x.1), xW B x.2) := by
  unfold D59_2_1001_44 at h
  refine r_s (fr' := (45, lv, [.int 0])) (hp' := xW B m) (q := (.iconst 0, 1, 0, 0, .null)) rfl (fun _ => rfl) (Nat.le_refl _) ?_
  refine q_si (k := 1) (i := 3) (q := (.istore_n 3, 1, 0, 0, .null)) rfl (fun _ => rfl) (by decide) ?_
  have l0_1 : zld (zs1 lv 3 (.int 0)) 0 = some (.ref 2) := x_o1 l0 rfl rfl
  have l1_1 : zld (zs1 lv 3 (.int 0)) 1 = some (.ref 1001) := x_o1 l1 rfl rfl
  have l2_1 : zld (zs1 lv 3 (.int 0)) 2 = some (.int v2) := x_o1 l2 rfl rfl
  have l3_1 : zld (zs1 lv 3 (.int 0)) 3 = some (.int 0) := zs1_ld _ _ _
  generalize (zs1 lv 3 (.int 0)) = lv1 at *
  refine q_lr (k := 1) (i := 0) (q := (.aload_n 0, 1, 0, 0, .null)) rfl (fun _ => rfl) l0_1 ?_
  refine r_gi (v := (m.1 2 3)) H (pc := 47) (i := _) rfl (by decide) (by decide) rfl ?_
  refine q_si (k := 2) (i := 4) (q := (.istore 4, 2, 0, 0, .null)) rfl (fun _ => rfl) (by decide) ?_
  have l0_2 : zld (zs1 lv1 4 (.int (m.1 2 3))) 0 = some (.ref 2) := x_o1 l0_1 rfl rfl
  have l1_2 : zld (zs1 lv1 4 (.int (m.1 2 3))) 1 = some (.ref 1001) := x_o1 l1_1 rfl rfl
  have l2_2 : zld (zs1 lv1 4 (.int (m.1 2 3))) 2 = some (.int v2) := x_o1 l2_1 rfl rfl
  have l3_2 : zld (zs1 lv1 4 (.int (m.1 2 3))) 3 = some (.int 0) := x_o1 l3_1 rfl rfl
  have l4_2 : zld (zs1 lv1 4 (.int (m.1 2 3))) 4 = some (.int (m.1 2 3)) := zs1_ld _ _ _
  generalize (zs1 lv1 4 (.int (m.1 2 3))) = lv2 at *
  refine r_s (fr' := (53, lv2, [.int 0])) (hp' := xW B m) (q := (.iconst 0, 1, 0, 0, .null)) rfl (fun _ => rfl) (Nat.le_refl _) ?_
  refine q_si (k := 2) (i := 5) (q := (.istore 5, 2, 0, 0, .null)) rfl (fun _ => rfl) (by decide) ?_
  have l0_3 : zld (zs1 lv2 5 (.int 0)) 0 = some (.ref 2) := x_o1 l0_2 rfl rfl
  have l1_3 : zld (zs1 lv2 5 (.int 0)) 1 = some (.ref 1001) := x_o1 l1_2 rfl rfl
  have l2_3 : zld (zs1 lv2 5 (.int 0)) 2 = some (.int v2) := x_o1 l2_2 rfl rfl
  have l3_3 : zld (zs1 lv2 5 (.int 0)) 3 = some (.int 0) := x_o1 l3_2 rfl rfl
  have l4_3 : zld (zs1 lv2 5 (.int 0)) 4 = some (.int (m.1 2 3)) := x_o1 l4_2 rfl rfl
  have l5_3 : zld (zs1 lv2 5 (.int 0)) 5 = some (.int 0) := zs1_ld _ _ _
  generalize (zs1 lv2 5 (.int 0)) = lv3 at *
  exact T59_2_1001_55 H X he F F l0_3 l1_3 l2_3 l3_3 l4_3 l5_3 h
def D59_2_1001_18 (F : Nat) : Nat → Int32 → xS → Option (Int32 × xS)
  | 0, _, _ => none
  | f + 1, v2, m =>
    if zcmp .ge v2 (m.1 2 1) = true then
      D59_2_1001_44 F v2 m
    else
      if xib v2 400 = true then
        (D57 F (m.1 1 (v2 : Int32).toNatClampNeg) m).bind fun q32 =>
          if zcmp .eq q32.1 0 = true then
            D59_2_1001_44 F v2 q32.2
          else
            D59_2_1001_18 F f (v2 + Int32.ofInt 1) q32.2
      else none
set_option maxRecDepth 20000 in
theorem T59_2_1001_18 {B : zHp} (H : yH0 B) (X : yTx B) {e : Nat} (he : 6 ≤ e + 1) (F : Nat) : ∀ (f : Nat) {v2 : Int32} {lv : List (Nat × Value)} {m : xS} {x : Int32 × xS}, zld lv 0 = some (.ref 2) → zld lv 1 = some (.ref 1001) → zld lv 2 = some (.int v2) → D59_2_1001_18 F f v2 m = some x → zR none e 6 (some .int) zc59 (18, lv, []) (xW B m) (some (.int x.1), xW B x.2) := by
  intro f
  induction f with
  | zero => intro v2 lv m x l0 l1 l2 h; cases h
  | succ f ih =>
    intro v2 lv m x l0 l1 l2 h
    unfold D59_2_1001_18 at h
    refine q_li (k := 1) (i := 2) (q := (.iload_n 2, 1, 0, 0, .null)) rfl (fun _ => rfl) l2 ?_
    refine q_lr (k := 1) (i := 0) (q := (.aload_n 0, 1, 0, 0, .null)) rfl (fun _ => rfl) l0 ?_
    refine r_gi (v := (m.1 2 1)) H (pc := 20) (i := _) rfl (by decide) (by decide) rfl ?_
    refine r_ifc (len := 3) (a := 44) (b := 0) (v0 := .null) (cn := .ge) (off := 21) rfl (fun c => ?_) (fun c => ?_)
    · rw [if_pos c] at h
      exact T59_2_1001_44 H X he F l0 l1 l2 h
    · rw [if_neg (by rw [c]; decide)] at h
      refine q_lr (k := 1) (i := 0) (q := (.aload_n 0, 1, 0, 0, .null)) rfl (fun _ => rfl) l0 ?_
      refine r_grx H X (pc := 27) rfl ?_
      refine q_li (k := 1) (i := 2) (q := (.iload_n 2, 1, 0, 0, .null)) rfl (fun _ => rfl) l2 ?_
      obtain ⟨c1, h⟩ := xif h
      refine q_al (n := 400) (v := (m.1 1 (v2 : Int32).toNatClampNeg)) H (pc := 31) rfl (by decide) c1 rfl ?_
      obtain ⟨q32, h32, h⟩ := xbind h
      refine r_callS (as := [.int (m.1 1 (v2 : Int32).toNatClampNeg)]) (rest := []) (rv := some (.int q32.1)) (hp' := xW B q32.2) (pc := 32) rfl xr57 rfl rfl rfl (Nat.le_of_ble_eq_true rfl) (Z57 H X h32 (by omega)) (Nat.le_refl _) ?_
      refine r_if (len := 3) (a := 44) (b := 0) (v0 := .null) (cn := .eq) (off := 9) rfl (fun c => ?_) (fun c => ?_)
      · rw [if_pos c] at h
        exact T59_2_1001_44 H X he F l0 l1 l2 h
      · rw [if_neg (by rw [c]; decide)] at h
        refine q_inc (i := 2) (n := 1) (q := (.iinc 2 1, 3, 0, 0, .null)) rfl (fun _ => rfl) l2 (by decide) ?_
        have l0_2 : zld (zs1 lv 2 (.int (v2 + Int32.ofInt 1))) 0 = some (.ref 2) := x_o1 l0 rfl rfl
        have l1_2 : zld (zs1 lv 2 (.int (v2 + Int32.ofInt 1))) 1 = some (.ref 1001) := x_o1 l1 rfl rfl
        have l2_2 : zld (zs1 lv 2 (.int (v2 + Int32.ofInt 1))) 2 = some (.int (v2 + Int32.ofInt 1)) := zs1_ld _ _ _
        generalize (zs1 lv 2 (.int (v2 + Int32.ofInt 1))) = lv2 at *
        refine r_s (fr' := (18, lv2, [])) (hp' := xW B q32.2) (q := (.goto (-23), 3, 18, 0, .null)) rfl (fun _ => rfl) (Nat.le_refl _) ?_
        exact ih l0_2 l1_2 l2_2 h
def D59_2_1001 (F : Nat) (m : xS) : Option (Int32 × xS) :=
  (D53_2 F m).bind fun q1 =>
    D59_2_1001_18 F F (q1.2.1 2 2) (xu q1.2 2 3 (q1.2.1 2 2))
set_option maxRecDepth 20000 in
theorem T59_2_1001 {B : zHp} (H : yH0 B) (X : yTx B) {e : Nat} (he : 6 ≤ e + 1) (F : Nat) {lv : List (Nat × Value)} {m : xS} {x : Int32 × xS} (l0 : zld lv 0 = some (.ref 2)) (l1 : zld lv 1 = some (.ref 1001)) (h : D59_2_1001 F m = some x) : zR none e 6 (some .int) zc59 (0, lv, []) (xW B m) (some (.int x.1), xW B x.2) := by
  unfold D59_2_1001 at h
  refine q_lr (k := 1) (i := 0) (q := (.aload_n 0, 1, 0, 0, .null)) rfl (fun _ => rfl) l0 ?_
  obtain ⟨q1, h1, h⟩ := xbind h
  refine r_call (ix := 2) (as := []) (rest := []) (rv := some (.int q1.1)) (hp' := xW B q1.2) (pc := 1) rfl xr53 rfl rfl rfl (xkd H (by decide)) (Nat.le_of_ble_eq_true rfl) (Z53_2 H X h1 (by omega)) (Nat.le_refl _) ?_
  refine r_s (fr' := (5, lv, [])) (hp' := xW B q1.2) (q := (.pop, 1, 0, 0, .null)) rfl (fun _ => rfl) (Nat.le_refl _) ?_
  refine q_lr (k := 1) (i := 0) (q := (.aload_n 0, 1, 0, 0, .null)) rfl (fun _ => rfl) l0 ?_
  refine q_lr (k := 1) (i := 0) (q := (.aload_n 0, 1, 0, 0, .null)) rfl (fun _ => rfl) l0 ?_
  refine r_gi (v := (q1.2.1 2 2)) H (pc := 7) (i := _) rfl (by decide) (by decide) rfl ?_
  refine r_pi (s2 := (xu q1.2 2 3 (q1.2.1 2 2))) H (pc := 10) rfl (by decide) rfl rfl ?_
  refine q_lr (k := 1) (i := 0) (q := (.aload_n 0, 1, 0, 0, .null)) rfl (fun _ => rfl) l0 ?_
  refine r_gi (v := (q1.2.1 2 2)) H (pc := 14) (i := _) rfl (by decide) (by decide) rfl ?_
  refine q_si (k := 1) (i := 2) (q := (.istore_n 2, 1, 0, 0, .null)) rfl (fun _ => rfl) (by decide) ?_
  have l0_1 : zld (zs1 lv 2 (.int (q1.2.1 2 2))) 0 = some (.ref 2) := x_o1 l0 rfl rfl
  have l1_1 : zld (zs1 lv 2 (.int (q1.2.1 2 2))) 1 = some (.ref 1001) := x_o1 l1 rfl rfl
  have l2_1 : zld (zs1 lv 2 (.int (q1.2.1 2 2))) 2 = some (.int (q1.2.1 2 2)) := zs1_ld _ _ _
  generalize (zs1 lv 2 (.int (q1.2.1 2 2))) = lv1 at *
  exact T59_2_1001_18 H X he F F l0_1 l1_1 l2_1 h
set_option maxRecDepth 20000 in
theorem Z59_2_1001 {B : zHp} (H : yH0 B) (X : yTx B) {F : Nat} {m : xS} {x : Int32 × xS} (h : D59_2_1001 F m = some x) {d : Nat} (hd : 6 ≤ d) : zCan d 59 [.ref 2, .ref 1001] (xW B m) (some (.int x.1), xW B x.2) := by
  obtain ⟨e, rfl⟩ : ∃ e, d = e + 1 := ⟨d - 1, by omega⟩
  refine zCan_body (nL := 6) (rt := (some .int)) (cd := zc59) (xg59) ⟨Nat.le_of_ble_eq_true rfl, by decide⟩ (Nat.le_refl _) ?_
  exact T59_2_1001 H X hd F rfl rfl h
/-- LentTools$Text.expectWord -/
def D60_2_1001_20 (F : Nat) (v2 : Int32) (m : xS) : Option (Int32 × xS) :=
  some (v2, m)
set_option maxRecDepth 20000 in
theorem T60_2_1001_20 {B : zHp} (H : yH0 B) (X : yTx B) {e : Nat} (he : 7 ≤ e + 1) (F : Nat) {v2 : Int32} {lv : List (Nat × Value)} {m : xS} {x : Int32 × xS} (l0 : zld lv 0 = some (.ref 2)) (l1 : zld lv 1 = some (.ref 1001)) (l2 : zld lv 2 = some (.int v2)) (h : D60_2_1001_20 F v2 m = some x) : zR none e 3 (some .int) zc60 (20, lv, []) (xW B m) (some (.int x.1), xW B x.2) := by
  unfold D60_2_1001_20 at h
  refine q_li (k := 1) (i := 2) (q := (.iload_n 2, 1, 0, 0, .null)) rfl (fun _ => rfl) l2 ?_
  obtain rfl := Option.some.inj h
  exact q_ri (q := (.ireturn, 1, 0, 0, .null)) rfl (fun _ => rfl) rfl rfl
def D60_2_1001 (F : Nat) (m : xS) : Option (Int32 × xS) :=
  (D59_2_1001 F m).bind fun q2 =>
    if zcmp .ne q2.1 (-1) = true then
      D60_2_1001_20 F q2.1 q2.2
    else
      (D52_2 F (q2.2.1 2 3) 0 q2.2).bind fun q17 =>
        D60_2_1001_20 F q2.1 q17.2
set_option maxRecDepth 20000 in
theorem T60_2_1001 {B : zHp} (H : yH0 B) (X : yTx B) {e : Nat} (he : 7 ≤ e + 1) (F : Nat) {lv : List (Nat × Value)} {m : xS} {x : Int32 × xS} (l0 : zld lv 0 = some (.ref 2)) (l1 : zld lv 1 = some (.ref 1001)) (h : D60_2_1001 F m = some x) : zR none e 3 (some .int) zc60 (0, lv, []) (xW B m) (some (.int x.1), xW B x.2) := by
  unfold D60_2_1001 at h
  refine q_lr (k := 1) (i := 0) (q := (.aload_n 0, 1, 0, 0, .null)) rfl (fun _ => rfl) l0 ?_
  refine q_lr (k := 1) (i := 1) (q := (.aload_n 1, 1, 0, 0, .null)) rfl (fun _ => rfl) l1 ?_
  obtain ⟨q2, h2, h⟩ := xbind h
  refine r_call (ix := 2) (as := [.ref 1001]) (rest := []) (rv := some (.int q2.1)) (hp' := xW B q2.2) (pc := 2) rfl xr59 rfl rfl rfl (xkd H (by decide)) (Nat.le_of_ble_eq_true rfl) (Z59_2_1001 H X h2 (by omega)) (Nat.le_refl _) ?_
  refine q_si (k := 1) (i := 2) (q := (.istore_n 2, 1, 0, 0, .null)) rfl (fun _ => rfl) (by decide) ?_
  have l0_1 : zld (zs1 lv 2 (.int q2.1)) 0 = some (.ref 2) := x_o1 l0 rfl rfl
  have l1_1 : zld (zs1 lv 2 (.int q2.1)) 1 = some (.ref 1001) := x_o1 l1 rfl rfl
  have l2_1 : zld (zs1 lv 2 (.int q2.1)) 2 = some (.int q2.1) := zs1_ld _ _ _
  generalize (zs1 lv 2 (.int q2.1)) = lv1 at *
  refine q_li (k := 1) (i := 2) (q := (.iload_n 2, 1, 0, 0, .null)) rfl (fun _ => rfl) l2_1 ?_
  refine r_s (fr' := (8, lv1, [.int (-1), .int q2.1])) (hp' := xW B q2.2) (q := (.iconst (-1), 1, 0, 0, .null)) rfl (fun _ => rfl) (Nat.le_refl _) ?_
  refine r_ifc (len := 3) (a := 20) (b := 0) (v0 := .null) (cn := .ne) (off := 12) rfl (fun c => ?_) (fun c => ?_)
  · rw [if_pos c] at h
    exact T60_2_1001_20 H X he F l0_1 l1_1 l2_1 h
  · rw [if_neg (by rw [c]; decide)] at h
    refine q_lr (k := 1) (i := 0) (q := (.aload_n 0, 1, 0, 0, .null)) rfl (fun _ => rfl) l0_1 ?_
    refine q_lr (k := 1) (i := 0) (q := (.aload_n 0, 1, 0, 0, .null)) rfl (fun _ => rfl) l0_1 ?_
    refine r_gi (v := (q2.2.1 2 3)) H (pc := 13) (i := _) rfl (by decide) (by decide) rfl ?_
    refine r_s (fr' := (17, lv1, [.int 0, .int (q2.2.1 2 3), .ref 2])) (hp' := xW B q2.2) (q := (.iconst 0, 1, 0, 0, .null)) rfl (fun _ => rfl) (Nat.le_refl _) ?_
    obtain ⟨q17, h17, h⟩ := xbind h
    refine r_call (ix := 2) (as := [.int (q2.2.1 2 3), .int 0]) (rest := []) (rv := none) (hp' := xW B q17.2) (pc := 17) rfl xr52 rfl rfl rfl (xkd H (by decide)) (Nat.le_of_ble_eq_true rfl) (Z52_2 H X h17 (by omega)) (Nat.le_refl _) ?_
    exact T60_2_1001_20 H X he F l0_1 l1_1 l2_1 h
set_option maxRecDepth 20000 in
theorem Z60_2_1001 {B : zHp} (H : yH0 B) (X : yTx B) {F : Nat} {m : xS} {x : Int32 × xS} (h : D60_2_1001 F m = some x) {d : Nat} (hd : 7 ≤ d) : zCan d 60 [.ref 2, .ref 1001] (xW B m) (some (.int x.1), xW B x.2) := by
  obtain ⟨e, rfl⟩ : ∃ e, d = e + 1 := ⟨d - 1, by omega⟩
  refine zCan_body (nL := 3) (rt := (some .int)) (cd := zc60) (xg60) ⟨Nat.le_of_ble_eq_true rfl, by decide⟩ (Nat.le_refl _) ?_
  exact T60_2_1001 H X hd F rfl rfl h
/-- LentTools$Village.tools -/
def D79_11 (F : Nat) (m : xS) : Option (Int32 × xS) :=
  some ((m.1 12 2), m)
set_option maxRecDepth 20000 in
theorem T79_11 {B : zHp} (H : yH0 B) (X : yTx B) {e : Nat} (he : 1 ≤ e + 1) (F : Nat) {lv : List (Nat × Value)} {m : xS} {x : Int32 × xS} (l0 : zld lv 0 = some (.ref 11)) (h : D79_11 F m = some x) : zR none e 1 (some .int) zc79 (0, lv, []) (xW B m) (some (.int x.1), xW B x.2) := by
  unfold D79_11 at h
  refine q_lr (k := 1) (i := 0) (q := (.aload_n 0, 1, 0, 0, .null)) rfl (fun _ => rfl) l0 ?_
  refine r_gr (c := 12) H (pc := 1) rfl (by decide) (by decide) ?_
  refine r_s (fr' := (5, lv, [.int 2, .ref 12])) (hp' := xW B m) (q := (.iconst 2, 1, 0, 0, .null)) rfl (fun _ => rfl) (Nat.le_refl _) ?_
  refine q_al (n := 114) (v := (m.1 12 2)) H (pc := 5) rfl (by decide) (by decide) rfl ?_
  obtain rfl := Option.some.inj h
  exact q_ri (q := (.ireturn, 1, 0, 0, .null)) rfl (fun _ => rfl) rfl rfl
set_option maxRecDepth 20000 in
theorem Z79_11 {B : zHp} (H : yH0 B) (X : yTx B) {F : Nat} {m : xS} {x : Int32 × xS} (h : D79_11 F m = some x) {d : Nat} (hd : 1 ≤ d) : zCan d 79 [.ref 11] (xW B m) (some (.int x.1), xW B x.2) := by
  obtain ⟨e, rfl⟩ : ∃ e, d = e + 1 := ⟨d - 1, by omega⟩
  refine zCan_body (nL := 1) (rt := (some .int)) (cd := zc79) (xg79) ⟨Nat.le_of_ble_eq_true rfl, by decide⟩ (Nat.le_refl _) ?_
  exact T79_11 H X hd F rfl h
/-- LentTools$Village.works -/
def D80_11 (F : Nat) (m : xS) : Option (Int32 × xS) :=
  some ((m.1 12 3), m)
set_option maxRecDepth 20000 in
theorem T80_11 {B : zHp} (H : yH0 B) (X : yTx B) {e : Nat} (he : 1 ≤ e + 1) (F : Nat) {lv : List (Nat × Value)} {m : xS} {x : Int32 × xS} (l0 : zld lv 0 = some (.ref 11)) (h : D80_11 F m = some x) : zR none e 1 (some .int) zc80 (0, lv, []) (xW B m) (some (.int x.1), xW B x.2) := by
  unfold D80_11 at h
  refine q_lr (k := 1) (i := 0) (q := (.aload_n 0, 1, 0, 0, .null)) rfl (fun _ => rfl) l0 ?_
  refine r_gr (c := 12) H (pc := 1) rfl (by decide) (by decide) ?_
  refine r_s (fr' := (5, lv, [.int 3, .ref 12])) (hp' := xW B m) (q := (.iconst 3, 1, 0, 0, .null)) rfl (fun _ => rfl) (Nat.le_refl _) ?_
  refine q_al (n := 114) (v := (m.1 12 3)) H (pc := 5) rfl (by decide) (by decide) rfl ?_
  obtain rfl := Option.some.inj h
  exact q_ri (q := (.ireturn, 1, 0, 0, .null)) rfl (fun _ => rfl) rfl rfl
set_option maxRecDepth 20000 in
theorem Z80_11 {B : zHp} (H : yH0 B) (X : yTx B) {F : Nat} {m : xS} {x : Int32 × xS} (h : D80_11 F m = some x) {d : Nat} (hd : 1 ≤ d) : zCan d 80 [.ref 11] (xW B m) (some (.int x.1), xW B x.2) := by
  obtain ⟨e, rfl⟩ : ∃ e, d = e + 1 := ⟨d - 1, by omega⟩
  refine zCan_body (nL := 1) (rt := (some .int)) (cd := zc80) (xg80) ⟨Nat.le_of_ble_eq_true rfl, by decide⟩ (Nat.le_refl _) ?_
  exact T80_11 H X hd F rfl h
/-- LentTools$VillageReader.mayStand -/
def D118_11_20 (F : Nat) (v1 : Int32) (v2 : Int32) (m : xS) : Option (Int32 × xS) :=
  some (0, m)
set_option maxRecDepth 20000 in
theorem T118_11_20 {B : zHp} (H : yH0 B) (X : yTx B) {e : Nat} (he : 2 ≤ e + 1) (F : Nat) {v1 : Int32} {v2 : Int32} {lv : List (Nat × Value)} {m : xS} {x : Int32 × xS} (l0 : zld lv 0 = some (.ref 11)) (l1 : zld lv 1 = some (.int v1)) (l2 : zld lv 2 = some (.int v2)) (h : D118_11_20 F v1 v2 m = some x) : zR none e 3 (some .boolean) zc118 (20, lv, []) (xW B m) (some (.int x.1), xW B x.2) := by
  unfold D118_11_20 at h
  refine r_s (fr' := (21, lv, [.int 0])) (hp' := xW B m) (q := (.iconst 0, 1, 0, 0, .null)) rfl (fun _ => rfl) (Nat.le_refl _) ?_
  obtain rfl := Option.some.inj h
  exact q_ri (q := (.ireturn, 1, 0, 0, .null)) rfl (fun _ => rfl) rfl rfl
def D118_11_8 (F : Nat) (v1 : Int32) (v2 : Int32) (m : xS) : Option (Int32 × xS) :=
  if zcmp .ne v2 0 = true then
    D118_11_20 F v1 v2 m
  else
    if zcmp .ne v1 0 = true then
      D118_11_20 F v1 v2 m
    else
      some (1, m)
set_option maxRecDepth 20000 in
theorem T118_11_8 {B : zHp} (H : yH0 B) (X : yTx B) {e : Nat} (he : 2 ≤ e + 1) (F : Nat) {v1 : Int32} {v2 : Int32} {lv : List (Nat × Value)} {m : xS} {x : Int32 × xS} (l0 : zld lv 0 = some (.ref 11)) (l1 : zld lv 1 = some (.int v1)) (l2 : zld lv 2 = some (.int v2)) (h : D118_11_8 F v1 v2 m = some x) : zR none e 3 (some .boolean) zc118 (8, lv, []) (xW B m) (some (.int x.1), xW B x.2) := by
  unfold D118_11_8 at h
  refine q_li (k := 1) (i := 2) (q := (.iload_n 2, 1, 0, 0, .null)) rfl (fun _ => rfl) l2 ?_
  refine r_if (len := 3) (a := 20) (b := 0) (v0 := .null) (cn := .ne) (off := 11) rfl (fun c => ?_) (fun c => ?_)
  · rw [if_pos c] at h
    exact T118_11_20 H X he F l0 l1 l2 h
  · rw [if_neg (by rw [c]; decide)] at h
    refine q_li (k := 1) (i := 1) (q := (.iload_n 1, 1, 0, 0, .null)) rfl (fun _ => rfl) l1 ?_
    refine r_if (len := 3) (a := 20) (b := 0) (v0 := .null) (cn := .ne) (off := 7) rfl (fun c => ?_) (fun c => ?_)
    · rw [if_pos c] at h
      exact T118_11_20 H X he F l0 l1 l2 h
    · rw [if_neg (by rw [c]; decide)] at h
      refine r_s (fr' := (17, lv, [.int 1])) (hp' := xW B m) (q := (.iconst 1, 1, 0, 0, .null)) rfl (fun _ => rfl) (Nat.le_refl _) ?_
      refine r_s (fr' := (21, lv, [.int 1])) (hp' := xW B m) (q := (.goto 4, 3, 21, 0, .null)) rfl (fun _ => rfl) (Nat.le_refl _) ?_
      obtain rfl := Option.some.inj h
      exact q_ri (q := (.ireturn, 1, 0, 0, .null)) rfl (fun _ => rfl) rfl rfl
def D118_11_58 (F : Nat) (v1 : Int32) (v2 : Int32) (m : xS) : Option (Int32 × xS) :=
  some (1, m)
set_option maxRecDepth 20000 in
theorem T118_11_58 {B : zHp} (H : yH0 B) (X : yTx B) {e : Nat} (he : 2 ≤ e + 1) (F : Nat) {v1 : Int32} {v2 : Int32} {lv : List (Nat × Value)} {m : xS} {x : Int32 × xS} (l0 : zld lv 0 = some (.ref 11)) (l1 : zld lv 1 = some (.int v1)) (l2 : zld lv 2 = some (.int v2)) (h : D118_11_58 F v1 v2 m = some x) : zR none e 3 (some .boolean) zc118 (58, lv, []) (xW B m) (some (.int x.1), xW B x.2) := by
  unfold D118_11_58 at h
  refine r_s (fr' := (59, lv, [.int 1])) (hp' := xW B m) (q := (.iconst 1, 1, 0, 0, .null)) rfl (fun _ => rfl) (Nat.le_refl _) ?_
  refine r_s (fr' := (63, lv, [.int 1])) (hp' := xW B m) (q := (.goto 4, 3, 63, 0, .null)) rfl (fun _ => rfl) (Nat.le_refl _) ?_
  obtain rfl := Option.some.inj h
  exact q_ri (q := (.ireturn, 1, 0, 0, .null)) rfl (fun _ => rfl) rfl rfl
def D118_11_62 (F : Nat) (v1 : Int32) (v2 : Int32) (m : xS) : Option (Int32 × xS) :=
  some (0, m)
set_option maxRecDepth 20000 in
theorem T118_11_62 {B : zHp} (H : yH0 B) (X : yTx B) {e : Nat} (he : 2 ≤ e + 1) (F : Nat) {v1 : Int32} {v2 : Int32} {lv : List (Nat × Value)} {m : xS} {x : Int32 × xS} (l0 : zld lv 0 = some (.ref 11)) (l1 : zld lv 1 = some (.int v1)) (l2 : zld lv 2 = some (.int v2)) (h : D118_11_62 F v1 v2 m = some x) : zR none e 3 (some .boolean) zc118 (62, lv, []) (xW B m) (some (.int x.1), xW B x.2) := by
  unfold D118_11_62 at h
  refine r_s (fr' := (63, lv, [.int 0])) (hp' := xW B m) (q := (.iconst 0, 1, 0, 0, .null)) rfl (fun _ => rfl) (Nat.le_refl _) ?_
  obtain rfl := Option.some.inj h
  exact q_ri (q := (.ireturn, 1, 0, 0, .null)) rfl (fun _ => rfl) rfl rfl
def D118_11_38 (F : Nat) (v1 : Int32) (v2 : Int32) (m : xS) : Option (Int32 × xS) :=
  if zcmp .ge v2 40 = true then
    D118_11_62 F v1 v2 m
  else
    if zcmp .ne v1 3 = true then
      D118_11_58 F v1 v2 m
    else
      (D80_11 F m).bind fun q50 =>
        if zcmp .ge q50.1 6 = true then
          D118_11_62 F v1 v2 q50.2
        else
          D118_11_58 F v1 v2 q50.2
set_option maxRecDepth 20000 in
theorem T118_11_38 {B : zHp} (H : yH0 B) (X : yTx B) {e : Nat} (he : 2 ≤ e + 1) (F : Nat) {v1 : Int32} {v2 : Int32} {lv : List (Nat × Value)} {m : xS} {x : Int32 × xS} (l0 : zld lv 0 = some (.ref 11)) (l1 : zld lv 1 = some (.int v1)) (l2 : zld lv 2 = some (.int v2)) (h : D118_11_38 F v1 v2 m = some x) : zR none e 3 (some .boolean) zc118 (38, lv, []) (xW B m) (some (.int x.1), xW B x.2) := by
  unfold D118_11_38 at h
  refine q_li (k := 1) (i := 2) (q := (.iload_n 2, 1, 0, 0, .null)) rfl (fun _ => rfl) l2 ?_
  refine r_s (fr' := (41, lv, [.int 40, .int v2])) (hp' := xW B m) (q := (.bipush 40, 2, 0, 0, .null)) rfl (fun _ => rfl) (Nat.le_refl _) ?_
  refine r_ifc (len := 3) (a := 62) (b := 0) (v0 := .null) (cn := .ge) (off := 21) rfl (fun c => ?_) (fun c => ?_)
  · rw [if_pos c] at h
    exact T118_11_62 H X he F l0 l1 l2 h
  · rw [if_neg (by rw [c]; decide)] at h
    refine q_li (k := 1) (i := 1) (q := (.iload_n 1, 1, 0, 0, .null)) rfl (fun _ => rfl) l1 ?_
    refine r_s (fr' := (46, lv, [.int 3, .int v1])) (hp' := xW B m) (q := (.iconst 3, 1, 0, 0, .null)) rfl (fun _ => rfl) (Nat.le_refl _) ?_
    refine r_ifc (len := 3) (a := 58) (b := 0) (v0 := .null) (cn := .ne) (off := 12) rfl (fun c => ?_) (fun c => ?_)
    · rw [if_pos c] at h
      exact T118_11_58 H X he F l0 l1 l2 h
    · rw [if_neg (by rw [c]; decide)] at h
      refine q_lr (k := 1) (i := 0) (q := (.aload_n 0, 1, 0, 0, .null)) rfl (fun _ => rfl) l0 ?_
      obtain ⟨q50, h50, h⟩ := xbind h
      refine r_call (ix := 11) (as := []) (rest := []) (rv := some (.int q50.1)) (hp' := xW B q50.2) (pc := 50) rfl xr80 rfl rfl rfl (xkd H (by decide)) (Nat.le_of_ble_eq_true rfl) (Z80_11 H X h50 (by omega)) (Nat.le_refl _) ?_
      refine r_s (fr' := (55, lv, [.int 6, .int q50.1])) (hp' := xW B q50.2) (q := (.bipush 6, 2, 0, 0, .null)) rfl (fun _ => rfl) (Nat.le_refl _) ?_
      refine r_ifc (len := 3) (a := 62) (b := 0) (v0 := .null) (cn := .ge) (off := 7) rfl (fun c => ?_) (fun c => ?_)
      · rw [if_pos c] at h
        exact T118_11_62 H X he F l0 l1 l2 h
      · rw [if_neg (by rw [c]; decide)] at h
        exact T118_11_58 H X he F l0 l1 l2 h
def D118_11 (F : Nat) (v1 : Int32) (v2 : Int32) (m : xS) : Option (Int32 × xS) :=
  if zcmp .eq v2 0 = true then
    D118_11_8 F v1 v2 m
  else
    if zcmp .ne v1 0 = true then
      if zcmp .ne v1 1 = true then
        D118_11_38 F v1 v2 m
      else
        (D79_11 F m).bind fun q28 =>
          if zcmp .lt q28.1 6 = true then
            D118_11_38 F v1 v2 q28.2
          else
            some (0, q28.2)
    else
      D118_11_8 F v1 v2 m
set_option maxRecDepth 20000 in
theorem T118_11 {B : zHp} (H : yH0 B) (X : yTx B) {e : Nat} (he : 2 ≤ e + 1) (F : Nat) {v1 : Int32} {v2 : Int32} {lv : List (Nat × Value)} {m : xS} {x : Int32 × xS} (l0 : zld lv 0 = some (.ref 11)) (l1 : zld lv 1 = some (.int v1)) (l2 : zld lv 2 = some (.int v2)) (h : D118_11 F v1 v2 m = some x) : zR none e 3 (some .boolean) zc118 (0, lv, []) (xW B m) (some (.int x.1), xW B x.2) := by
  unfold D118_11 at h
  refine q_li (k := 1) (i := 2) (q := (.iload_n 2, 1, 0, 0, .null)) rfl (fun _ => rfl) l2 ?_
  refine r_if (len := 3) (a := 8) (b := 0) (v0 := .null) (cn := .eq) (off := 7) rfl (fun c => ?_) (fun c => ?_)
  · rw [if_pos c] at h
    exact T118_11_8 H X he F l0 l1 l2 h
  · rw [if_neg (by rw [c]; decide)] at h
    refine q_li (k := 1) (i := 1) (q := (.iload_n 1, 1, 0, 0, .null)) rfl (fun _ => rfl) l1 ?_
    refine r_if (len := 3) (a := 22) (b := 0) (v0 := .null) (cn := .ne) (off := 17) rfl (fun c => ?_) (fun c => ?_)
    · rw [if_pos c] at h
      refine q_li (k := 1) (i := 1) (q := (.iload_n 1, 1, 0, 0, .null)) rfl (fun _ => rfl) l1 ?_
      refine r_s (fr' := (24, lv, [.int 1, .int v1])) (hp' := xW B m) (q := (.iconst 1, 1, 0, 0, .null)) rfl (fun _ => rfl) (Nat.le_refl _) ?_
      refine r_ifc (len := 3) (a := 38) (b := 0) (v0 := .null) (cn := .ne) (off := 14) rfl (fun c => ?_) (fun c => ?_)
      · rw [if_pos c] at h
        exact T118_11_38 H X he F l0 l1 l2 h
      · rw [if_neg (by rw [c]; decide)] at h
        refine q_lr (k := 1) (i := 0) (q := (.aload_n 0, 1, 0, 0, .null)) rfl (fun _ => rfl) l0 ?_
        obtain ⟨q28, h28, h⟩ := xbind h
        refine r_call (ix := 11) (as := []) (rest := []) (rv := some (.int q28.1)) (hp' := xW B q28.2) (pc := 28) rfl xr79 rfl rfl rfl (xkd H (by decide)) (Nat.le_of_ble_eq_true rfl) (Z79_11 H X h28 (by omega)) (Nat.le_refl _) ?_
        refine r_s (fr' := (33, lv, [.int 6, .int q28.1])) (hp' := xW B q28.2) (q := (.bipush 6, 2, 0, 0, .null)) rfl (fun _ => rfl) (Nat.le_refl _) ?_
        refine r_ifc (len := 3) (a := 38) (b := 0) (v0 := .null) (cn := .lt) (off := 5) rfl (fun c => ?_) (fun c => ?_)
        · rw [if_pos c] at h
          exact T118_11_38 H X he F l0 l1 l2 h
        · rw [if_neg (by rw [c]; decide)] at h
          refine r_s (fr' := (37, lv, [.int 0])) (hp' := xW B q28.2) (q := (.iconst 0, 1, 0, 0, .null)) rfl (fun _ => rfl) (Nat.le_refl _) ?_
          obtain rfl := Option.some.inj h
          exact q_ri (q := (.ireturn, 1, 0, 0, .null)) rfl (fun _ => rfl) rfl rfl
    · rw [if_neg (by rw [c]; decide)] at h
      exact T118_11_8 H X he F l0 l1 l2 h
set_option maxRecDepth 20000 in
theorem Z118_11 {B : zHp} (H : yH0 B) (X : yTx B) {F : Nat} {a1 : Int32} {a2 : Int32} {m : xS} {x : Int32 × xS} (h : D118_11 F a1 a2 m = some x) {d : Nat} (hd : 2 ≤ d) : zCan d 118 [.ref 11, .int a1, .int a2] (xW B m) (some (.int x.1), xW B x.2) := by
  obtain ⟨e, rfl⟩ : ∃ e, d = e + 1 := ⟨d - 1, by omega⟩
  refine zCan_body (nL := 3) (rt := (some .boolean)) (cd := zc118) (xg118) ⟨Nat.le_of_ble_eq_true rfl, by decide⟩ (Nat.le_refl _) ?_
  exact T118_11 H X hd F rfl rfl rfl h
/-- LentTools$Village.houses -/
def D77_11 (F : Nat) (m : xS) : Option (Int32 × xS) :=
  some ((m.1 12 0), m)
set_option maxRecDepth 20000 in
theorem T77_11 {B : zHp} (H : yH0 B) (X : yTx B) {e : Nat} (he : 1 ≤ e + 1) (F : Nat) {lv : List (Nat × Value)} {m : xS} {x : Int32 × xS} (l0 : zld lv 0 = some (.ref 11)) (h : D77_11 F m = some x) : zR none e 1 (some .int) zc77 (0, lv, []) (xW B m) (some (.int x.1), xW B x.2) := by
  unfold D77_11 at h
  refine q_lr (k := 1) (i := 0) (q := (.aload_n 0, 1, 0, 0, .null)) rfl (fun _ => rfl) l0 ?_
  refine r_gr (c := 12) H (pc := 1) rfl (by decide) (by decide) ?_
  refine r_s (fr' := (5, lv, [.int 0, .ref 12])) (hp' := xW B m) (q := (.iconst 0, 1, 0, 0, .null)) rfl (fun _ => rfl) (Nat.le_refl _) ?_
  refine q_al (n := 114) (v := (m.1 12 0)) H (pc := 5) rfl (by decide) (by decide) rfl ?_
  obtain rfl := Option.some.inj h
  exact q_ri (q := (.ireturn, 1, 0, 0, .null)) rfl (fun _ => rfl) rfl rfl
set_option maxRecDepth 20000 in
theorem Z77_11 {B : zHp} (H : yH0 B) (X : yTx B) {F : Nat} {m : xS} {x : Int32 × xS} (h : D77_11 F m = some x) {d : Nat} (hd : 1 ≤ d) : zCan d 77 [.ref 11] (xW B m) (some (.int x.1), xW B x.2) := by
  obtain ⟨e, rfl⟩ : ∃ e, d = e + 1 := ⟨d - 1, by omega⟩
  refine zCan_body (nL := 1) (rt := (some .int)) (cd := zc77) (xg77) ⟨Nat.le_of_ble_eq_true rfl, by decide⟩ (Nat.le_refl _) ?_
  exact T77_11 H X hd F rfl h
/-- LentTools$VillageReader.readNumbers -/
def D119_4_2_131 (F : Nat) (g10 : Int32 → Int32 → Int32 → Int32 → xS → Option (Unit × xS)) (v2 : Int32) (v3 : Int32) (v4 : Int32) (v5 : Int32) (v6 : Int32) (v7 : Int32) (m : xS) : Option (Unit × xS) :=
  g10 v2 v3 v4 (v5 + Int32.ofInt 1) m
set_option maxRecDepth 20000 in
theorem T119_4_2_131 {B : zHp} (H : yH0 B) (X : yTx B) {e : Nat} (he : 3 ≤ e + 1) (F : Nat) (g10 : Int32 → Int32 → Int32 → Int32 → xS → Option (Unit × xS)) (k10 : ∀ {v2 : Int32} {v3 : Int32} {v4 : Int32} {v5 : Int32} {lv : List (Nat × Value)} {m : xS} {x : Unit × xS}, zld lv 0 = some (.ref 4) → zld lv 1 = some (.ref 2) → zld lv 2 = some (.int v2) → zld lv 3 = some (.int v3) → zld lv 4 = some (.int v4) → zld lv 5 = some (.int v5) → g10 v2 v3 v4 v5 m = some x → zR none e 8 none zc119 (10, lv, []) (xW B m) (none, xW B x.2)) {v2 : Int32} {v3 : Int32} {v4 : Int32} {v5 : Int32} {v6 : Int32} {v7 : Int32} {lv : List (Nat × Value)} {m : xS} {x : Unit × xS} (l0 : zld lv 0 = some (.ref 4)) (l1 : zld lv 1 = some (.ref 2)) (l2 : zld lv 2 = some (.int v2)) (l3 : zld lv 3 = some (.int v3)) (l4 : zld lv 4 = some (.int v4)) (l5 : zld lv 5 = some (.int v5)) (l6 : zld lv 6 = some (.int v6)) (l7 : zld lv 7 = some (.int v7)) (h : D119_4_2_131 F g10 v2 v3 v4 v5 v6 v7 m = some x) : zR none e 8 none zc119 (131, lv, []) (xW B m) (none, xW B x.2) := by
  unfold D119_4_2_131 at h
  refine q_inc (i := 5) (n := 1) (q := (.iinc 5 1, 3, 0, 0, .null)) rfl (fun _ => rfl) l5 (by decide) ?_
  have l0_1 : zld (zs1 lv 5 (.int (v5 + Int32.ofInt 1))) 0 = some (.ref 4) := x_o1 l0 rfl rfl
  have l1_1 : zld (zs1 lv 5 (.int (v5 + Int32.ofInt 1))) 1 = some (.ref 2) := x_o1 l1 rfl rfl
  have l2_1 : zld (zs1 lv 5 (.int (v5 + Int32.ofInt 1))) 2 = some (.int v2) := x_o1 l2 rfl rfl
  have l3_1 : zld (zs1 lv 5 (.int (v5 + Int32.ofInt 1))) 3 = some (.int v3) := x_o1 l3 rfl rfl
  have l4_1 : zld (zs1 lv 5 (.int (v5 + Int32.ofInt 1))) 4 = some (.int v4) := x_o1 l4 rfl rfl
  have l5_1 : zld (zs1 lv 5 (.int (v5 + Int32.ofInt 1))) 5 = some (.int (v5 + Int32.ofInt 1)) := zs1_ld _ _ _
  have l6_1 : zld (zs1 lv 5 (.int (v5 + Int32.ofInt 1))) 6 = some (.int v6) := x_o1 l6 rfl rfl
  have l7_1 : zld (zs1 lv 5 (.int (v5 + Int32.ofInt 1))) 7 = some (.int v7) := x_o1 l7 rfl rfl
  generalize (zs1 lv 5 (.int (v5 + Int32.ofInt 1))) = lv1 at *
  refine r_s (fr' := (10, lv1, [])) (hp' := xW B m) (q := (.goto (-124), 3, 10, 0, .null)) rfl (fun _ => rfl) (Nat.le_refl _) ?_
  exact k10 l0_1 l1_1 l2_1 l3_1 l4_1 l5_1 h
def D119_4_2_72 (F : Nat) (g10 : Int32 → Int32 → Int32 → Int32 → xS → Option (Unit × xS)) (v2 : Int32) (v3 : Int32) (v4 : Int32) (v5 : Int32) (v6 : Int32) (w0 : Int32) (m : xS) : Option (Unit × xS) :=
  if xib (v4 + v5) 14 = true then
    (D58_2 F (zsv 31 ((v4 + v5) : Int32).toNatClampNeg) w0 m).bind fun q92 =>
      if xib v5 4 = true then
        if zcmp .eq v6 0 = true then
          D119_4_2_131 F g10 v2 v3 v4 v5 v6 w0 (xu q92.2 5 (v5 : Int32).toNatClampNeg q92.1)
        else
          if zcmp .ne v5 1 = true then
            D119_4_2_131 F g10 v2 v3 v4 v5 v6 w0 (xu q92.2 5 (v5 : Int32).toNatClampNeg q92.1)
          else
            if zcmp .ne ((xu q92.2 5 (v5 : Int32).toNatClampNeg q92.1).1 5 0) ((xu q92.2 5 (v5 : Int32).toNatClampNeg q92.1).1 5 1) = true then
              D119_4_2_131 F g10 v2 v3 v4 v5 v6 w0 (xu q92.2 5 (v5 : Int32).toNatClampNeg q92.1)
            else
              (D52_2 F (q92.2.1 2 3) 1 (xu q92.2 5 (v5 : Int32).toNatClampNeg q92.1)).bind fun q128 =>
                D119_4_2_131 F g10 v2 v3 v4 v5 v6 w0 q128.2
      else none
  else none
set_option maxRecDepth 20000 in
theorem T119_4_2_72 {B : zHp} (H : yH0 B) (X : yTx B) {e : Nat} (he : 3 ≤ e + 1) (F : Nat) (g10 : Int32 → Int32 → Int32 → Int32 → xS → Option (Unit × xS)) (k10 : ∀ {v2 : Int32} {v3 : Int32} {v4 : Int32} {v5 : Int32} {lv : List (Nat × Value)} {m : xS} {x : Unit × xS}, zld lv 0 = some (.ref 4) → zld lv 1 = some (.ref 2) → zld lv 2 = some (.int v2) → zld lv 3 = some (.int v3) → zld lv 4 = some (.int v4) → zld lv 5 = some (.int v5) → g10 v2 v3 v4 v5 m = some x → zR none e 8 none zc119 (10, lv, []) (xW B m) (none, xW B x.2)) {v2 : Int32} {v3 : Int32} {v4 : Int32} {v5 : Int32} {v6 : Int32} {w0 : Int32} {lv : List (Nat × Value)} {m : xS} {x : Unit × xS} (l0 : zld lv 0 = some (.ref 4)) (l1 : zld lv 1 = some (.ref 2)) (l2 : zld lv 2 = some (.int v2)) (l3 : zld lv 3 = some (.int v3)) (l4 : zld lv 4 = some (.int v4)) (l5 : zld lv 5 = some (.int v5)) (l6 : zld lv 6 = some (.int v6)) (h : D119_4_2_72 F g10 v2 v3 v4 v5 v6 w0 m = some x) : zR none e 8 none zc119 (72, lv, [.int w0]) (xW B m) (none, xW B x.2) := by
  unfold D119_4_2_72 at h
  refine q_si (k := 2) (i := 7) (q := (.istore 7, 2, 0, 0, .null)) rfl (fun _ => rfl) (by decide) ?_
  have l0_1 : zld (zs1 lv 7 (.int w0)) 0 = some (.ref 4) := x_o1 l0 rfl rfl
  have l1_1 : zld (zs1 lv 7 (.int w0)) 1 = some (.ref 2) := x_o1 l1 rfl rfl
  have l2_1 : zld (zs1 lv 7 (.int w0)) 2 = some (.int v2) := x_o1 l2 rfl rfl
  have l3_1 : zld (zs1 lv 7 (.int w0)) 3 = some (.int v3) := x_o1 l3 rfl rfl
  have l4_1 : zld (zs1 lv 7 (.int w0)) 4 = some (.int v4) := x_o1 l4 rfl rfl
  have l5_1 : zld (zs1 lv 7 (.int w0)) 5 = some (.int v5) := x_o1 l5 rfl rfl
  have l6_1 : zld (zs1 lv 7 (.int w0)) 6 = some (.int v6) := x_o1 l6 rfl rfl
  have l7_1 : zld (zs1 lv 7 (.int w0)) 7 = some (.int w0) := zs1_ld _ _ _
  generalize (zs1 lv 7 (.int w0)) = lv1 at *
  refine q_lr (k := 1) (i := 0) (q := (.aload_n 0, 1, 0, 0, .null)) rfl (fun _ => rfl) l0_1 ?_
  refine r_gr (c := 5) H (pc := 75) rfl (by decide) (by decide) ?_
  refine q_li (k := 2) (i := 5) (q := (.iload 5, 2, 0, 0, .null)) rfl (fun _ => rfl) l5_1 ?_
  refine q_lr (k := 1) (i := 1) (q := (.aload_n 1, 1, 0, 0, .null)) rfl (fun _ => rfl) l1_1 ?_
  refine r_s (fr' := (84, lv1, [.ref 1031, .ref 2, .int v5, .ref 5])) (hp' := xW B m) (q := (.getstatic 72, 3, 2, 0, .ref 1031)) rfl (fun _ => rfl) (Nat.le_refl _) ?_
  refine q_li (k := 2) (i := 4) (q := (.iload 4, 2, 0, 0, .null)) rfl (fun _ => rfl) l4_1 ?_
  refine q_li (k := 2) (i := 5) (q := (.iload 5, 2, 0, 0, .null)) rfl (fun _ => rfl) l5_1 ?_
  refine r_s (fr' := (89, lv1, [.int (v4 + v5), .ref 1031, .ref 2, .int v5, .ref 5])) (hp' := xW B m) (q := (.iadd, 1, 0, 0, .null)) rfl (fun _ => rfl) (Nat.le_refl _) ?_
  obtain ⟨c2, h⟩ := xif h
  refine q_sil (n := 14) (f := zsv 31) (i := 1031) (pc := 89) rfl (by decide) rfl c2 ?_
  refine q_li (k := 2) (i := 7) (q := (.iload 7, 2, 0, 0, .null)) rfl (fun _ => rfl) l7_1 ?_
  obtain ⟨q92, h92, h⟩ := xbind h
  refine r_call (ix := 2) (as := [.int (zsv 31 ((v4 + v5) : Int32).toNatClampNeg), .int w0]) (rest := [.int v5, .ref 5]) (rv := some (.int q92.1)) (hp' := xW B q92.2) (pc := 92) rfl xr58 rfl rfl rfl (xkd H (by decide)) (Nat.le_of_ble_eq_true rfl) (Z58_2 H X h92 (by omega)) (Nat.le_refl _) ?_
  obtain ⟨c3, h⟩ := xif h
  refine q_as (n := 4) (s2 := (xu q92.2 5 (v5 : Int32).toNatClampNeg q92.1)) H (pc := 95) rfl (by decide) c3 rfl ?_
  refine q_li (k := 2) (i := 6) (q := (.iload 6, 2, 0, 0, .null)) rfl (fun _ => rfl) l6_1 ?_
  refine r_if (len := 3) (a := 131) (b := 0) (v0 := .null) (cn := .eq) (off := 33) rfl (fun c => ?_) (fun c => ?_)
  · rw [if_pos c] at h
    exact T119_4_2_131 H X he F _ k10 l0_1 l1_1 l2_1 l3_1 l4_1 l5_1 l6_1 l7_1 h
  · rw [if_neg (by rw [c]; decide)] at h
    refine q_li (k := 2) (i := 5) (q := (.iload 5, 2, 0, 0, .null)) rfl (fun _ => rfl) l5_1 ?_
    refine r_s (fr' := (104, lv1, [.int 1, .int v5])) (hp' := xW B (xu q92.2 5 (v5 : Int32).toNatClampNeg q92.1)) (q := (.iconst 1, 1, 0, 0, .null)) rfl (fun _ => rfl) (Nat.le_refl _) ?_
    refine r_ifc (len := 3) (a := 131) (b := 0) (v0 := .null) (cn := .ne) (off := 27) rfl (fun c => ?_) (fun c => ?_)
    · rw [if_pos c] at h
      exact T119_4_2_131 H X he F _ k10 l0_1 l1_1 l2_1 l3_1 l4_1 l5_1 l6_1 l7_1 h
    · rw [if_neg (by rw [c]; decide)] at h
      refine q_lr (k := 1) (i := 0) (q := (.aload_n 0, 1, 0, 0, .null)) rfl (fun _ => rfl) l0_1 ?_
      refine r_gr (c := 5) H (pc := 108) rfl (by decide) (by decide) ?_
      refine r_s (fr' := (112, lv1, [.int 0, .ref 5])) (hp' := xW B (xu q92.2 5 (v5 : Int32).toNatClampNeg q92.1)) (q := (.iconst 0, 1, 0, 0, .null)) rfl (fun _ => rfl) (Nat.le_refl _) ?_
      refine q_al (n := 4) (v := ((xu q92.2 5 (v5 : Int32).toNatClampNeg q92.1).1 5 0)) H (pc := 112) rfl (by decide) (by decide) rfl ?_
      refine q_lr (k := 1) (i := 0) (q := (.aload_n 0, 1, 0, 0, .null)) rfl (fun _ => rfl) l0_1 ?_
      refine r_gr (c := 5) H (pc := 114) rfl (by decide) (by decide) ?_
      refine r_s (fr' := (118, lv1, [.int 1, .ref 5, .int ((xu q92.2 5 (v5 : Int32).toNatClampNeg q92.1).1 5 0)])) (hp' := xW B (xu q92.2 5 (v5 : Int32).toNatClampNeg q92.1)) (q := (.iconst 1, 1, 0, 0, .null)) rfl (fun _ => rfl) (Nat.le_refl _) ?_
      refine q_al (n := 4) (v := ((xu q92.2 5 (v5 : Int32).toNatClampNeg q92.1).1 5 1)) H (pc := 118) rfl (by decide) (by decide) rfl ?_
      refine r_ifc (len := 3) (a := 131) (b := 0) (v0 := .null) (cn := .ne) (off := 12) rfl (fun c => ?_) (fun c => ?_)
      · rw [if_pos c] at h
        exact T119_4_2_131 H X he F _ k10 l0_1 l1_1 l2_1 l3_1 l4_1 l5_1 l6_1 l7_1 h
      · rw [if_neg (by rw [c]; decide)] at h
        refine q_lr (k := 1) (i := 1) (q := (.aload_n 1, 1, 0, 0, .null)) rfl (fun _ => rfl) l1_1 ?_
        refine q_lr (k := 1) (i := 1) (q := (.aload_n 1, 1, 0, 0, .null)) rfl (fun _ => rfl) l1_1 ?_
        refine r_gi (v := (q92.2.1 2 3)) H (pc := 124) (i := _) rfl (by decide) (by decide) rfl ?_
        refine r_s (fr' := (128, lv1, [.int 1, .int (q92.2.1 2 3), .ref 2])) (hp' := xW B (xu q92.2 5 (v5 : Int32).toNatClampNeg q92.1)) (q := (.iconst 1, 1, 0, 0, .null)) rfl (fun _ => rfl) (Nat.le_refl _) ?_
        obtain ⟨q128, h128, h⟩ := xbind h
        refine r_call (ix := 2) (as := [.int (q92.2.1 2 3), .int 1]) (rest := []) (rv := none) (hp' := xW B q128.2) (pc := 128) rfl xr52 rfl rfl rfl (xkd H (by decide)) (Nat.le_of_ble_eq_true rfl) (Z52_2 H X h128 (by omega)) (Nat.le_refl _) ?_
        exact T119_4_2_131 H X he F _ k10 l0_1 l1_1 l2_1 l3_1 l4_1 l5_1 l6_1 l7_1 h
def D119_4_2_50 (F : Nat) (g10 : Int32 → Int32 → Int32 → Int32 → xS → Option (Unit × xS)) (v2 : Int32) (v3 : Int32) (v4 : Int32) (v5 : Int32) (w0 : Int32) (m : xS) : Option (Unit × xS) :=
  if zcmp .eq w0 0 = true then
    if xib (v4 + v5) 14 = true then
      D119_4_2_72 F g10 v2 v3 v4 v5 w0 (zsv 32 ((v4 + v5) : Int32).toNatClampNeg) m
    else none
  else
    D119_4_2_72 F g10 v2 v3 v4 v5 w0 (v2 - 1) m
set_option maxRecDepth 20000 in
theorem T119_4_2_50 {B : zHp} (H : yH0 B) (X : yTx B) {e : Nat} (he : 3 ≤ e + 1) (F : Nat) (g10 : Int32 → Int32 → Int32 → Int32 → xS → Option (Unit × xS)) (k10 : ∀ {v2 : Int32} {v3 : Int32} {v4 : Int32} {v5 : Int32} {lv : List (Nat × Value)} {m : xS} {x : Unit × xS}, zld lv 0 = some (.ref 4) → zld lv 1 = some (.ref 2) → zld lv 2 = some (.int v2) → zld lv 3 = some (.int v3) → zld lv 4 = some (.int v4) → zld lv 5 = some (.int v5) → g10 v2 v3 v4 v5 m = some x → zR none e 8 none zc119 (10, lv, []) (xW B m) (none, xW B x.2)) {v2 : Int32} {v3 : Int32} {v4 : Int32} {v5 : Int32} {w0 : Int32} {lv : List (Nat × Value)} {m : xS} {x : Unit × xS} (l0 : zld lv 0 = some (.ref 4)) (l1 : zld lv 1 = some (.ref 2)) (l2 : zld lv 2 = some (.int v2)) (l3 : zld lv 3 = some (.int v3)) (l4 : zld lv 4 = some (.int v4)) (l5 : zld lv 5 = some (.int v5)) (h : D119_4_2_50 F g10 v2 v3 v4 v5 w0 m = some x) : zR none e 8 none zc119 (50, lv, [.int w0]) (xW B m) (none, xW B x.2) := by
  unfold D119_4_2_50 at h
  refine q_si (k := 2) (i := 6) (q := (.istore 6, 2, 0, 0, .null)) rfl (fun _ => rfl) (by decide) ?_
  have l0_1 : zld (zs1 lv 6 (.int w0)) 0 = some (.ref 4) := x_o1 l0 rfl rfl
  have l1_1 : zld (zs1 lv 6 (.int w0)) 1 = some (.ref 2) := x_o1 l1 rfl rfl
  have l2_1 : zld (zs1 lv 6 (.int w0)) 2 = some (.int v2) := x_o1 l2 rfl rfl
  have l3_1 : zld (zs1 lv 6 (.int w0)) 3 = some (.int v3) := x_o1 l3 rfl rfl
  have l4_1 : zld (zs1 lv 6 (.int w0)) 4 = some (.int v4) := x_o1 l4 rfl rfl
  have l5_1 : zld (zs1 lv 6 (.int w0)) 5 = some (.int v5) := x_o1 l5 rfl rfl
  have l6_1 : zld (zs1 lv 6 (.int w0)) 6 = some (.int w0) := zs1_ld _ _ _
  generalize (zs1 lv 6 (.int w0)) = lv1 at *
  refine q_li (k := 2) (i := 6) (q := (.iload 6, 2, 0, 0, .null)) rfl (fun _ => rfl) l6_1 ?_
  refine r_if (len := 3) (a := 63) (b := 0) (v0 := .null) (cn := .eq) (off := 9) rfl (fun c => ?_) (fun c => ?_)
  · rw [if_pos c] at h
    refine r_s (fr' := (66, lv1, [.ref 1032])) (hp' := xW B m) (q := (.getstatic 69, 3, 3, 0, .ref 1032)) rfl (fun _ => rfl) (Nat.le_refl _) ?_
    refine q_li (k := 2) (i := 4) (q := (.iload 4, 2, 0, 0, .null)) rfl (fun _ => rfl) l4_1 ?_
    refine q_li (k := 2) (i := 5) (q := (.iload 5, 2, 0, 0, .null)) rfl (fun _ => rfl) l5_1 ?_
    refine r_s (fr' := (71, lv1, [.int (v4 + v5), .ref 1032])) (hp' := xW B m) (q := (.iadd, 1, 0, 0, .null)) rfl (fun _ => rfl) (Nat.le_refl _) ?_
    obtain ⟨c2, h⟩ := xif h
    refine q_sil (n := 14) (f := zsv 32) (i := 1032) (pc := 71) rfl (by decide) rfl c2 ?_
    exact T119_4_2_72 H X he F _ k10 l0_1 l1_1 l2_1 l3_1 l4_1 l5_1 l6_1 h
  · rw [if_neg (by rw [c]; decide)] at h
    refine q_li (k := 1) (i := 2) (q := (.iload_n 2, 1, 0, 0, .null)) rfl (fun _ => rfl) l2_1 ?_
    refine r_s (fr' := (59, lv1, [.int 1, .int v2])) (hp' := xW B m) (q := (.iconst 1, 1, 0, 0, .null)) rfl (fun _ => rfl) (Nat.le_refl _) ?_
    refine r_s (fr' := (60, lv1, [.int (v2 - 1)])) (hp' := xW B m) (q := (.isub, 1, 0, 0, .null)) rfl (fun _ => rfl) (Nat.le_refl _) ?_
    refine r_s (fr' := (72, lv1, [.int (v2 - 1)])) (hp' := xW B m) (q := (.goto 12, 3, 72, 0, .null)) rfl (fun _ => rfl) (Nat.le_refl _) ?_
    exact T119_4_2_72 H X he F _ k10 l0_1 l1_1 l2_1 l3_1 l4_1 l5_1 l6_1 h
def D119_4_2_10 (F : Nat) : Nat → Int32 → Int32 → Int32 → Int32 → xS → Option (Unit × xS)
  | 0, _, _, _, _, _ => none
  | f + 1, v2, v3, v4, v5, m =>
    if xib (v3 + 1) 6 = true then
      if zcmp .ge (v4 + v5) (zsv 30 ((v3 + 1) : Int32).toNatClampNeg) = true then
        some ((), m)
      else
        (D51_2 F m).bind fun q26 =>
          if zcmp .eq q26.1 0 = true then
            some ((), q26.2)
          else
            if xib (v4 + v5) 14 = true then
              if zcmp .ne (zsv 32 ((v4 + v5) : Int32).toNatClampNeg) (-1) = true then
                D119_4_2_50 F (D119_4_2_10 F f) v2 v3 v4 v5 0 q26.2
              else
                D119_4_2_50 F (D119_4_2_10 F f) v2 v3 v4 v5 1 q26.2
            else none
    else none
set_option maxRecDepth 20000 in
theorem T119_4_2_10 {B : zHp} (H : yH0 B) (X : yTx B) {e : Nat} (he : 3 ≤ e + 1) (F : Nat) : ∀ (f : Nat) {v2 : Int32} {v3 : Int32} {v4 : Int32} {v5 : Int32} {lv : List (Nat × Value)} {m : xS} {x : Unit × xS}, zld lv 0 = some (.ref 4) → zld lv 1 = some (.ref 2) → zld lv 2 = some (.int v2) → zld lv 3 = some (.int v3) → zld lv 4 = some (.int v4) → zld lv 5 = some (.int v5) → D119_4_2_10 F f v2 v3 v4 v5 m = some x → zR none e 8 none zc119 (10, lv, []) (xW B m) (none, xW B x.2) := by
  intro f
  induction f with
  | zero => intro v2 v3 v4 v5 lv m x l0 l1 l2 l3 l4 l5 h; cases h
  | succ f ih =>
    intro v2 v3 v4 v5 lv m x l0 l1 l2 l3 l4 l5 h
    unfold D119_4_2_10 at h
    refine q_li (k := 2) (i := 4) (q := (.iload 4, 2, 0, 0, .null)) rfl (fun _ => rfl) l4 ?_
    refine q_li (k := 2) (i := 5) (q := (.iload 5, 2, 0, 0, .null)) rfl (fun _ => rfl) l5 ?_
    refine r_s (fr' := (15, lv, [.int (v4 + v5)])) (hp' := xW B m) (q := (.iadd, 1, 0, 0, .null)) rfl (fun _ => rfl) (Nat.le_refl _) ?_
    refine r_s (fr' := (18, lv, [.ref 1030, .int (v4 + v5)])) (hp' := xW B m) (q := (.getstatic 66, 3, 1, 0, .ref 1030)) rfl (fun _ => rfl) (Nat.le_refl _) ?_
    refine q_li (k := 1) (i := 3) (q := (.iload_n 3, 1, 0, 0, .null)) rfl (fun _ => rfl) l3 ?_
    refine r_s (fr' := (20, lv, [.int 1, .int v3, .ref 1030, .int (v4 + v5)])) (hp' := xW B m) (q := (.iconst 1, 1, 0, 0, .null)) rfl (fun _ => rfl) (Nat.le_refl _) ?_
    refine r_s (fr' := (21, lv, [.int (v3 + 1), .ref 1030, .int (v4 + v5)])) (hp' := xW B m) (q := (.iadd, 1, 0, 0, .null)) rfl (fun _ => rfl) (Nat.le_refl _) ?_
    obtain ⟨c1, h⟩ := xif h
    refine q_sil (n := 6) (f := zsv 30) (i := 1030) (pc := 21) rfl (by decide) rfl c1 ?_
    refine r_ifc (len := 3) (a := 137) (b := 0) (v0 := .null) (cn := .ge) (off := 115) rfl (fun c => ?_) (fun c => ?_)
    · rw [if_pos c] at h
      obtain rfl := Option.some.inj h
      exact r_ret (q := (.return_, 1, 0, 0, .null)) rfl rfl (fun _ => rfl)
    · rw [if_neg (by rw [c]; decide)] at h
      refine q_lr (k := 1) (i := 1) (q := (.aload_n 1, 1, 0, 0, .null)) rfl (fun _ => rfl) l1 ?_
      obtain ⟨q26, h26, h⟩ := xbind h
      refine r_call (ix := 2) (as := []) (rest := []) (rv := some (.int q26.1)) (hp' := xW B q26.2) (pc := 26) rfl xr51 rfl rfl rfl (xkd H (by decide)) (Nat.le_of_ble_eq_true rfl) (Z51_2 H X h26 (by omega)) (Nat.le_refl _) ?_
      refine r_if (len := 3) (a := 137) (b := 0) (v0 := .null) (cn := .eq) (off := 108) rfl (fun c => ?_) (fun c => ?_)
      · rw [if_pos c] at h
        obtain rfl := Option.some.inj h
        exact r_ret (q := (.return_, 1, 0, 0, .null)) rfl rfl (fun _ => rfl)
      · rw [if_neg (by rw [c]; decide)] at h
        refine r_s (fr' := (35, lv, [.ref 1032])) (hp' := xW B q26.2) (q := (.getstatic 69, 3, 3, 0, .ref 1032)) rfl (fun _ => rfl) (Nat.le_refl _) ?_
        refine q_li (k := 2) (i := 4) (q := (.iload 4, 2, 0, 0, .null)) rfl (fun _ => rfl) l4 ?_
        refine q_li (k := 2) (i := 5) (q := (.iload 5, 2, 0, 0, .null)) rfl (fun _ => rfl) l5 ?_
        refine r_s (fr' := (40, lv, [.int (v4 + v5), .ref 1032])) (hp' := xW B q26.2) (q := (.iadd, 1, 0, 0, .null)) rfl (fun _ => rfl) (Nat.le_refl _) ?_
        obtain ⟨c2, h⟩ := xif h
        refine q_sil (n := 14) (f := zsv 32) (i := 1032) (pc := 40) rfl (by decide) rfl c2 ?_
        refine r_s (fr' := (42, lv, [.int (-1), .int (zsv 32 ((v4 + v5) : Int32).toNatClampNeg)])) (hp' := xW B q26.2) (q := (.iconst (-1), 1, 0, 0, .null)) rfl (fun _ => rfl) (Nat.le_refl _) ?_
        refine r_ifc (len := 3) (a := 49) (b := 0) (v0 := .null) (cn := .ne) (off := 7) rfl (fun c => ?_) (fun c => ?_)
        · rw [if_pos c] at h
          refine r_s (fr' := (50, lv, [.int 0])) (hp' := xW B q26.2) (q := (.iconst 0, 1, 0, 0, .null)) rfl (fun _ => rfl) (Nat.le_refl _) ?_
          exact T119_4_2_50 H X he F _ ih l0 l1 l2 l3 l4 l5 h
        · rw [if_neg (by rw [c]; decide)] at h
          refine r_s (fr' := (46, lv, [.int 1])) (hp' := xW B q26.2) (q := (.iconst 1, 1, 0, 0, .null)) rfl (fun _ => rfl) (Nat.le_refl _) ?_
          refine r_s (fr' := (50, lv, [.int 1])) (hp' := xW B q26.2) (q := (.goto 4, 3, 50, 0, .null)) rfl (fun _ => rfl) (Nat.le_refl _) ?_
          exact T119_4_2_50 H X he F _ ih l0 l1 l2 l3 l4 l5 h
def D119_4_2 (F : Nat) (v2 : Int32) (v3 : Int32) (m : xS) : Option (Unit × xS) :=
  if xib v3 6 = true then
    D119_4_2_10 F F v2 v3 (zsv 30 (v3 : Int32).toNatClampNeg) 0 m
  else none
set_option maxRecDepth 20000 in
theorem T119_4_2 {B : zHp} (H : yH0 B) (X : yTx B) {e : Nat} (he : 3 ≤ e + 1) (F : Nat) {v2 : Int32} {v3 : Int32} {lv : List (Nat × Value)} {m : xS} {x : Unit × xS} (l0 : zld lv 0 = some (.ref 4)) (l1 : zld lv 1 = some (.ref 2)) (l2 : zld lv 2 = some (.int v2)) (l3 : zld lv 3 = some (.int v3)) (h : D119_4_2 F v2 v3 m = some x) : zR none e 8 none zc119 (0, lv, []) (xW B m) (none, xW B x.2) := by
  unfold D119_4_2 at h
  refine r_s (fr' := (3, lv, [.ref 1030])) (hp' := xW B m) (q := (.getstatic 66, 3, 1, 0, .ref 1030)) rfl (fun _ => rfl) (Nat.le_refl _) ?_
  refine q_li (k := 1) (i := 3) (q := (.iload_n 3, 1, 0, 0, .null)) rfl (fun _ => rfl) l3 ?_
  obtain ⟨c1, h⟩ := xif h
  refine q_sil (n := 6) (f := zsv 30) (i := 1030) (pc := 4) rfl (by decide) rfl c1 ?_
  refine q_si (k := 2) (i := 4) (q := (.istore 4, 2, 0, 0, .null)) rfl (fun _ => rfl) (by decide) ?_
  have l0_2 : zld (zs1 lv 4 (.int (zsv 30 (v3 : Int32).toNatClampNeg))) 0 = some (.ref 4) := x_o1 l0 rfl rfl
  have l1_2 : zld (zs1 lv 4 (.int (zsv 30 (v3 : Int32).toNatClampNeg))) 1 = some (.ref 2) := x_o1 l1 rfl rfl
  have l2_2 : zld (zs1 lv 4 (.int (zsv 30 (v3 : Int32).toNatClampNeg))) 2 = some (.int v2) := x_o1 l2 rfl rfl
  have l3_2 : zld (zs1 lv 4 (.int (zsv 30 (v3 : Int32).toNatClampNeg))) 3 = some (.int v3) := x_o1 l3 rfl rfl
  have l4_2 : zld (zs1 lv 4 (.int (zsv 30 (v3 : Int32).toNatClampNeg))) 4 = some (.int (zsv 30 (v3 : Int32).toNatClampNeg)) := zs1_ld _ _ _
  generalize (zs1 lv 4 (.int (zsv 30 (v3 : Int32).toNatClampNeg))) = lv2 at *
  refine r_s (fr' := (8, lv2, [.int 0])) (hp' := xW B m) (q := (.iconst 0, 1, 0, 0, .null)) rfl (fun _ => rfl) (Nat.le_refl _) ?_
  refine q_si (k := 2) (i := 5) (q := (.istore 5, 2, 0, 0, .null)) rfl (fun _ => rfl) (by decide) ?_
  have l0_3 : zld (zs1 lv2 5 (.int 0)) 0 = some (.ref 4) := x_o1 l0_2 rfl rfl
  have l1_3 : zld (zs1 lv2 5 (.int 0)) 1 = some (.ref 2) := x_o1 l1_2 rfl rfl
  have l2_3 : zld (zs1 lv2 5 (.int 0)) 2 = some (.int v2) := x_o1 l2_2 rfl rfl
  have l3_3 : zld (zs1 lv2 5 (.int 0)) 3 = some (.int v3) := x_o1 l3_2 rfl rfl
  have l4_3 : zld (zs1 lv2 5 (.int 0)) 4 = some (.int (zsv 30 (v3 : Int32).toNatClampNeg)) := x_o1 l4_2 rfl rfl
  have l5_3 : zld (zs1 lv2 5 (.int 0)) 5 = some (.int 0) := zs1_ld _ _ _
  generalize (zs1 lv2 5 (.int 0)) = lv3 at *
  exact T119_4_2_10 H X he F F l0_3 l1_3 l2_3 l3_3 l4_3 l5_3 h
set_option maxRecDepth 20000 in
theorem Z119_4_2 {B : zHp} (H : yH0 B) (X : yTx B) {F : Nat} {a2 : Int32} {a3 : Int32} {m : xS} {x : Unit × xS} (h : D119_4_2 F a2 a3 m = some x) {d : Nat} (hd : 3 ≤ d) : zCan d 119 [.ref 4, .ref 2, .int a2, .int a3] (xW B m) (none, xW B x.2) := by
  obtain ⟨e, rfl⟩ : ∃ e, d = e + 1 := ⟨d - 1, by omega⟩
  refine zCan_body (nL := 8) (rt := none) (cd := zc119) (xg119) ⟨Nat.le_of_ble_eq_true rfl, by decide⟩ (Nat.le_refl _) ?_
  exact T119_4_2 H X hd F rfl rfl rfl rfl h
/-- java/util/Arrays.fill -/
def D291_12_5 (F : Nat) : Nat → Int32 → Int32 → Int32 → xS → Option (Unit × xS)
  | 0, _, _, _, _ => none
  | f + 1, v1, v2, v3, m =>
    if zcmp .ge v2 v3 = true then
      some ((), m)
    else
      if xib v2 114 = true then
        D291_12_5 F f v1 (v2 + Int32.ofInt 1) v3 (xu m 12 (v2 : Int32).toNatClampNeg v1)
      else none
set_option maxRecDepth 20000 in
theorem T291_12_5 {B : zHp} (H : yH0 B) (X : yTx B) {e : Nat} (he : 1 ≤ e + 1) (F : Nat) : ∀ (f : Nat) {v1 : Int32} {v2 : Int32} {v3 : Int32} {lv : List (Nat × Value)} {m : xS} {x : Unit × xS}, zld lv 0 = some (.ref 12) → zld lv 1 = some (.int v1) → zld lv 2 = some (.int v2) → zld lv 3 = some (.int v3) → D291_12_5 F f v1 v2 v3 m = some x → zR none e 4 none zc291 (5, lv, []) (xW B m) (none, xW B x.2) := by
  intro f
  induction f with
  | zero => intro v1 v2 v3 lv m x l0 l1 l2 l3 h; cases h
  | succ f ih =>
    intro v1 v2 v3 lv m x l0 l1 l2 l3 h
    unfold D291_12_5 at h
    refine q_li (k := 1) (i := 2) (q := (.iload_n 2, 1, 0, 0, .null)) rfl (fun _ => rfl) l2 ?_
    refine q_li (k := 1) (i := 3) (q := (.iload_n 3, 1, 0, 0, .null)) rfl (fun _ => rfl) l3 ?_
    refine r_ifc (len := 3) (a := 20) (b := 0) (v0 := .null) (cn := .ge) (off := 13) rfl (fun c => ?_) (fun c => ?_)
    · rw [if_pos c] at h
      obtain rfl := Option.some.inj h
      exact r_ret (q := (.return_, 1, 0, 0, .null)) rfl rfl (fun _ => rfl)
    · rw [if_neg (by rw [c]; decide)] at h
      refine q_lr (k := 1) (i := 0) (q := (.aload_n 0, 1, 0, 0, .null)) rfl (fun _ => rfl) l0 ?_
      refine q_li (k := 1) (i := 2) (q := (.iload_n 2, 1, 0, 0, .null)) rfl (fun _ => rfl) l2 ?_
      refine q_li (k := 1) (i := 1) (q := (.iload_n 1, 1, 0, 0, .null)) rfl (fun _ => rfl) l1 ?_
      obtain ⟨c1, h⟩ := xif h
      refine q_as (n := 114) (s2 := (xu m 12 (v2 : Int32).toNatClampNeg v1)) H (pc := 13) rfl (by decide) c1 rfl ?_
      refine q_inc (i := 2) (n := 1) (q := (.iinc 2 1, 3, 0, 0, .null)) rfl (fun _ => rfl) l2 (by decide) ?_
      have l0_2 : zld (zs1 lv 2 (.int (v2 + Int32.ofInt 1))) 0 = some (.ref 12) := x_o1 l0 rfl rfl
      have l1_2 : zld (zs1 lv 2 (.int (v2 + Int32.ofInt 1))) 1 = some (.int v1) := x_o1 l1 rfl rfl
      have l2_2 : zld (zs1 lv 2 (.int (v2 + Int32.ofInt 1))) 2 = some (.int (v2 + Int32.ofInt 1)) := zs1_ld _ _ _
      have l3_2 : zld (zs1 lv 2 (.int (v2 + Int32.ofInt 1))) 3 = some (.int v3) := x_o1 l3 rfl rfl
      generalize (zs1 lv 2 (.int (v2 + Int32.ofInt 1))) = lv2 at *
      refine r_s (fr' := (5, lv2, [])) (hp' := xW B (xu m 12 (v2 : Int32).toNatClampNeg v1)) (q := (.goto (-12), 3, 5, 0, .null)) rfl (fun _ => rfl) (Nat.le_refl _) ?_
      exact ih l0_2 l1_2 l2_2 l3_2 h
def D291_12 (F : Nat) (v1 : Int32) (m : xS) : Option (Unit × xS) :=
  D291_12_5 F F v1 0 (Int32.ofNat 114) m
set_option maxRecDepth 20000 in
theorem T291_12 {B : zHp} (H : yH0 B) (X : yTx B) {e : Nat} (he : 1 ≤ e + 1) (F : Nat) {v1 : Int32} {lv : List (Nat × Value)} {m : xS} {x : Unit × xS} (l0 : zld lv 0 = some (.ref 12)) (l1 : zld lv 1 = some (.int v1)) (h : D291_12 F v1 m = some x) : zR none e 4 none zc291 (0, lv, []) (xW B m) (none, xW B x.2) := by
  unfold D291_12 at h
  refine r_s (fr' := (1, lv, [.int 0])) (hp' := xW B m) (q := (.iconst 0, 1, 0, 0, .null)) rfl (fun _ => rfl) (Nat.le_refl _) ?_
  refine q_si (k := 1) (i := 2) (q := (.istore_n 2, 1, 0, 0, .null)) rfl (fun _ => rfl) (by decide) ?_
  have l0_1 : zld (zs1 lv 2 (.int 0)) 0 = some (.ref 12) := x_o1 l0 rfl rfl
  have l1_1 : zld (zs1 lv 2 (.int 0)) 1 = some (.int v1) := x_o1 l1 rfl rfl
  have l2_1 : zld (zs1 lv 2 (.int 0)) 2 = some (.int 0) := zs1_ld _ _ _
  generalize (zs1 lv 2 (.int 0)) = lv1 at *
  refine q_lr (k := 1) (i := 0) (q := (.aload_n 0, 1, 0, 0, .null)) rfl (fun _ => rfl) l0_1 ?_
  refine q_len (n := 114) (k := 0) H (pc := 3) rfl (by decide) ?_
  refine q_si (k := 1) (i := 3) (q := (.istore_n 3, 1, 0, 0, .null)) rfl (fun _ => rfl) (by decide) ?_
  have l0_2 : zld (zs1 lv1 3 (.int (Int32.ofNat 114))) 0 = some (.ref 12) := x_o1 l0_1 rfl rfl
  have l1_2 : zld (zs1 lv1 3 (.int (Int32.ofNat 114))) 1 = some (.int v1) := x_o1 l1_1 rfl rfl
  have l2_2 : zld (zs1 lv1 3 (.int (Int32.ofNat 114))) 2 = some (.int 0) := x_o1 l2_1 rfl rfl
  have l3_2 : zld (zs1 lv1 3 (.int (Int32.ofNat 114))) 3 = some (.int (Int32.ofNat 114)) := zs1_ld _ _ _
  generalize (zs1 lv1 3 (.int (Int32.ofNat 114))) = lv2 at *
  exact T291_12_5 H X he F F l0_2 l1_2 l2_2 l3_2 h
set_option maxRecDepth 20000 in
theorem Z291_12 {B : zHp} (H : yH0 B) (X : yTx B) {F : Nat} {a1 : Int32} {m : xS} {x : Unit × xS} (h : D291_12 F a1 m = some x) {d : Nat} (hd : 1 ≤ d) : zCan d 291 [.ref 12, .int a1] (xW B m) (none, xW B x.2) := by
  obtain ⟨e, rfl⟩ : ∃ e, d = e + 1 := ⟨d - 1, by omega⟩
  refine zCan_body (nL := 4) (rt := none) (cd := zc291) (xg291) ⟨Nat.le_of_ble_eq_true rfl, by decide⟩ (Nat.le_refl _) ?_
  exact T291_12 H X hd F rfl rfl h
/-- LentTools$Village.tellHouses -/
def D71_11 (F : Nat) (v1 : Int32) (v2 : Int32) (m : xS) : Option (Unit × xS) :=
  (D291_12 F 0 m).bind fun q5 =>
    some ((), (xu (xu q5.2 12 0 v1) 12 1 v2))
set_option maxRecDepth 20000 in
theorem T71_11 {B : zHp} (H : yH0 B) (X : yTx B) {e : Nat} (he : 2 ≤ e + 1) (F : Nat) {v1 : Int32} {v2 : Int32} {lv : List (Nat × Value)} {m : xS} {x : Unit × xS} (l0 : zld lv 0 = some (.ref 11)) (l1 : zld lv 1 = some (.int v1)) (l2 : zld lv 2 = some (.int v2)) (h : D71_11 F v1 v2 m = some x) : zR none e 3 none zc71 (0, lv, []) (xW B m) (none, xW B x.2) := by
  unfold D71_11 at h
  refine q_lr (k := 1) (i := 0) (q := (.aload_n 0, 1, 0, 0, .null)) rfl (fun _ => rfl) l0 ?_
  refine r_gr (c := 12) H (pc := 1) rfl (by decide) (by decide) ?_
  refine r_s (fr' := (5, lv, [.int 0, .ref 12])) (hp' := xW B m) (q := (.iconst 0, 1, 0, 0, .null)) rfl (fun _ => rfl) (Nat.le_refl _) ?_
  obtain ⟨q5, h5, h⟩ := xbind h
  refine r_callS (as := [.ref 12, .int 0]) (rest := []) (rv := none) (hp' := xW B q5.2) (pc := 5) rfl xr291 rfl rfl rfl (Nat.le_of_ble_eq_true rfl) (Z291_12 H X h5 (by omega)) (Nat.le_refl _) ?_
  refine q_lr (k := 1) (i := 0) (q := (.aload_n 0, 1, 0, 0, .null)) rfl (fun _ => rfl) l0 ?_
  refine r_gr (c := 12) H (pc := 9) rfl (by decide) (by decide) ?_
  refine r_s (fr' := (13, lv, [.int 0, .ref 12])) (hp' := xW B q5.2) (q := (.iconst 0, 1, 0, 0, .null)) rfl (fun _ => rfl) (Nat.le_refl _) ?_
  refine q_li (k := 1) (i := 1) (q := (.iload_n 1, 1, 0, 0, .null)) rfl (fun _ => rfl) l1 ?_
  refine q_as (n := 114) (s2 := (xu q5.2 12 0 v1)) H (pc := 14) rfl (by decide) (by decide) rfl ?_
  refine q_lr (k := 1) (i := 0) (q := (.aload_n 0, 1, 0, 0, .null)) rfl (fun _ => rfl) l0 ?_
  refine r_gr (c := 12) H (pc := 16) rfl (by decide) (by decide) ?_
  refine r_s (fr' := (20, lv, [.int 1, .ref 12])) (hp' := xW B (xu q5.2 12 0 v1)) (q := (.iconst 1, 1, 0, 0, .null)) rfl (fun _ => rfl) (Nat.le_refl _) ?_
  refine q_li (k := 1) (i := 2) (q := (.iload_n 2, 1, 0, 0, .null)) rfl (fun _ => rfl) l2 ?_
  refine q_as (n := 114) (s2 := (xu (xu q5.2 12 0 v1) 12 1 v2)) H (pc := 21) rfl (by decide) (by decide) rfl ?_
  obtain rfl := Option.some.inj h
  exact r_ret (q := (.return_, 1, 0, 0, .null)) rfl rfl (fun _ => rfl)
set_option maxRecDepth 20000 in
theorem Z71_11 {B : zHp} (H : yH0 B) (X : yTx B) {F : Nat} {a1 : Int32} {a2 : Int32} {m : xS} {x : Unit × xS} (h : D71_11 F a1 a2 m = some x) {d : Nat} (hd : 2 ≤ d) : zCan d 71 [.ref 11, .int a1, .int a2] (xW B m) (none, xW B x.2) := by
  obtain ⟨e, rfl⟩ : ∃ e, d = e + 1 := ⟨d - 1, by omega⟩
  refine zCan_body (nL := 3) (rt := none) (cd := zc71) (xg71) ⟨Nat.le_of_ble_eq_true rfl, by decide⟩ (Nat.le_refl _) ?_
  exact T71_11 H X hd F rfl rfl rfl h
/-- LentTools$Village.tellThanks -/
def D75_11 (F : Nat) (v1 : Int32) (v2 : Int32) (v3 : Int32) (m : xS) : Option (Unit × xS) :=
  if xib ((78 + (6 * v1)) + v2) 114 = true then
    some ((), (xu m 12 (((78 + (6 * v1)) + v2) : Int32).toNatClampNeg v3))
  else none
set_option maxRecDepth 20000 in
theorem T75_11 {B : zHp} (H : yH0 B) (X : yTx B) {e : Nat} (he : 1 ≤ e + 1) (F : Nat) {v1 : Int32} {v2 : Int32} {v3 : Int32} {lv : List (Nat × Value)} {m : xS} {x : Unit × xS} (l0 : zld lv 0 = some (.ref 11)) (l1 : zld lv 1 = some (.int v1)) (l2 : zld lv 2 = some (.int v2)) (l3 : zld lv 3 = some (.int v3)) (h : D75_11 F v1 v2 v3 m = some x) : zR none e 4 none zc75 (0, lv, []) (xW B m) (none, xW B x.2) := by
  unfold D75_11 at h
  refine q_lr (k := 1) (i := 0) (q := (.aload_n 0, 1, 0, 0, .null)) rfl (fun _ => rfl) l0 ?_
  refine r_gr (c := 12) H (pc := 1) rfl (by decide) (by decide) ?_
  refine r_s (fr' := (6, lv, [.int 78, .ref 12])) (hp' := xW B m) (q := (.bipush 78, 2, 0, 0, .null)) rfl (fun _ => rfl) (Nat.le_refl _) ?_
  refine r_s (fr' := (8, lv, [.int 6, .int 78, .ref 12])) (hp' := xW B m) (q := (.bipush 6, 2, 0, 0, .null)) rfl (fun _ => rfl) (Nat.le_refl _) ?_
  refine q_li (k := 1) (i := 1) (q := (.iload_n 1, 1, 0, 0, .null)) rfl (fun _ => rfl) l1 ?_
  refine r_s (fr' := (10, lv, [.int (6 * v1), .int 78, .ref 12])) (hp' := xW B m) (q := (.imul, 1, 0, 0, .null)) rfl (fun _ => rfl) (Nat.le_refl _) ?_
  refine r_s (fr' := (11, lv, [.int (78 + (6 * v1)), .ref 12])) (hp' := xW B m) (q := (.iadd, 1, 0, 0, .null)) rfl (fun _ => rfl) (Nat.le_refl _) ?_
  refine q_li (k := 1) (i := 2) (q := (.iload_n 2, 1, 0, 0, .null)) rfl (fun _ => rfl) l2 ?_
  refine r_s (fr' := (13, lv, [.int ((78 + (6 * v1)) + v2), .ref 12])) (hp' := xW B m) (q := (.iadd, 1, 0, 0, .null)) rfl (fun _ => rfl) (Nat.le_refl _) ?_
  refine q_li (k := 1) (i := 3) (q := (.iload_n 3, 1, 0, 0, .null)) rfl (fun _ => rfl) l3 ?_
  obtain ⟨c1, h⟩ := xif h
  refine q_as (n := 114) (s2 := (xu m 12 (((78 + (6 * v1)) + v2) : Int32).toNatClampNeg v3)) H (pc := 14) rfl (by decide) c1 rfl ?_
  obtain rfl := Option.some.inj h
  exact r_ret (q := (.return_, 1, 0, 0, .null)) rfl rfl (fun _ => rfl)
set_option maxRecDepth 20000 in
theorem Z75_11 {B : zHp} (H : yH0 B) (X : yTx B) {F : Nat} {a1 : Int32} {a2 : Int32} {a3 : Int32} {m : xS} {x : Unit × xS} (h : D75_11 F a1 a2 a3 m = some x) {d : Nat} (hd : 1 ≤ d) : zCan d 75 [.ref 11, .int a1, .int a2, .int a3] (xW B m) (none, xW B x.2) := by
  obtain ⟨e, rfl⟩ : ∃ e, d = e + 1 := ⟨d - 1, by omega⟩
  refine zCan_body (nL := 4) (rt := none) (cd := zc75) (xg75) ⟨Nat.le_of_ble_eq_true rfl, by decide⟩ (Nat.le_refl _) ?_
  exact T75_11 H X hd F rfl rfl rfl rfl h
/-- LentTools$Village.setOfWork -/
def D90_11 (F : Nat) (v1 : Int32) (v2 : Int32) (v3 : Int32) (m : xS) : Option (Unit × xS) :=
  if xib ((42 + (6 * v2)) + v1) 114 = true then
    some ((), (xu m 12 (((42 + (6 * v2)) + v1) : Int32).toNatClampNeg v3))
  else none
set_option maxRecDepth 20000 in
theorem T90_11 {B : zHp} (H : yH0 B) (X : yTx B) {e : Nat} (he : 1 ≤ e + 1) (F : Nat) {v1 : Int32} {v2 : Int32} {v3 : Int32} {lv : List (Nat × Value)} {m : xS} {x : Unit × xS} (l0 : zld lv 0 = some (.ref 11)) (l1 : zld lv 1 = some (.int v1)) (l2 : zld lv 2 = some (.int v2)) (l3 : zld lv 3 = some (.int v3)) (h : D90_11 F v1 v2 v3 m = some x) : zR none e 4 none zc90 (0, lv, []) (xW B m) (none, xW B x.2) := by
  unfold D90_11 at h
  refine q_lr (k := 1) (i := 0) (q := (.aload_n 0, 1, 0, 0, .null)) rfl (fun _ => rfl) l0 ?_
  refine r_gr (c := 12) H (pc := 1) rfl (by decide) (by decide) ?_
  refine r_s (fr' := (6, lv, [.int 42, .ref 12])) (hp' := xW B m) (q := (.bipush 42, 2, 0, 0, .null)) rfl (fun _ => rfl) (Nat.le_refl _) ?_
  refine r_s (fr' := (8, lv, [.int 6, .int 42, .ref 12])) (hp' := xW B m) (q := (.bipush 6, 2, 0, 0, .null)) rfl (fun _ => rfl) (Nat.le_refl _) ?_
  refine q_li (k := 1) (i := 2) (q := (.iload_n 2, 1, 0, 0, .null)) rfl (fun _ => rfl) l2 ?_
  refine r_s (fr' := (10, lv, [.int (6 * v2), .int 42, .ref 12])) (hp' := xW B m) (q := (.imul, 1, 0, 0, .null)) rfl (fun _ => rfl) (Nat.le_refl _) ?_
  refine r_s (fr' := (11, lv, [.int (42 + (6 * v2)), .ref 12])) (hp' := xW B m) (q := (.iadd, 1, 0, 0, .null)) rfl (fun _ => rfl) (Nat.le_refl _) ?_
  refine q_li (k := 1) (i := 1) (q := (.iload_n 1, 1, 0, 0, .null)) rfl (fun _ => rfl) l1 ?_
  refine r_s (fr' := (13, lv, [.int ((42 + (6 * v2)) + v1), .ref 12])) (hp' := xW B m) (q := (.iadd, 1, 0, 0, .null)) rfl (fun _ => rfl) (Nat.le_refl _) ?_
  refine q_li (k := 1) (i := 3) (q := (.iload_n 3, 1, 0, 0, .null)) rfl (fun _ => rfl) l3 ?_
  obtain ⟨c1, h⟩ := xif h
  refine q_as (n := 114) (s2 := (xu m 12 (((42 + (6 * v2)) + v1) : Int32).toNatClampNeg v3)) H (pc := 14) rfl (by decide) c1 rfl ?_
  obtain rfl := Option.some.inj h
  exact r_ret (q := (.return_, 1, 0, 0, .null)) rfl rfl (fun _ => rfl)
set_option maxRecDepth 20000 in
theorem Z90_11 {B : zHp} (H : yH0 B) (X : yTx B) {F : Nat} {a1 : Int32} {a2 : Int32} {a3 : Int32} {m : xS} {x : Unit × xS} (h : D90_11 F a1 a2 a3 m = some x) {d : Nat} (hd : 1 ≤ d) : zCan d 90 [.ref 11, .int a1, .int a2, .int a3] (xW B m) (none, xW B x.2) := by
  obtain ⟨e, rfl⟩ : ∃ e, d = e + 1 := ⟨d - 1, by omega⟩
  refine zCan_body (nL := 4) (rt := none) (cd := zc90) (xg90) ⟨Nat.le_of_ble_eq_true rfl, by decide⟩ (Nat.le_refl _) ?_
  exact T90_11 H X hd F rfl rfl rfl rfl h
/-- LentTools$Village.tellWork -/
def D73_11 (F : Nat) (v1 : Int32) (v2 : Int32) (v3 : Int32) (v4 : Int32) (m : xS) : Option (Unit × xS) :=
  (D80_11 F m).bind fun q1 =>
    if zcmp .ge q1.1 6 = true then
      some ((), q1.2)
    else
      (D90_11 F q1.1 0 v1 q1.2).bind fun q18 =>
        (D90_11 F q1.1 1 v2 q18.2).bind fun q26 =>
          (D90_11 F q1.1 2 v3 q26.2).bind fun q34 =>
            (D90_11 F q1.1 3 v4 q34.2).bind fun q43 =>
              (D90_11 F q1.1 4 (-1) q43.2).bind fun q51 =>
                some ((), (xu q51.2 12 3 (q1.1 + 1)))
set_option maxRecDepth 20000 in
theorem T73_11 {B : zHp} (H : yH0 B) (X : yTx B) {e : Nat} (he : 2 ≤ e + 1) (F : Nat) {v1 : Int32} {v2 : Int32} {v3 : Int32} {v4 : Int32} {lv : List (Nat × Value)} {m : xS} {x : Unit × xS} (l0 : zld lv 0 = some (.ref 11)) (l1 : zld lv 1 = some (.int v1)) (l2 : zld lv 2 = some (.int v2)) (l3 : zld lv 3 = some (.int v3)) (l4 : zld lv 4 = some (.int v4)) (h : D73_11 F v1 v2 v3 v4 m = some x) : zR none e 6 none zc73 (0, lv, []) (xW B m) (none, xW B x.2) := by
  unfold D73_11 at h
  refine q_lr (k := 1) (i := 0) (q := (.aload_n 0, 1, 0, 0, .null)) rfl (fun _ => rfl) l0 ?_
  obtain ⟨q1, h1, h⟩ := xbind h
  refine r_call (ix := 11) (as := []) (rest := []) (rv := some (.int q1.1)) (hp' := xW B q1.2) (pc := 1) rfl xr80 rfl rfl rfl (xkd H (by decide)) (Nat.le_of_ble_eq_true rfl) (Z80_11 H X h1 (by omega)) (Nat.le_refl _) ?_
  refine q_si (k := 2) (i := 5) (q := (.istore 5, 2, 0, 0, .null)) rfl (fun _ => rfl) (by decide) ?_
  have l0_1 : zld (zs1 lv 5 (.int q1.1)) 0 = some (.ref 11) := x_o1 l0 rfl rfl
  have l1_1 : zld (zs1 lv 5 (.int q1.1)) 1 = some (.int v1) := x_o1 l1 rfl rfl
  have l2_1 : zld (zs1 lv 5 (.int q1.1)) 2 = some (.int v2) := x_o1 l2 rfl rfl
  have l3_1 : zld (zs1 lv 5 (.int q1.1)) 3 = some (.int v3) := x_o1 l3 rfl rfl
  have l4_1 : zld (zs1 lv 5 (.int q1.1)) 4 = some (.int v4) := x_o1 l4 rfl rfl
  have l5_1 : zld (zs1 lv 5 (.int q1.1)) 5 = some (.int q1.1) := zs1_ld _ _ _
  generalize (zs1 lv 5 (.int q1.1)) = lv1 at *
  refine q_li (k := 2) (i := 5) (q := (.iload 5, 2, 0, 0, .null)) rfl (fun _ => rfl) l5_1 ?_
  refine r_s (fr' := (10, lv1, [.int 6, .int q1.1])) (hp' := xW B q1.2) (q := (.bipush 6, 2, 0, 0, .null)) rfl (fun _ => rfl) (Nat.le_refl _) ?_
  refine r_ifc (len := 3) (a := 64) (b := 0) (v0 := .null) (cn := .ge) (off := 54) rfl (fun c => ?_) (fun c => ?_)
  · rw [if_pos c] at h
    obtain rfl := Option.some.inj h
    exact r_ret (q := (.return_, 1, 0, 0, .null)) rfl rfl (fun _ => rfl)
  · rw [if_neg (by rw [c]; decide)] at h
    refine q_lr (k := 1) (i := 0) (q := (.aload_n 0, 1, 0, 0, .null)) rfl (fun _ => rfl) l0_1 ?_
    refine q_li (k := 2) (i := 5) (q := (.iload 5, 2, 0, 0, .null)) rfl (fun _ => rfl) l5_1 ?_
    refine r_s (fr' := (17, lv1, [.int 0, .int q1.1, .ref 11])) (hp' := xW B q1.2) (q := (.iconst 0, 1, 0, 0, .null)) rfl (fun _ => rfl) (Nat.le_refl _) ?_
    refine q_li (k := 1) (i := 1) (q := (.iload_n 1, 1, 0, 0, .null)) rfl (fun _ => rfl) l1_1 ?_
    obtain ⟨q18, h18, h⟩ := xbind h
    refine r_call (ix := 11) (as := [.int q1.1, .int 0, .int v1]) (rest := []) (rv := none) (hp' := xW B q18.2) (pc := 18) rfl xr90 rfl rfl rfl (xkd H (by decide)) (Nat.le_of_ble_eq_true rfl) (Z90_11 H X h18 (by omega)) (Nat.le_refl _) ?_
    refine q_lr (k := 1) (i := 0) (q := (.aload_n 0, 1, 0, 0, .null)) rfl (fun _ => rfl) l0_1 ?_
    refine q_li (k := 2) (i := 5) (q := (.iload 5, 2, 0, 0, .null)) rfl (fun _ => rfl) l5_1 ?_
    refine r_s (fr' := (25, lv1, [.int 1, .int q1.1, .ref 11])) (hp' := xW B q18.2) (q := (.iconst 1, 1, 0, 0, .null)) rfl (fun _ => rfl) (Nat.le_refl _) ?_
    refine q_li (k := 1) (i := 2) (q := (.iload_n 2, 1, 0, 0, .null)) rfl (fun _ => rfl) l2_1 ?_
    obtain ⟨q26, h26, h⟩ := xbind h
    refine r_call (ix := 11) (as := [.int q1.1, .int 1, .int v2]) (rest := []) (rv := none) (hp' := xW B q26.2) (pc := 26) rfl xr90 rfl rfl rfl (xkd H (by decide)) (Nat.le_of_ble_eq_true rfl) (Z90_11 H X h26 (by omega)) (Nat.le_refl _) ?_
    refine q_lr (k := 1) (i := 0) (q := (.aload_n 0, 1, 0, 0, .null)) rfl (fun _ => rfl) l0_1 ?_
    refine q_li (k := 2) (i := 5) (q := (.iload 5, 2, 0, 0, .null)) rfl (fun _ => rfl) l5_1 ?_
    refine r_s (fr' := (33, lv1, [.int 2, .int q1.1, .ref 11])) (hp' := xW B q26.2) (q := (.iconst 2, 1, 0, 0, .null)) rfl (fun _ => rfl) (Nat.le_refl _) ?_
    refine q_li (k := 1) (i := 3) (q := (.iload_n 3, 1, 0, 0, .null)) rfl (fun _ => rfl) l3_1 ?_
    obtain ⟨q34, h34, h⟩ := xbind h
    refine r_call (ix := 11) (as := [.int q1.1, .int 2, .int v3]) (rest := []) (rv := none) (hp' := xW B q34.2) (pc := 34) rfl xr90 rfl rfl rfl (xkd H (by decide)) (Nat.le_of_ble_eq_true rfl) (Z90_11 H X h34 (by omega)) (Nat.le_refl _) ?_
    refine q_lr (k := 1) (i := 0) (q := (.aload_n 0, 1, 0, 0, .null)) rfl (fun _ => rfl) l0_1 ?_
    refine q_li (k := 2) (i := 5) (q := (.iload 5, 2, 0, 0, .null)) rfl (fun _ => rfl) l5_1 ?_
    refine r_s (fr' := (41, lv1, [.int 3, .int q1.1, .ref 11])) (hp' := xW B q34.2) (q := (.iconst 3, 1, 0, 0, .null)) rfl (fun _ => rfl) (Nat.le_refl _) ?_
    refine q_li (k := 2) (i := 4) (q := (.iload 4, 2, 0, 0, .null)) rfl (fun _ => rfl) l4_1 ?_
    obtain ⟨q43, h43, h⟩ := xbind h
    refine r_call (ix := 11) (as := [.int q1.1, .int 3, .int v4]) (rest := []) (rv := none) (hp' := xW B q43.2) (pc := 43) rfl xr90 rfl rfl rfl (xkd H (by decide)) (Nat.le_of_ble_eq_true rfl) (Z90_11 H X h43 (by omega)) (Nat.le_refl _) ?_
    refine q_lr (k := 1) (i := 0) (q := (.aload_n 0, 1, 0, 0, .null)) rfl (fun _ => rfl) l0_1 ?_
    refine q_li (k := 2) (i := 5) (q := (.iload 5, 2, 0, 0, .null)) rfl (fun _ => rfl) l5_1 ?_
    refine r_s (fr' := (50, lv1, [.int 4, .int q1.1, .ref 11])) (hp' := xW B q43.2) (q := (.iconst 4, 1, 0, 0, .null)) rfl (fun _ => rfl) (Nat.le_refl _) ?_
    refine r_s (fr' := (51, lv1, [.int (-1), .int 4, .int q1.1, .ref 11])) (hp' := xW B q43.2) (q := (.iconst (-1), 1, 0, 0, .null)) rfl (fun _ => rfl) (Nat.le_refl _) ?_
    obtain ⟨q51, h51, h⟩ := xbind h
    refine r_call (ix := 11) (as := [.int q1.1, .int 4, .int (-1)]) (rest := []) (rv := none) (hp' := xW B q51.2) (pc := 51) rfl xr90 rfl rfl rfl (xkd H (by decide)) (Nat.le_of_ble_eq_true rfl) (Z90_11 H X h51 (by omega)) (Nat.le_refl _) ?_
    refine q_lr (k := 1) (i := 0) (q := (.aload_n 0, 1, 0, 0, .null)) rfl (fun _ => rfl) l0_1 ?_
    refine r_gr (c := 12) H (pc := 55) rfl (by decide) (by decide) ?_
    refine r_s (fr' := (59, lv1, [.int 3, .ref 12])) (hp' := xW B q51.2) (q := (.iconst 3, 1, 0, 0, .null)) rfl (fun _ => rfl) (Nat.le_refl _) ?_
    refine q_li (k := 2) (i := 5) (q := (.iload 5, 2, 0, 0, .null)) rfl (fun _ => rfl) l5_1 ?_
    refine r_s (fr' := (62, lv1, [.int 1, .int q1.1, .int 3, .ref 12])) (hp' := xW B q51.2) (q := (.iconst 1, 1, 0, 0, .null)) rfl (fun _ => rfl) (Nat.le_refl _) ?_
    refine r_s (fr' := (63, lv1, [.int (q1.1 + 1), .int 3, .ref 12])) (hp' := xW B q51.2) (q := (.iadd, 1, 0, 0, .null)) rfl (fun _ => rfl) (Nat.le_refl _) ?_
    refine q_as (n := 114) (s2 := (xu q51.2 12 3 (q1.1 + 1))) H (pc := 63) rfl (by decide) (by decide) rfl ?_
    obtain rfl := Option.some.inj h
    exact r_ret (q := (.return_, 1, 0, 0, .null)) rfl rfl (fun _ => rfl)
set_option maxRecDepth 20000 in
theorem Z73_11 {B : zHp} (H : yH0 B) (X : yTx B) {F : Nat} {a1 : Int32} {a2 : Int32} {a3 : Int32} {a4 : Int32} {m : xS} {x : Unit × xS} (h : D73_11 F a1 a2 a3 a4 m = some x) {d : Nat} (hd : 2 ≤ d) : zCan d 73 [.ref 11, .int a1, .int a2, .int a3, .int a4] (xW B m) (none, xW B x.2) := by
  obtain ⟨e, rfl⟩ : ∃ e, d = e + 1 := ⟨d - 1, by omega⟩
  refine zCan_body (nL := 6) (rt := none) (cd := zc73) (xg73) ⟨Nat.le_of_ble_eq_true rfl, by decide⟩ (Nat.le_refl _) ?_
  exact T73_11 H X hd F rfl rfl rfl rfl rfl h
/-- LentTools$Village.tellTrust -/
def D74_11 (F : Nat) (v1 : Int32) (v2 : Int32) (m : xS) : Option (Unit × xS) :=
  if xib (72 + v1) 114 = true then
    if xib (72 + v1) 114 = true then
      some ((), (xu m 12 ((72 + v1) : Int32).toNatClampNeg ((m.1 12 ((72 + v1) : Int32).toNatClampNeg) ||| (1 <<< (v2 &&& 31)))))
    else none
  else none
set_option maxRecDepth 20000 in
theorem T74_11 {B : zHp} (H : yH0 B) (X : yTx B) {e : Nat} (he : 1 ≤ e + 1) (F : Nat) {v1 : Int32} {v2 : Int32} {lv : List (Nat × Value)} {m : xS} {x : Unit × xS} (l0 : zld lv 0 = some (.ref 11)) (l1 : zld lv 1 = some (.int v1)) (l2 : zld lv 2 = some (.int v2)) (h : D74_11 F v1 v2 m = some x) : zR none e 3 none zc74 (0, lv, []) (xW B m) (none, xW B x.2) := by
  unfold D74_11 at h
  refine q_lr (k := 1) (i := 0) (q := (.aload_n 0, 1, 0, 0, .null)) rfl (fun _ => rfl) l0 ?_
  refine r_gr (c := 12) H (pc := 1) rfl (by decide) (by decide) ?_
  refine r_s (fr' := (6, lv, [.int 72, .ref 12])) (hp' := xW B m) (q := (.bipush 72, 2, 0, 0, .null)) rfl (fun _ => rfl) (Nat.le_refl _) ?_
  refine q_li (k := 1) (i := 1) (q := (.iload_n 1, 1, 0, 0, .null)) rfl (fun _ => rfl) l1 ?_
  refine r_s (fr' := (8, lv, [.int (72 + v1), .ref 12])) (hp' := xW B m) (q := (.iadd, 1, 0, 0, .null)) rfl (fun _ => rfl) (Nat.le_refl _) ?_
  refine r_s (fr' := (9, lv, [.int (72 + v1), .ref 12, .int (72 + v1), .ref 12])) (hp' := xW B m) (q := (.dup2, 1, 0, 0, .null)) rfl (fun _ => rfl) (Nat.le_refl _) ?_
  obtain ⟨c1, h⟩ := xif h
  refine q_al (n := 114) (v := (m.1 12 ((72 + v1) : Int32).toNatClampNeg)) H (pc := 9) rfl (by decide) c1 rfl ?_
  refine r_s (fr' := (11, lv, [.int 1, .int (m.1 12 ((72 + v1) : Int32).toNatClampNeg), .int (72 + v1), .ref 12])) (hp' := xW B m) (q := (.iconst 1, 1, 0, 0, .null)) rfl (fun _ => rfl) (Nat.le_refl _) ?_
  refine q_li (k := 1) (i := 2) (q := (.iload_n 2, 1, 0, 0, .null)) rfl (fun _ => rfl) l2 ?_
  refine r_s (fr' := (13, lv, [.int (1 <<< (v2 &&& 31)), .int (m.1 12 ((72 + v1) : Int32).toNatClampNeg), .int (72 + v1), .ref 12])) (hp' := xW B m) (q := (.ishl, 1, 0, 0, .null)) rfl (fun _ => rfl) (Nat.le_refl _) ?_
  refine r_s (fr' := (14, lv, [.int ((m.1 12 ((72 + v1) : Int32).toNatClampNeg) ||| (1 <<< (v2 &&& 31))), .int (72 + v1), .ref 12])) (hp' := xW B m) (q := (.ior, 1, 0, 0, .null)) rfl (fun _ => rfl) (Nat.le_refl _) ?_
  obtain ⟨c2, h⟩ := xif h
  refine q_as (n := 114) (s2 := (xu m 12 ((72 + v1) : Int32).toNatClampNeg ((m.1 12 ((72 + v1) : Int32).toNatClampNeg) ||| (1 <<< (v2 &&& 31))))) H (pc := 14) rfl (by decide) c2 rfl ?_
  obtain rfl := Option.some.inj h
  exact r_ret (q := (.return_, 1, 0, 0, .null)) rfl rfl (fun _ => rfl)
set_option maxRecDepth 20000 in
theorem Z74_11 {B : zHp} (H : yH0 B) (X : yTx B) {F : Nat} {a1 : Int32} {a2 : Int32} {m : xS} {x : Unit × xS} (h : D74_11 F a1 a2 m = some x) {d : Nat} (hd : 1 ≤ d) : zCan d 74 [.ref 11, .int a1, .int a2] (xW B m) (none, xW B x.2) := by
  obtain ⟨e, rfl⟩ : ∃ e, d = e + 1 := ⟨d - 1, by omega⟩
  refine zCan_body (nL := 3) (rt := none) (cd := zc74) (xg74) ⟨Nat.le_of_ble_eq_true rfl, by decide⟩ (Nat.le_refl _) ?_
  exact T74_11 H X hd F rfl rfl rfl h
/-- LentTools$Village.setOfTool -/
def D88_11 (F : Nat) (v1 : Int32) (v2 : Int32) (v3 : Int32) (m : xS) : Option (Unit × xS) :=
  if xib ((6 + (6 * v2)) + v1) 114 = true then
    some ((), (xu m 12 (((6 + (6 * v2)) + v1) : Int32).toNatClampNeg v3))
  else none
set_option maxRecDepth 20000 in
theorem T88_11 {B : zHp} (H : yH0 B) (X : yTx B) {e : Nat} (he : 1 ≤ e + 1) (F : Nat) {v1 : Int32} {v2 : Int32} {v3 : Int32} {lv : List (Nat × Value)} {m : xS} {x : Unit × xS} (l0 : zld lv 0 = some (.ref 11)) (l1 : zld lv 1 = some (.int v1)) (l2 : zld lv 2 = some (.int v2)) (l3 : zld lv 3 = some (.int v3)) (h : D88_11 F v1 v2 v3 m = some x) : zR none e 4 none zc88 (0, lv, []) (xW B m) (none, xW B x.2) := by
  unfold D88_11 at h
  refine q_lr (k := 1) (i := 0) (q := (.aload_n 0, 1, 0, 0, .null)) rfl (fun _ => rfl) l0 ?_
  refine r_gr (c := 12) H (pc := 1) rfl (by decide) (by decide) ?_
  refine r_s (fr' := (6, lv, [.int 6, .ref 12])) (hp' := xW B m) (q := (.bipush 6, 2, 0, 0, .null)) rfl (fun _ => rfl) (Nat.le_refl _) ?_
  refine r_s (fr' := (8, lv, [.int 6, .int 6, .ref 12])) (hp' := xW B m) (q := (.bipush 6, 2, 0, 0, .null)) rfl (fun _ => rfl) (Nat.le_refl _) ?_
  refine q_li (k := 1) (i := 2) (q := (.iload_n 2, 1, 0, 0, .null)) rfl (fun _ => rfl) l2 ?_
  refine r_s (fr' := (10, lv, [.int (6 * v2), .int 6, .ref 12])) (hp' := xW B m) (q := (.imul, 1, 0, 0, .null)) rfl (fun _ => rfl) (Nat.le_refl _) ?_
  refine r_s (fr' := (11, lv, [.int (6 + (6 * v2)), .ref 12])) (hp' := xW B m) (q := (.iadd, 1, 0, 0, .null)) rfl (fun _ => rfl) (Nat.le_refl _) ?_
  refine q_li (k := 1) (i := 1) (q := (.iload_n 1, 1, 0, 0, .null)) rfl (fun _ => rfl) l1 ?_
  refine r_s (fr' := (13, lv, [.int ((6 + (6 * v2)) + v1), .ref 12])) (hp' := xW B m) (q := (.iadd, 1, 0, 0, .null)) rfl (fun _ => rfl) (Nat.le_refl _) ?_
  refine q_li (k := 1) (i := 3) (q := (.iload_n 3, 1, 0, 0, .null)) rfl (fun _ => rfl) l3 ?_
  obtain ⟨c1, h⟩ := xif h
  refine q_as (n := 114) (s2 := (xu m 12 (((6 + (6 * v2)) + v1) : Int32).toNatClampNeg v3)) H (pc := 14) rfl (by decide) c1 rfl ?_
  obtain rfl := Option.some.inj h
  exact r_ret (q := (.return_, 1, 0, 0, .null)) rfl rfl (fun _ => rfl)
set_option maxRecDepth 20000 in
theorem Z88_11 {B : zHp} (H : yH0 B) (X : yTx B) {F : Nat} {a1 : Int32} {a2 : Int32} {a3 : Int32} {m : xS} {x : Unit × xS} (h : D88_11 F a1 a2 a3 m = some x) {d : Nat} (hd : 1 ≤ d) : zCan d 88 [.ref 11, .int a1, .int a2, .int a3] (xW B m) (none, xW B x.2) := by
  obtain ⟨e, rfl⟩ : ∃ e, d = e + 1 := ⟨d - 1, by omega⟩
  refine zCan_body (nL := 4) (rt := none) (cd := zc88) (xg88) ⟨Nat.le_of_ble_eq_true rfl, by decide⟩ (Nat.le_refl _) ?_
  exact T88_11 H X hd F rfl rfl rfl rfl h
/-- LentTools$Village.tellTool -/
def D72_11 (F : Nat) (v1 : Int32) (v2 : Int32) (v3 : Int32) (m : xS) : Option (Unit × xS) :=
  (D79_11 F m).bind fun q1 =>
    if zcmp .ge q1.1 6 = true then
      some ((), q1.2)
    else
      (D88_11 F q1.1 0 v1 q1.2).bind fun q18 =>
        (D88_11 F q1.1 1 v2 q18.2).bind fun q26 =>
          (D88_11 F q1.1 2 v3 q26.2).bind fun q34 =>
            (D88_11 F q1.1 3 v1 q34.2).bind fun q42 =>
              some ((), (xu q42.2 12 2 (q1.1 + 1)))
set_option maxRecDepth 20000 in
theorem T72_11 {B : zHp} (H : yH0 B) (X : yTx B) {e : Nat} (he : 2 ≤ e + 1) (F : Nat) {v1 : Int32} {v2 : Int32} {v3 : Int32} {lv : List (Nat × Value)} {m : xS} {x : Unit × xS} (l0 : zld lv 0 = some (.ref 11)) (l1 : zld lv 1 = some (.int v1)) (l2 : zld lv 2 = some (.int v2)) (l3 : zld lv 3 = some (.int v3)) (h : D72_11 F v1 v2 v3 m = some x) : zR none e 5 none zc72 (0, lv, []) (xW B m) (none, xW B x.2) := by
  unfold D72_11 at h
  refine q_lr (k := 1) (i := 0) (q := (.aload_n 0, 1, 0, 0, .null)) rfl (fun _ => rfl) l0 ?_
  obtain ⟨q1, h1, h⟩ := xbind h
  refine r_call (ix := 11) (as := []) (rest := []) (rv := some (.int q1.1)) (hp' := xW B q1.2) (pc := 1) rfl xr79 rfl rfl rfl (xkd H (by decide)) (Nat.le_of_ble_eq_true rfl) (Z79_11 H X h1 (by omega)) (Nat.le_refl _) ?_
  refine q_si (k := 2) (i := 4) (q := (.istore 4, 2, 0, 0, .null)) rfl (fun _ => rfl) (by decide) ?_
  have l0_1 : zld (zs1 lv 4 (.int q1.1)) 0 = some (.ref 11) := x_o1 l0 rfl rfl
  have l1_1 : zld (zs1 lv 4 (.int q1.1)) 1 = some (.int v1) := x_o1 l1 rfl rfl
  have l2_1 : zld (zs1 lv 4 (.int q1.1)) 2 = some (.int v2) := x_o1 l2 rfl rfl
  have l3_1 : zld (zs1 lv 4 (.int q1.1)) 3 = some (.int v3) := x_o1 l3 rfl rfl
  have l4_1 : zld (zs1 lv 4 (.int q1.1)) 4 = some (.int q1.1) := zs1_ld _ _ _
  generalize (zs1 lv 4 (.int q1.1)) = lv1 at *
  refine q_li (k := 2) (i := 4) (q := (.iload 4, 2, 0, 0, .null)) rfl (fun _ => rfl) l4_1 ?_
  refine r_s (fr' := (10, lv1, [.int 6, .int q1.1])) (hp' := xW B q1.2) (q := (.bipush 6, 2, 0, 0, .null)) rfl (fun _ => rfl) (Nat.le_refl _) ?_
  refine r_ifc (len := 3) (a := 55) (b := 0) (v0 := .null) (cn := .ge) (off := 45) rfl (fun c => ?_) (fun c => ?_)
  · rw [if_pos c] at h
    obtain rfl := Option.some.inj h
    exact r_ret (q := (.return_, 1, 0, 0, .null)) rfl rfl (fun _ => rfl)
  · rw [if_neg (by rw [c]; decide)] at h
    refine q_lr (k := 1) (i := 0) (q := (.aload_n 0, 1, 0, 0, .null)) rfl (fun _ => rfl) l0_1 ?_
    refine q_li (k := 2) (i := 4) (q := (.iload 4, 2, 0, 0, .null)) rfl (fun _ => rfl) l4_1 ?_
    refine r_s (fr' := (17, lv1, [.int 0, .int q1.1, .ref 11])) (hp' := xW B q1.2) (q := (.iconst 0, 1, 0, 0, .null)) rfl (fun _ => rfl) (Nat.le_refl _) ?_
    refine q_li (k := 1) (i := 1) (q := (.iload_n 1, 1, 0, 0, .null)) rfl (fun _ => rfl) l1_1 ?_
    obtain ⟨q18, h18, h⟩ := xbind h
    refine r_call (ix := 11) (as := [.int q1.1, .int 0, .int v1]) (rest := []) (rv := none) (hp' := xW B q18.2) (pc := 18) rfl xr88 rfl rfl rfl (xkd H (by decide)) (Nat.le_of_ble_eq_true rfl) (Z88_11 H X h18 (by omega)) (Nat.le_refl _) ?_
    refine q_lr (k := 1) (i := 0) (q := (.aload_n 0, 1, 0, 0, .null)) rfl (fun _ => rfl) l0_1 ?_
    refine q_li (k := 2) (i := 4) (q := (.iload 4, 2, 0, 0, .null)) rfl (fun _ => rfl) l4_1 ?_
    refine r_s (fr' := (25, lv1, [.int 1, .int q1.1, .ref 11])) (hp' := xW B q18.2) (q := (.iconst 1, 1, 0, 0, .null)) rfl (fun _ => rfl) (Nat.le_refl _) ?_
    refine q_li (k := 1) (i := 2) (q := (.iload_n 2, 1, 0, 0, .null)) rfl (fun _ => rfl) l2_1 ?_
    obtain ⟨q26, h26, h⟩ := xbind h
    refine r_call (ix := 11) (as := [.int q1.1, .int 1, .int v2]) (rest := []) (rv := none) (hp' := xW B q26.2) (pc := 26) rfl xr88 rfl rfl rfl (xkd H (by decide)) (Nat.le_of_ble_eq_true rfl) (Z88_11 H X h26 (by omega)) (Nat.le_refl _) ?_
    refine q_lr (k := 1) (i := 0) (q := (.aload_n 0, 1, 0, 0, .null)) rfl (fun _ => rfl) l0_1 ?_
    refine q_li (k := 2) (i := 4) (q := (.iload 4, 2, 0, 0, .null)) rfl (fun _ => rfl) l4_1 ?_
    refine r_s (fr' := (33, lv1, [.int 2, .int q1.1, .ref 11])) (hp' := xW B q26.2) (q := (.iconst 2, 1, 0, 0, .null)) rfl (fun _ => rfl) (Nat.le_refl _) ?_
    refine q_li (k := 1) (i := 3) (q := (.iload_n 3, 1, 0, 0, .null)) rfl (fun _ => rfl) l3_1 ?_
    obtain ⟨q34, h34, h⟩ := xbind h
    refine r_call (ix := 11) (as := [.int q1.1, .int 2, .int v3]) (rest := []) (rv := none) (hp' := xW B q34.2) (pc := 34) rfl xr88 rfl rfl rfl (xkd H (by decide)) (Nat.le_of_ble_eq_true rfl) (Z88_11 H X h34 (by omega)) (Nat.le_refl _) ?_
    refine q_lr (k := 1) (i := 0) (q := (.aload_n 0, 1, 0, 0, .null)) rfl (fun _ => rfl) l0_1 ?_
    refine q_li (k := 2) (i := 4) (q := (.iload 4, 2, 0, 0, .null)) rfl (fun _ => rfl) l4_1 ?_
    refine r_s (fr' := (41, lv1, [.int 3, .int q1.1, .ref 11])) (hp' := xW B q34.2) (q := (.iconst 3, 1, 0, 0, .null)) rfl (fun _ => rfl) (Nat.le_refl _) ?_
    refine q_li (k := 1) (i := 1) (q := (.iload_n 1, 1, 0, 0, .null)) rfl (fun _ => rfl) l1_1 ?_
    obtain ⟨q42, h42, h⟩ := xbind h
    refine r_call (ix := 11) (as := [.int q1.1, .int 3, .int v1]) (rest := []) (rv := none) (hp' := xW B q42.2) (pc := 42) rfl xr88 rfl rfl rfl (xkd H (by decide)) (Nat.le_of_ble_eq_true rfl) (Z88_11 H X h42 (by omega)) (Nat.le_refl _) ?_
    refine q_lr (k := 1) (i := 0) (q := (.aload_n 0, 1, 0, 0, .null)) rfl (fun _ => rfl) l0_1 ?_
    refine r_gr (c := 12) H (pc := 46) rfl (by decide) (by decide) ?_
    refine r_s (fr' := (50, lv1, [.int 2, .ref 12])) (hp' := xW B q42.2) (q := (.iconst 2, 1, 0, 0, .null)) rfl (fun _ => rfl) (Nat.le_refl _) ?_
    refine q_li (k := 2) (i := 4) (q := (.iload 4, 2, 0, 0, .null)) rfl (fun _ => rfl) l4_1 ?_
    refine r_s (fr' := (53, lv1, [.int 1, .int q1.1, .int 2, .ref 12])) (hp' := xW B q42.2) (q := (.iconst 1, 1, 0, 0, .null)) rfl (fun _ => rfl) (Nat.le_refl _) ?_
    refine r_s (fr' := (54, lv1, [.int (q1.1 + 1), .int 2, .ref 12])) (hp' := xW B q42.2) (q := (.iadd, 1, 0, 0, .null)) rfl (fun _ => rfl) (Nat.le_refl _) ?_
    refine q_as (n := 114) (s2 := (xu q42.2 12 2 (q1.1 + 1))) H (pc := 54) rfl (by decide) (by decide) rfl ?_
    obtain rfl := Option.some.inj h
    exact r_ret (q := (.return_, 1, 0, 0, .null)) rfl rfl (fun _ => rfl)
set_option maxRecDepth 20000 in
theorem Z72_11 {B : zHp} (H : yH0 B) (X : yTx B) {F : Nat} {a1 : Int32} {a2 : Int32} {a3 : Int32} {m : xS} {x : Unit × xS} (h : D72_11 F a1 a2 a3 m = some x) {d : Nat} (hd : 2 ≤ d) : zCan d 72 [.ref 11, .int a1, .int a2, .int a3] (xW B m) (none, xW B x.2) := by
  obtain ⟨e, rfl⟩ : ∃ e, d = e + 1 := ⟨d - 1, by omega⟩
  refine zCan_body (nL := 5) (rt := none) (cd := zc72) (xg72) ⟨Nat.le_of_ble_eq_true rfl, by decide⟩ (Nat.le_refl _) ?_
  exact T72_11 H X hd F rfl rfl rfl rfl h
/-- LentTools$VillageReader.tell -/
def D120_4_11 (F : Nat) (v2 : Int32) (m : xS) : Option (Unit × xS) :=
  if (v2 == 0) = true then
    (D71_11 F (m.1 5 0) (m.1 5 1) m).bind fun q45 =>
      some ((), q45.2)
  else
    if (v2 == 1) = true then
      (D72_11 F (m.1 5 0) (m.1 5 1) (m.1 5 2) m).bind fun q70 =>
        some ((), q70.2)
    else
      if (v2 == 2) = true then
        (D74_11 F (m.1 5 0) (m.1 5 1) m).bind fun q89 =>
          some ((), q89.2)
      else
        if (v2 == 3) = true then
          (D73_11 F (m.1 5 0) (m.1 5 1) (m.1 5 2) (m.1 5 3) m).bind fun q120 =>
            some ((), q120.2)
        else
          (D75_11 F (m.1 5 0) (m.1 5 1) (m.1 5 2) m).bind fun q145 =>
            some ((), q145.2)
set_option maxRecDepth 20000 in
theorem T120_4_11 {B : zHp} (H : yH0 B) (X : yTx B) {e : Nat} (he : 3 ≤ e + 1) (F : Nat) {v2 : Int32} {lv : List (Nat × Value)} {m : xS} {x : Unit × xS} (l0 : zld lv 0 = some (.ref 4)) (l1 : zld lv 1 = some (.ref 11)) (l2 : zld lv 2 = some (.int v2)) (h : D120_4_11 F v2 m = some x) : zR none e 3 none zc120 (0, lv, []) (xW B m) (none, xW B x.2) := by
  unfold D120_4_11 at h
  refine q_li (k := 1) (i := 2) (q := (.iload_n 2, 1, 0, 0, .null)) rfl (fun _ => rfl) l2 ?_
  by_cases d1 : ((v2 == 0)) = true
  · rw [if_pos d1] at h
    refine q_sw (pc2 := 32) (q := (.tableswitch 125 0 3 #[31, 50, 75, 94], 31, 0, 0, .null)) d1 rfl (fun _ => rfl) ?_
    refine q_lr (k := 1) (i := 1) (q := (.aload_n 1, 1, 0, 0, .null)) rfl (fun _ => rfl) l1 ?_
    refine q_lr (k := 1) (i := 0) (q := (.aload_n 0, 1, 0, 0, .null)) rfl (fun _ => rfl) l0 ?_
    refine r_gr (c := 5) H (pc := 34) rfl (by decide) (by decide) ?_
    refine r_s (fr' := (38, lv, [.int 0, .ref 5, .ref 11])) (hp' := xW B m) (q := (.iconst 0, 1, 0, 0, .null)) rfl (fun _ => rfl) (Nat.le_refl _) ?_
    refine q_al (n := 4) (v := (m.1 5 0)) H (pc := 38) rfl (by decide) (by decide) rfl ?_
    refine q_lr (k := 1) (i := 0) (q := (.aload_n 0, 1, 0, 0, .null)) rfl (fun _ => rfl) l0 ?_
    refine r_gr (c := 5) H (pc := 40) rfl (by decide) (by decide) ?_
    refine r_s (fr' := (44, lv, [.int 1, .ref 5, .int (m.1 5 0), .ref 11])) (hp' := xW B m) (q := (.iconst 1, 1, 0, 0, .null)) rfl (fun _ => rfl) (Nat.le_refl _) ?_
    refine q_al (n := 4) (v := (m.1 5 1)) H (pc := 44) rfl (by decide) (by decide) rfl ?_
    obtain ⟨q45, h45, h⟩ := xbind h
    refine r_call (ix := 11) (as := [.int (m.1 5 0), .int (m.1 5 1)]) (rest := []) (rv := none) (hp' := xW B q45.2) (pc := 45) rfl xr71 rfl rfl rfl (xkd H (by decide)) (Nat.le_of_ble_eq_true rfl) (Z71_11 H X h45 (by omega)) (Nat.le_refl _) ?_
    refine r_s (fr' := (148, lv, [])) (hp' := xW B q45.2) (q := (.goto 100, 3, 148, 0, .null)) rfl (fun _ => rfl) (Nat.le_refl _) ?_
    obtain rfl := Option.some.inj h
    exact r_ret (q := (.return_, 1, 0, 0, .null)) rfl rfl (fun _ => rfl)
  · rw [if_neg d1] at h
    by_cases d2 : ((v2 == 1)) = true
    · rw [if_pos d2] at h
      refine q_sw (pc2 := 51) (q := (.tableswitch 125 0 3 #[31, 50, 75, 94], 31, 0, 0, .null)) d2 rfl (fun _ => rfl) ?_
      refine q_lr (k := 1) (i := 1) (q := (.aload_n 1, 1, 0, 0, .null)) rfl (fun _ => rfl) l1 ?_
      refine q_lr (k := 1) (i := 0) (q := (.aload_n 0, 1, 0, 0, .null)) rfl (fun _ => rfl) l0 ?_
      refine r_gr (c := 5) H (pc := 53) rfl (by decide) (by decide) ?_
      refine r_s (fr' := (57, lv, [.int 0, .ref 5, .ref 11])) (hp' := xW B m) (q := (.iconst 0, 1, 0, 0, .null)) rfl (fun _ => rfl) (Nat.le_refl _) ?_
      refine q_al (n := 4) (v := (m.1 5 0)) H (pc := 57) rfl (by decide) (by decide) rfl ?_
      refine q_lr (k := 1) (i := 0) (q := (.aload_n 0, 1, 0, 0, .null)) rfl (fun _ => rfl) l0 ?_
      refine r_gr (c := 5) H (pc := 59) rfl (by decide) (by decide) ?_
      refine r_s (fr' := (63, lv, [.int 1, .ref 5, .int (m.1 5 0), .ref 11])) (hp' := xW B m) (q := (.iconst 1, 1, 0, 0, .null)) rfl (fun _ => rfl) (Nat.le_refl _) ?_
      refine q_al (n := 4) (v := (m.1 5 1)) H (pc := 63) rfl (by decide) (by decide) rfl ?_
      refine q_lr (k := 1) (i := 0) (q := (.aload_n 0, 1, 0, 0, .null)) rfl (fun _ => rfl) l0 ?_
      refine r_gr (c := 5) H (pc := 65) rfl (by decide) (by decide) ?_
      refine r_s (fr' := (69, lv, [.int 2, .ref 5, .int (m.1 5 1), .int (m.1 5 0), .ref 11])) (hp' := xW B m) (q := (.iconst 2, 1, 0, 0, .null)) rfl (fun _ => rfl) (Nat.le_refl _) ?_
      refine q_al (n := 4) (v := (m.1 5 2)) H (pc := 69) rfl (by decide) (by decide) rfl ?_
      obtain ⟨q70, h70, h⟩ := xbind h
      refine r_call (ix := 11) (as := [.int (m.1 5 0), .int (m.1 5 1), .int (m.1 5 2)]) (rest := []) (rv := none) (hp' := xW B q70.2) (pc := 70) rfl xr72 rfl rfl rfl (xkd H (by decide)) (Nat.le_of_ble_eq_true rfl) (Z72_11 H X h70 (by omega)) (Nat.le_refl _) ?_
      refine r_s (fr' := (148, lv, [])) (hp' := xW B q70.2) (q := (.goto 75, 3, 148, 0, .null)) rfl (fun _ => rfl) (Nat.le_refl _) ?_
      obtain rfl := Option.some.inj h
      exact r_ret (q := (.return_, 1, 0, 0, .null)) rfl rfl (fun _ => rfl)
    · rw [if_neg d2] at h
      by_cases d3 : ((v2 == 2)) = true
      · rw [if_pos d3] at h
        refine q_sw (pc2 := 76) (q := (.tableswitch 125 0 3 #[31, 50, 75, 94], 31, 0, 0, .null)) d3 rfl (fun _ => rfl) ?_
        refine q_lr (k := 1) (i := 1) (q := (.aload_n 1, 1, 0, 0, .null)) rfl (fun _ => rfl) l1 ?_
        refine q_lr (k := 1) (i := 0) (q := (.aload_n 0, 1, 0, 0, .null)) rfl (fun _ => rfl) l0 ?_
        refine r_gr (c := 5) H (pc := 78) rfl (by decide) (by decide) ?_
        refine r_s (fr' := (82, lv, [.int 0, .ref 5, .ref 11])) (hp' := xW B m) (q := (.iconst 0, 1, 0, 0, .null)) rfl (fun _ => rfl) (Nat.le_refl _) ?_
        refine q_al (n := 4) (v := (m.1 5 0)) H (pc := 82) rfl (by decide) (by decide) rfl ?_
        refine q_lr (k := 1) (i := 0) (q := (.aload_n 0, 1, 0, 0, .null)) rfl (fun _ => rfl) l0 ?_
        refine r_gr (c := 5) H (pc := 84) rfl (by decide) (by decide) ?_
        refine r_s (fr' := (88, lv, [.int 1, .ref 5, .int (m.1 5 0), .ref 11])) (hp' := xW B m) (q := (.iconst 1, 1, 0, 0, .null)) rfl (fun _ => rfl) (Nat.le_refl _) ?_
        refine q_al (n := 4) (v := (m.1 5 1)) H (pc := 88) rfl (by decide) (by decide) rfl ?_
        obtain ⟨q89, h89, h⟩ := xbind h
        refine r_call (ix := 11) (as := [.int (m.1 5 0), .int (m.1 5 1)]) (rest := []) (rv := none) (hp' := xW B q89.2) (pc := 89) rfl xr74 rfl rfl rfl (xkd H (by decide)) (Nat.le_of_ble_eq_true rfl) (Z74_11 H X h89 (by omega)) (Nat.le_refl _) ?_
        refine r_s (fr' := (148, lv, [])) (hp' := xW B q89.2) (q := (.goto 56, 3, 148, 0, .null)) rfl (fun _ => rfl) (Nat.le_refl _) ?_
        obtain rfl := Option.some.inj h
        exact r_ret (q := (.return_, 1, 0, 0, .null)) rfl rfl (fun _ => rfl)
      · rw [if_neg d3] at h
        by_cases d4 : ((v2 == 3)) = true
        · rw [if_pos d4] at h
          refine q_sw (pc2 := 95) (q := (.tableswitch 125 0 3 #[31, 50, 75, 94], 31, 0, 0, .null)) d4 rfl (fun _ => rfl) ?_
          refine q_lr (k := 1) (i := 1) (q := (.aload_n 1, 1, 0, 0, .null)) rfl (fun _ => rfl) l1 ?_
          refine q_lr (k := 1) (i := 0) (q := (.aload_n 0, 1, 0, 0, .null)) rfl (fun _ => rfl) l0 ?_
          refine r_gr (c := 5) H (pc := 97) rfl (by decide) (by decide) ?_
          refine r_s (fr' := (101, lv, [.int 0, .ref 5, .ref 11])) (hp' := xW B m) (q := (.iconst 0, 1, 0, 0, .null)) rfl (fun _ => rfl) (Nat.le_refl _) ?_
          refine q_al (n := 4) (v := (m.1 5 0)) H (pc := 101) rfl (by decide) (by decide) rfl ?_
          refine q_lr (k := 1) (i := 0) (q := (.aload_n 0, 1, 0, 0, .null)) rfl (fun _ => rfl) l0 ?_
          refine r_gr (c := 5) H (pc := 103) rfl (by decide) (by decide) ?_
          refine r_s (fr' := (107, lv, [.int 1, .ref 5, .int (m.1 5 0), .ref 11])) (hp' := xW B m) (q := (.iconst 1, 1, 0, 0, .null)) rfl (fun _ => rfl) (Nat.le_refl _) ?_
          refine q_al (n := 4) (v := (m.1 5 1)) H (pc := 107) rfl (by decide) (by decide) rfl ?_
          refine q_lr (k := 1) (i := 0) (q := (.aload_n 0, 1, 0, 0, .null)) rfl (fun _ => rfl) l0 ?_
          refine r_gr (c := 5) H (pc := 109) rfl (by decide) (by decide) ?_
          refine r_s (fr' := (113, lv, [.int 2, .ref 5, .int (m.1 5 1), .int (m.1 5 0), .ref 11])) (hp' := xW B m) (q := (.iconst 2, 1, 0, 0, .null)) rfl (fun _ => rfl) (Nat.le_refl _) ?_
          refine q_al (n := 4) (v := (m.1 5 2)) H (pc := 113) rfl (by decide) (by decide) rfl ?_
          refine q_lr (k := 1) (i := 0) (q := (.aload_n 0, 1, 0, 0, .null)) rfl (fun _ => rfl) l0 ?_
          refine r_gr (c := 5) H (pc := 115) rfl (by decide) (by decide) ?_
          refine r_s (fr' := (119, lv, [.int 3, .ref 5, .int (m.1 5 2), .int (m.1 5 1), .int (m.1 5 0), .ref 11])) (hp' := xW B m) (q := (.iconst 3, 1, 0, 0, .null)) rfl (fun _ => rfl) (Nat.le_refl _) ?_
          refine q_al (n := 4) (v := (m.1 5 3)) H (pc := 119) rfl (by decide) (by decide) rfl ?_
          obtain ⟨q120, h120, h⟩ := xbind h
          refine r_call (ix := 11) (as := [.int (m.1 5 0), .int (m.1 5 1), .int (m.1 5 2), .int (m.1 5 3)]) (rest := []) (rv := none) (hp' := xW B q120.2) (pc := 120) rfl xr73 rfl rfl rfl (xkd H (by decide)) (Nat.le_of_ble_eq_true rfl) (Z73_11 H X h120 (by omega)) (Nat.le_refl _) ?_
          refine r_s (fr' := (148, lv, [])) (hp' := xW B q120.2) (q := (.goto 25, 3, 148, 0, .null)) rfl (fun _ => rfl) (Nat.le_refl _) ?_
          obtain rfl := Option.some.inj h
          exact r_ret (q := (.return_, 1, 0, 0, .null)) rfl rfl (fun _ => rfl)
        · rw [if_neg d4] at h
          refine q_td (pc2 := 126) (q := (.tableswitch 125 0 3 #[31, 50, 75, 94], 31, 0, 0, .null)) (dflt := 125) (lo := 0) (hi := 3) (offs := #[31, 50, 75, 94]) (by have z0 := xne (z := 0) rfl d1; have z1 := xne (z := 1) rfl d2; have z2 := xne (z := 2) rfl d3; have z3 := xne (z := 3) rfl d4; omega) rfl (fun _ => rfl) rfl ?_
          refine q_lr (k := 1) (i := 1) (q := (.aload_n 1, 1, 0, 0, .null)) rfl (fun _ => rfl) l1 ?_
          refine q_lr (k := 1) (i := 0) (q := (.aload_n 0, 1, 0, 0, .null)) rfl (fun _ => rfl) l0 ?_
          refine r_gr (c := 5) H (pc := 128) rfl (by decide) (by decide) ?_
          refine r_s (fr' := (132, lv, [.int 0, .ref 5, .ref 11])) (hp' := xW B m) (q := (.iconst 0, 1, 0, 0, .null)) rfl (fun _ => rfl) (Nat.le_refl _) ?_
          refine q_al (n := 4) (v := (m.1 5 0)) H (pc := 132) rfl (by decide) (by decide) rfl ?_
          refine q_lr (k := 1) (i := 0) (q := (.aload_n 0, 1, 0, 0, .null)) rfl (fun _ => rfl) l0 ?_
          refine r_gr (c := 5) H (pc := 134) rfl (by decide) (by decide) ?_
          refine r_s (fr' := (138, lv, [.int 1, .ref 5, .int (m.1 5 0), .ref 11])) (hp' := xW B m) (q := (.iconst 1, 1, 0, 0, .null)) rfl (fun _ => rfl) (Nat.le_refl _) ?_
          refine q_al (n := 4) (v := (m.1 5 1)) H (pc := 138) rfl (by decide) (by decide) rfl ?_
          refine q_lr (k := 1) (i := 0) (q := (.aload_n 0, 1, 0, 0, .null)) rfl (fun _ => rfl) l0 ?_
          refine r_gr (c := 5) H (pc := 140) rfl (by decide) (by decide) ?_
          refine r_s (fr' := (144, lv, [.int 2, .ref 5, .int (m.1 5 1), .int (m.1 5 0), .ref 11])) (hp' := xW B m) (q := (.iconst 2, 1, 0, 0, .null)) rfl (fun _ => rfl) (Nat.le_refl _) ?_
          refine q_al (n := 4) (v := (m.1 5 2)) H (pc := 144) rfl (by decide) (by decide) rfl ?_
          obtain ⟨q145, h145, h⟩ := xbind h
          refine r_call (ix := 11) (as := [.int (m.1 5 0), .int (m.1 5 1), .int (m.1 5 2)]) (rest := []) (rv := none) (hp' := xW B q145.2) (pc := 145) rfl xr75 rfl rfl rfl (xkd H (by decide)) (Nat.le_of_ble_eq_true rfl) (Z75_11 H X h145 (by omega)) (Nat.le_refl _) ?_
          obtain rfl := Option.some.inj h
          exact r_ret (q := (.return_, 1, 0, 0, .null)) rfl rfl (fun _ => rfl)
set_option maxRecDepth 20000 in
theorem Z120_4_11 {B : zHp} (H : yH0 B) (X : yTx B) {F : Nat} {a2 : Int32} {m : xS} {x : Unit × xS} (h : D120_4_11 F a2 m = some x) {d : Nat} (hd : 3 ≤ d) : zCan d 120 [.ref 4, .ref 11, .int a2] (xW B m) (none, xW B x.2) := by
  obtain ⟨e, rfl⟩ : ∃ e, d = e + 1 := ⟨d - 1, by omega⟩
  refine zCan_body (nL := 3) (rt := none) (cd := zc120) (xg120) ⟨Nat.le_of_ble_eq_true rfl, by decide⟩ (Nat.le_refl _) ?_
  exact T120_4_11 H X hd F rfl rfl rfl h
/-- LentTools$VillageReader.readClause -/
def D117_4_2_11 (F : Nat) (v3 : Int32) (m : xS) : Option (Unit × xS) :=
  (D60_2_1001 F m).bind fun q3 =>
    if zcmp .ne q3.1 (-1) = true then
      (D118_11 F q3.1 v3 q3.2).bind fun q19 =>
        if zcmp .ne q19.1 0 = true then
          (D77_11 F q19.2).bind fun q38 =>
            (D119_4_2 F q38.1 q3.1 q38.2).bind fun q43 =>
              (D51_2 F q43.2).bind fun q47 =>
                if zcmp .eq q47.1 0 = true then
                  some ((), q47.2)
                else
                  (D120_4_11 F q3.1 q47.2).bind fun q57 =>
                    some ((), q57.2)
        else
          (D52_2 F (q19.2.1 2 3) 4 q19.2).bind fun q31 =>
            some ((), q31.2)
    else
      some ((), q3.2)
set_option maxRecDepth 20000 in
theorem T117_4_2_11 {B : zHp} (H : yH0 B) (X : yTx B) {e : Nat} (he : 8 ≤ e + 1) (F : Nat) {v3 : Int32} {lv : List (Nat × Value)} {m : xS} {x : Unit × xS} (l0 : zld lv 0 = some (.ref 4)) (l1 : zld lv 1 = some (.ref 2)) (l2 : zld lv 2 = some (.ref 11)) (l3 : zld lv 3 = some (.int v3)) (h : D117_4_2_11 F v3 m = some x) : zR none e 5 none zc117 (0, lv, []) (xW B m) (none, xW B x.2) := by
  unfold D117_4_2_11 at h
  refine q_lr (k := 1) (i := 1) (q := (.aload_n 1, 1, 0, 0, .null)) rfl (fun _ => rfl) l1 ?_
  refine r_s (fr' := (3, lv, [.ref 1001, .ref 2])) (hp' := xW B m) (q := (.ldc 25, 2, 1, 0, .ref 1001)) rfl (fun _ => rfl) (Nat.le_refl _) ?_
  obtain ⟨q3, h3, h⟩ := xbind h
  refine r_call (ix := 2) (as := [.ref 1001]) (rest := []) (rv := some (.int q3.1)) (hp' := xW B q3.2) (pc := 3) rfl xr60 rfl rfl rfl (xkd H (by decide)) (Nat.le_of_ble_eq_true rfl) (Z60_2_1001 H X h3 (by omega)) (Nat.le_refl _) ?_
  refine q_si (k := 2) (i := 4) (q := (.istore 4, 2, 0, 0, .null)) rfl (fun _ => rfl) (by decide) ?_
  have l0_1 : zld (zs1 lv 4 (.int q3.1)) 0 = some (.ref 4) := x_o1 l0 rfl rfl
  have l1_1 : zld (zs1 lv 4 (.int q3.1)) 1 = some (.ref 2) := x_o1 l1 rfl rfl
  have l2_1 : zld (zs1 lv 4 (.int q3.1)) 2 = some (.ref 11) := x_o1 l2 rfl rfl
  have l3_1 : zld (zs1 lv 4 (.int q3.1)) 3 = some (.int v3) := x_o1 l3 rfl rfl
  have l4_1 : zld (zs1 lv 4 (.int q3.1)) 4 = some (.int q3.1) := zs1_ld _ _ _
  generalize (zs1 lv 4 (.int q3.1)) = lv1 at *
  refine q_li (k := 2) (i := 4) (q := (.iload 4, 2, 0, 0, .null)) rfl (fun _ => rfl) l4_1 ?_
  refine r_s (fr' := (11, lv1, [.int (-1), .int q3.1])) (hp' := xW B q3.2) (q := (.iconst (-1), 1, 0, 0, .null)) rfl (fun _ => rfl) (Nat.le_refl _) ?_
  refine r_ifc (len := 3) (a := 15) (b := 0) (v0 := .null) (cn := .ne) (off := 4) rfl (fun c => ?_) (fun c => ?_)
  · rw [if_pos c] at h
    refine q_lr (k := 1) (i := 2) (q := (.aload_n 2, 1, 0, 0, .null)) rfl (fun _ => rfl) l2_1 ?_
    refine q_li (k := 2) (i := 4) (q := (.iload 4, 2, 0, 0, .null)) rfl (fun _ => rfl) l4_1 ?_
    refine q_li (k := 1) (i := 3) (q := (.iload_n 3, 1, 0, 0, .null)) rfl (fun _ => rfl) l3_1 ?_
    obtain ⟨q19, h19, h⟩ := xbind h
    refine r_callS (as := [.ref 11, .int q3.1, .int v3]) (rest := []) (rv := some (.int q19.1)) (hp' := xW B q19.2) (pc := 19) rfl xr118 rfl rfl rfl (Nat.le_of_ble_eq_true rfl) (Z118_11 H X h19 (by omega)) (Nat.le_refl _) ?_
    refine r_if (len := 3) (a := 35) (b := 0) (v0 := .null) (cn := .ne) (off := 13) rfl (fun c => ?_) (fun c => ?_)
    · rw [if_pos c] at h
      refine q_lr (k := 1) (i := 0) (q := (.aload_n 0, 1, 0, 0, .null)) rfl (fun _ => rfl) l0_1 ?_
      refine q_lr (k := 1) (i := 1) (q := (.aload_n 1, 1, 0, 0, .null)) rfl (fun _ => rfl) l1_1 ?_
      refine q_lr (k := 1) (i := 2) (q := (.aload_n 2, 1, 0, 0, .null)) rfl (fun _ => rfl) l2_1 ?_
      obtain ⟨q38, h38, h⟩ := xbind h
      refine r_call (ix := 11) (as := []) (rest := [.ref 2, .ref 4]) (rv := some (.int q38.1)) (hp' := xW B q38.2) (pc := 38) rfl xr77 rfl rfl rfl (xkd H (by decide)) (Nat.le_of_ble_eq_true rfl) (Z77_11 H X h38 (by omega)) (Nat.le_refl _) ?_
      refine q_li (k := 2) (i := 4) (q := (.iload 4, 2, 0, 0, .null)) rfl (fun _ => rfl) l4_1 ?_
      obtain ⟨q43, h43, h⟩ := xbind h
      refine r_call (ix := 4) (as := [.ref 2, .int q38.1, .int q3.1]) (rest := []) (rv := none) (hp' := xW B q43.2) (pc := 43) rfl xr119 rfl rfl rfl (xkd H (by decide)) (Nat.le_of_ble_eq_true rfl) (Z119_4_2 H X h43 (by omega)) (Nat.le_refl _) ?_
      refine q_lr (k := 1) (i := 1) (q := (.aload_n 1, 1, 0, 0, .null)) rfl (fun _ => rfl) l1_1 ?_
      obtain ⟨q47, h47, h⟩ := xbind h
      refine r_call (ix := 2) (as := []) (rest := []) (rv := some (.int q47.1)) (hp' := xW B q47.2) (pc := 47) rfl xr51 rfl rfl rfl (xkd H (by decide)) (Nat.le_of_ble_eq_true rfl) (Z51_2 H X h47 (by omega)) (Nat.le_refl _) ?_
      refine r_if (len := 3) (a := 60) (b := 0) (v0 := .null) (cn := .eq) (off := 10) rfl (fun c => ?_) (fun c => ?_)
      · rw [if_pos c] at h
        obtain rfl := Option.some.inj h
        exact r_ret (q := (.return_, 1, 0, 0, .null)) rfl rfl (fun _ => rfl)
      · rw [if_neg (by rw [c]; decide)] at h
        refine q_lr (k := 1) (i := 0) (q := (.aload_n 0, 1, 0, 0, .null)) rfl (fun _ => rfl) l0_1 ?_
        refine q_lr (k := 1) (i := 2) (q := (.aload_n 2, 1, 0, 0, .null)) rfl (fun _ => rfl) l2_1 ?_
        refine q_li (k := 2) (i := 4) (q := (.iload 4, 2, 0, 0, .null)) rfl (fun _ => rfl) l4_1 ?_
        obtain ⟨q57, h57, h⟩ := xbind h
        refine r_call (ix := 4) (as := [.ref 11, .int q3.1]) (rest := []) (rv := none) (hp' := xW B q57.2) (pc := 57) rfl xr120 rfl rfl rfl (xkd H (by decide)) (Nat.le_of_ble_eq_true rfl) (Z120_4_11 H X h57 (by omega)) (Nat.le_refl _) ?_
        obtain rfl := Option.some.inj h
        exact r_ret (q := (.return_, 1, 0, 0, .null)) rfl rfl (fun _ => rfl)
    · rw [if_neg (by rw [c]; decide)] at h
      refine q_lr (k := 1) (i := 1) (q := (.aload_n 1, 1, 0, 0, .null)) rfl (fun _ => rfl) l1_1 ?_
      refine q_lr (k := 1) (i := 1) (q := (.aload_n 1, 1, 0, 0, .null)) rfl (fun _ => rfl) l1_1 ?_
      refine r_gi (v := (q19.2.1 2 3)) H (pc := 27) (i := _) rfl (by decide) (by decide) rfl ?_
      refine r_s (fr' := (31, lv1, [.int 4, .int (q19.2.1 2 3), .ref 2])) (hp' := xW B q19.2) (q := (.iconst 4, 1, 0, 0, .null)) rfl (fun _ => rfl) (Nat.le_refl _) ?_
      obtain ⟨q31, h31, h⟩ := xbind h
      refine r_call (ix := 2) (as := [.int (q19.2.1 2 3), .int 4]) (rest := []) (rv := none) (hp' := xW B q31.2) (pc := 31) rfl xr52 rfl rfl rfl (xkd H (by decide)) (Nat.le_of_ble_eq_true rfl) (Z52_2 H X h31 (by omega)) (Nat.le_refl _) ?_
      obtain rfl := Option.some.inj h
      exact r_ret (q := (.return_, 1, 0, 0, .null)) rfl rfl (fun _ => rfl)
  · rw [if_neg (by rw [c]; decide)] at h
    obtain rfl := Option.some.inj h
    exact r_ret (q := (.return_, 1, 0, 0, .null)) rfl rfl (fun _ => rfl)
set_option maxRecDepth 20000 in
theorem Z117_4_2_11 {B : zHp} (H : yH0 B) (X : yTx B) {F : Nat} {a3 : Int32} {m : xS} {x : Unit × xS} (h : D117_4_2_11 F a3 m = some x) {d : Nat} (hd : 8 ≤ d) : zCan d 117 [.ref 4, .ref 2, .ref 11, .int a3] (xW B m) (none, xW B x.2) := by
  obtain ⟨e, rfl⟩ : ∃ e, d = e + 1 := ⟨d - 1, by omega⟩
  refine zCan_body (nL := 5) (rt := none) (cd := zc117) (xg117) ⟨Nat.le_of_ble_eq_true rfl, by decide⟩ (Nat.le_refl _) ?_
  exact T117_4_2_11 H X hd F rfl rfl rfl rfl h
/-- LentTools$VillageReader.readInto -/
def D116_4_2_11_2 (F : Nat) : Nat → Int32 → xS → Option (Unit × xS)
  | 0, _, _ => none
  | f + 1, v3, m =>
    if zcmp .gt v3 40 = true then
      some ((), m)
    else
      (D117_4_2_11 F v3 m).bind fun q12 =>
        (D61_2 F q12.2).bind fun q16 =>
          if zcmp .ne q16.1 0 = true then
            D116_4_2_11_2 F f (v3 + Int32.ofInt 1) q16.2
          else
            some ((), q16.2)
set_option maxRecDepth 20000 in
theorem T116_4_2_11_2 {B : zHp} (H : yH0 B) (X : yTx B) {e : Nat} (he : 9 ≤ e + 1) (F : Nat) : ∀ (f : Nat) {v3 : Int32} {lv : List (Nat × Value)} {m : xS} {x : Unit × xS}, zld lv 0 = some (.ref 4) → zld lv 1 = some (.ref 2) → zld lv 2 = some (.ref 11) → zld lv 3 = some (.int v3) → D116_4_2_11_2 F f v3 m = some x → zR none e 4 none zc116 (2, lv, []) (xW B m) (none, xW B x.2) := by
  intro f
  induction f with
  | zero => intro v3 lv m x l0 l1 l2 l3 h; cases h
  | succ f ih =>
    intro v3 lv m x l0 l1 l2 l3 h
    unfold D116_4_2_11_2 at h
    refine q_li (k := 1) (i := 3) (q := (.iload_n 3, 1, 0, 0, .null)) rfl (fun _ => rfl) l3 ?_
    refine r_s (fr' := (5, lv, [.int 40, .int v3])) (hp' := xW B m) (q := (.bipush 40, 2, 0, 0, .null)) rfl (fun _ => rfl) (Nat.le_refl _) ?_
    refine r_ifc (len := 3) (a := 29) (b := 0) (v0 := .null) (cn := .gt) (off := 24) rfl (fun c => ?_) (fun c => ?_)
    · rw [if_pos c] at h
      obtain rfl := Option.some.inj h
      exact r_ret (q := (.return_, 1, 0, 0, .null)) rfl rfl (fun _ => rfl)
    · rw [if_neg (by rw [c]; decide)] at h
      refine q_lr (k := 1) (i := 0) (q := (.aload_n 0, 1, 0, 0, .null)) rfl (fun _ => rfl) l0 ?_
      refine q_lr (k := 1) (i := 1) (q := (.aload_n 1, 1, 0, 0, .null)) rfl (fun _ => rfl) l1 ?_
      refine q_lr (k := 1) (i := 2) (q := (.aload_n 2, 1, 0, 0, .null)) rfl (fun _ => rfl) l2 ?_
      refine q_li (k := 1) (i := 3) (q := (.iload_n 3, 1, 0, 0, .null)) rfl (fun _ => rfl) l3 ?_
      obtain ⟨q12, h12, h⟩ := xbind h
      refine r_call (ix := 4) (as := [.ref 2, .ref 11, .int v3]) (rest := []) (rv := none) (hp' := xW B q12.2) (pc := 12) rfl xr117 rfl rfl rfl (xkd H (by decide)) (Nat.le_of_ble_eq_true rfl) (Z117_4_2_11 H X h12 (by omega)) (Nat.le_refl _) ?_
      refine q_lr (k := 1) (i := 1) (q := (.aload_n 1, 1, 0, 0, .null)) rfl (fun _ => rfl) l1 ?_
      obtain ⟨q16, h16, h⟩ := xbind h
      refine r_call (ix := 2) (as := []) (rest := []) (rv := some (.int q16.1)) (hp' := xW B q16.2) (pc := 16) rfl xr61 rfl rfl rfl (xkd H (by decide)) (Nat.le_of_ble_eq_true rfl) (Z61_2 H X h16 (by omega)) (Nat.le_refl _) ?_
      refine r_if (len := 3) (a := 23) (b := 0) (v0 := .null) (cn := .ne) (off := 4) rfl (fun c => ?_) (fun c => ?_)
      · rw [if_pos c] at h
        refine q_inc (i := 3) (n := 1) (q := (.iinc 3 1, 3, 0, 0, .null)) rfl (fun _ => rfl) l3 (by decide) ?_
        have l0_1 : zld (zs1 lv 3 (.int (v3 + Int32.ofInt 1))) 0 = some (.ref 4) := x_o1 l0 rfl rfl
        have l1_1 : zld (zs1 lv 3 (.int (v3 + Int32.ofInt 1))) 1 = some (.ref 2) := x_o1 l1 rfl rfl
        have l2_1 : zld (zs1 lv 3 (.int (v3 + Int32.ofInt 1))) 2 = some (.ref 11) := x_o1 l2 rfl rfl
        have l3_1 : zld (zs1 lv 3 (.int (v3 + Int32.ofInt 1))) 3 = some (.int (v3 + Int32.ofInt 1)) := zs1_ld _ _ _
        generalize (zs1 lv 3 (.int (v3 + Int32.ofInt 1))) = lv1 at *
        refine r_s (fr' := (2, lv1, [])) (hp' := xW B q16.2) (q := (.goto (-24), 3, 2, 0, .null)) rfl (fun _ => rfl) (Nat.le_refl _) ?_
        exact ih l0_1 l1_1 l2_1 l3_1 h
      · rw [if_neg (by rw [c]; decide)] at h
        obtain rfl := Option.some.inj h
        exact r_ret (q := (.return_, 1, 0, 0, .null)) rfl rfl (fun _ => rfl)
def D116_4_2_11 (F : Nat) (m : xS) : Option (Unit × xS) :=
  D116_4_2_11_2 F F 0 m
set_option maxRecDepth 20000 in
theorem T116_4_2_11 {B : zHp} (H : yH0 B) (X : yTx B) {e : Nat} (he : 9 ≤ e + 1) (F : Nat) {lv : List (Nat × Value)} {m : xS} {x : Unit × xS} (l0 : zld lv 0 = some (.ref 4)) (l1 : zld lv 1 = some (.ref 2)) (l2 : zld lv 2 = some (.ref 11)) (h : D116_4_2_11 F m = some x) : zR none e 4 none zc116 (0, lv, []) (xW B m) (none, xW B x.2) := by
  unfold D116_4_2_11 at h
  refine r_s (fr' := (1, lv, [.int 0])) (hp' := xW B m) (q := (.iconst 0, 1, 0, 0, .null)) rfl (fun _ => rfl) (Nat.le_refl _) ?_
  refine q_si (k := 1) (i := 3) (q := (.istore_n 3, 1, 0, 0, .null)) rfl (fun _ => rfl) (by decide) ?_
  have l0_1 : zld (zs1 lv 3 (.int 0)) 0 = some (.ref 4) := x_o1 l0 rfl rfl
  have l1_1 : zld (zs1 lv 3 (.int 0)) 1 = some (.ref 2) := x_o1 l1 rfl rfl
  have l2_1 : zld (zs1 lv 3 (.int 0)) 2 = some (.ref 11) := x_o1 l2 rfl rfl
  have l3_1 : zld (zs1 lv 3 (.int 0)) 3 = some (.int 0) := zs1_ld _ _ _
  generalize (zs1 lv 3 (.int 0)) = lv1 at *
  exact T116_4_2_11_2 H X he F F l0_1 l1_1 l2_1 l3_1 h
set_option maxRecDepth 20000 in
theorem Z116_4_2_11 {B : zHp} (H : yH0 B) (X : yTx B) {F : Nat} {m : xS} {x : Unit × xS} (h : D116_4_2_11 F m = some x) {d : Nat} (hd : 9 ≤ d) : zCan d 116 [.ref 4, .ref 2, .ref 11] (xW B m) (none, xW B x.2) := by
  obtain ⟨e, rfl⟩ : ∃ e, d = e + 1 := ⟨d - 1, by omega⟩
  refine zCan_body (nL := 4) (rt := none) (cd := zc116) (xg116) ⟨Nat.le_of_ble_eq_true rfl, by decide⟩ (Nat.le_refl _) ?_
  exact T116_4_2_11 H X hd F rfl rfl rfl h
end
section
/-! The class's text and reader of rules: what their cells hold. -/
theorem xu_row {m : xS} {i j a : Nat} {v : Int32} (h : a ≠ i) : (xu m i j v).1 a = m.1 a := funext fun _ => xu_o (fun z => h z.1)
abbrev kM : yM := [(2, 2, 2), (2, 2, 3), (2, 2, 4), (6, 6, 1), (6, 6, 3), (6, 6, 4), (6, 6, 5), (6, 6, 6), (6, 6, 7), (6, 6, 8), (6, 6, 9), (7, 7, 1000), (8, 8, 1000)]
/-- what is given: a text b of n bytes -/
def kN (m0 : xS) (b : Nat → Int) (n : Nat) : Prop := (m0.1 2 1).toInt = (n : Int) ∧ n ≤ 400 ∧ ∀ j, j < n → (m0.1 1 j).toInt = b j
def kC (m0 : xS) (n p bg : Nat) (ft : Int) (out wait : List Int) (cl k dp br ex wh : Int) (m : xS) : Prop :=
  xT m ∧ xfr kM m0 m ∧ ((m.1 2 2).toInt = (p : Int) ∧ p ≤ n) ∧ (m.1 2 3).toInt = (bg : Int) ∧ (m.1 2 4).toInt = ft ∧ ((m.1 6 1).toInt = (out.length : Int) ∧ tk (m.1 7) out.length = out) ∧ ((m.1 6 3).toInt = (wait.length : Int) ∧ tk (m.1 8) wait.length = wait) ∧ (m.1 6 4).toInt = cl ∧ (m.1 6 5).toInt = k ∧ (m.1 6 6).toInt = dp ∧ (m.1 6 7).toInt = br ∧ (m.1 6 8).toInt = ex ∧ (m.1 6 9).toInt = wh
section KC
variable {m0 m : xS} {b : Nat → Int} {n p bg : Nat} {ft : Int} {out wait : List Int} {cl k dp br ex wh : Int} {F : Nat}
theorem kC_p {v : Int32} {x : Nat} (h : kC m0 n p bg ft out wait cl k dp br ex wh m) (e : v.toInt = (x : Int)) (hn : n ≤ 400) (l : x ≤ n) : kC m0 n x bg ft out wait cl k dp br ex wh (xu m 2 2 v) := by
  obtain ⟨h1, h2, h3, h4, h5, h6, h7, h8, h9, h10, h11, h12, h13⟩ := h
  refine ⟨xT_c h1 (i := 2) (j := 2) rfl (by omega) (by omega), xfr_t h2 (xfr_u rfl), ?_⟩
  exact ⟨⟨(congrArg Int32.toInt (xu_s _ _ _ _)).trans e, l⟩, (congrArg Int32.toInt (xu_o (by decide))).trans h4, (congrArg Int32.toInt (xu_o (by decide))).trans h5, ⟨(congrArg Int32.toInt (xu_o (by decide))).trans h6.1, (congrArg (fun g => tk g _) (xu_row (by decide))).trans h6.2⟩, ⟨(congrArg Int32.toInt (xu_o (by decide))).trans h7.1, (congrArg (fun g => tk g _) (xu_row (by decide))).trans h7.2⟩, (congrArg Int32.toInt (xu_o (by decide))).trans h8, (congrArg Int32.toInt (xu_o (by decide))).trans h9, (congrArg Int32.toInt (xu_o (by decide))).trans h10, (congrArg Int32.toInt (xu_o (by decide))).trans h11, (congrArg Int32.toInt (xu_o (by decide))).trans h12, (congrArg Int32.toInt (xu_o (by decide))).trans h13⟩
theorem kC_bg {v : Int32} {x : Nat} (h : kC m0 n p bg ft out wait cl k dp br ex wh m) (e : v.toInt = (x : Int)) (l : x ≤ 400) : kC m0 n p x ft out wait cl k dp br ex wh (xu m 2 3 v) := by
  obtain ⟨h1, h2, h3, h4, h5, h6, h7, h8, h9, h10, h11, h12, h13⟩ := h
  refine ⟨xT_c h1 (i := 2) (j := 3) rfl (by omega) (by omega), xfr_t h2 (xfr_u rfl), ?_⟩
  exact ⟨⟨(congrArg Int32.toInt (xu_o (by decide))).trans h3.1, h3.2⟩, (congrArg Int32.toInt (xu_s _ _ _ _)).trans e, (congrArg Int32.toInt (xu_o (by decide))).trans h5, ⟨(congrArg Int32.toInt (xu_o (by decide))).trans h6.1, (congrArg (fun g => tk g _) (xu_row (by decide))).trans h6.2⟩, ⟨(congrArg Int32.toInt (xu_o (by decide))).trans h7.1, (congrArg (fun g => tk g _) (xu_row (by decide))).trans h7.2⟩, (congrArg Int32.toInt (xu_o (by decide))).trans h8, (congrArg Int32.toInt (xu_o (by decide))).trans h9, (congrArg Int32.toInt (xu_o (by decide))).trans h10, (congrArg Int32.toInt (xu_o (by decide))).trans h11, (congrArg Int32.toInt (xu_o (by decide))).trans h12, (congrArg Int32.toInt (xu_o (by decide))).trans h13⟩
theorem kC_ft {v : Int32} {x : Int} (h : kC m0 n p bg ft out wait cl k dp br ex wh m) (e : v.toInt = (x : Int)) (l1 : 0 ≤ x) (l2 : x ≤ 4000) : kC m0 n p bg x out wait cl k dp br ex wh (xu m 2 4 v) := by
  obtain ⟨h1, h2, h3, h4, h5, h6, h7, h8, h9, h10, h11, h12, h13⟩ := h
  refine ⟨xT_c h1 (i := 2) (j := 4) rfl (by omega) (by omega), xfr_t h2 (xfr_u rfl), ?_⟩
  exact ⟨⟨(congrArg Int32.toInt (xu_o (by decide))).trans h3.1, h3.2⟩, (congrArg Int32.toInt (xu_o (by decide))).trans h4, (congrArg Int32.toInt (xu_s _ _ _ _)).trans e, ⟨(congrArg Int32.toInt (xu_o (by decide))).trans h6.1, (congrArg (fun g => tk g _) (xu_row (by decide))).trans h6.2⟩, ⟨(congrArg Int32.toInt (xu_o (by decide))).trans h7.1, (congrArg (fun g => tk g _) (xu_row (by decide))).trans h7.2⟩, (congrArg Int32.toInt (xu_o (by decide))).trans h8, (congrArg Int32.toInt (xu_o (by decide))).trans h9, (congrArg Int32.toInt (xu_o (by decide))).trans h10, (congrArg Int32.toInt (xu_o (by decide))).trans h11, (congrArg Int32.toInt (xu_o (by decide))).trans h12, (congrArg Int32.toInt (xu_o (by decide))).trans h13⟩
theorem kC_cl {v : Int32} {x : Int} (h : kC m0 n p bg ft out wait cl k dp br ex wh m) (e : v.toInt = (x : Int)) : kC m0 n p bg ft out wait x k dp br ex wh (xu m 6 4 v) := by
  obtain ⟨h1, h2, h3, h4, h5, h6, h7, h8, h9, h10, h11, h12, h13⟩ := h
  refine ⟨xT_c h1 (i := 6) (j := 4) rfl (y32 v).1 (by have := (y32 v).2; omega), xfr_t h2 (xfr_u rfl), ?_⟩
  exact ⟨⟨(congrArg Int32.toInt (xu_o (by decide))).trans h3.1, h3.2⟩, (congrArg Int32.toInt (xu_o (by decide))).trans h4, (congrArg Int32.toInt (xu_o (by decide))).trans h5, ⟨(congrArg Int32.toInt (xu_o (by decide))).trans h6.1, (congrArg (fun g => tk g _) (xu_row (by decide))).trans h6.2⟩, ⟨(congrArg Int32.toInt (xu_o (by decide))).trans h7.1, (congrArg (fun g => tk g _) (xu_row (by decide))).trans h7.2⟩, (congrArg Int32.toInt (xu_s _ _ _ _)).trans e, (congrArg Int32.toInt (xu_o (by decide))).trans h9, (congrArg Int32.toInt (xu_o (by decide))).trans h10, (congrArg Int32.toInt (xu_o (by decide))).trans h11, (congrArg Int32.toInt (xu_o (by decide))).trans h12, (congrArg Int32.toInt (xu_o (by decide))).trans h13⟩
theorem kC_k {v : Int32} {x : Int} (h : kC m0 n p bg ft out wait cl k dp br ex wh m) (e : v.toInt = (x : Int)) : kC m0 n p bg ft out wait cl x dp br ex wh (xu m 6 5 v) := by
  obtain ⟨h1, h2, h3, h4, h5, h6, h7, h8, h9, h10, h11, h12, h13⟩ := h
  refine ⟨xT_c h1 (i := 6) (j := 5) rfl (y32 v).1 (by have := (y32 v).2; omega), xfr_t h2 (xfr_u rfl), ?_⟩
  exact ⟨⟨(congrArg Int32.toInt (xu_o (by decide))).trans h3.1, h3.2⟩, (congrArg Int32.toInt (xu_o (by decide))).trans h4, (congrArg Int32.toInt (xu_o (by decide))).trans h5, ⟨(congrArg Int32.toInt (xu_o (by decide))).trans h6.1, (congrArg (fun g => tk g _) (xu_row (by decide))).trans h6.2⟩, ⟨(congrArg Int32.toInt (xu_o (by decide))).trans h7.1, (congrArg (fun g => tk g _) (xu_row (by decide))).trans h7.2⟩, (congrArg Int32.toInt (xu_o (by decide))).trans h8, (congrArg Int32.toInt (xu_s _ _ _ _)).trans e, (congrArg Int32.toInt (xu_o (by decide))).trans h10, (congrArg Int32.toInt (xu_o (by decide))).trans h11, (congrArg Int32.toInt (xu_o (by decide))).trans h12, (congrArg Int32.toInt (xu_o (by decide))).trans h13⟩
theorem kC_dp {v : Int32} {x : Int} (h : kC m0 n p bg ft out wait cl k dp br ex wh m) (e : v.toInt = (x : Int)) : kC m0 n p bg ft out wait cl k x br ex wh (xu m 6 6 v) := by
  obtain ⟨h1, h2, h3, h4, h5, h6, h7, h8, h9, h10, h11, h12, h13⟩ := h
  refine ⟨xT_c h1 (i := 6) (j := 6) rfl (y32 v).1 (by have := (y32 v).2; omega), xfr_t h2 (xfr_u rfl), ?_⟩
  exact ⟨⟨(congrArg Int32.toInt (xu_o (by decide))).trans h3.1, h3.2⟩, (congrArg Int32.toInt (xu_o (by decide))).trans h4, (congrArg Int32.toInt (xu_o (by decide))).trans h5, ⟨(congrArg Int32.toInt (xu_o (by decide))).trans h6.1, (congrArg (fun g => tk g _) (xu_row (by decide))).trans h6.2⟩, ⟨(congrArg Int32.toInt (xu_o (by decide))).trans h7.1, (congrArg (fun g => tk g _) (xu_row (by decide))).trans h7.2⟩, (congrArg Int32.toInt (xu_o (by decide))).trans h8, (congrArg Int32.toInt (xu_o (by decide))).trans h9, (congrArg Int32.toInt (xu_s _ _ _ _)).trans e, (congrArg Int32.toInt (xu_o (by decide))).trans h11, (congrArg Int32.toInt (xu_o (by decide))).trans h12, (congrArg Int32.toInt (xu_o (by decide))).trans h13⟩
theorem kC_br {v : Int32} {x : Int} (h : kC m0 n p bg ft out wait cl k dp br ex wh m) (e : v.toInt = (x : Int)) : kC m0 n p bg ft out wait cl k dp x ex wh (xu m 6 7 v) := by
  obtain ⟨h1, h2, h3, h4, h5, h6, h7, h8, h9, h10, h11, h12, h13⟩ := h
  refine ⟨xT_c h1 (i := 6) (j := 7) rfl (y32 v).1 (by have := (y32 v).2; omega), xfr_t h2 (xfr_u rfl), ?_⟩
  exact ⟨⟨(congrArg Int32.toInt (xu_o (by decide))).trans h3.1, h3.2⟩, (congrArg Int32.toInt (xu_o (by decide))).trans h4, (congrArg Int32.toInt (xu_o (by decide))).trans h5, ⟨(congrArg Int32.toInt (xu_o (by decide))).trans h6.1, (congrArg (fun g => tk g _) (xu_row (by decide))).trans h6.2⟩, ⟨(congrArg Int32.toInt (xu_o (by decide))).trans h7.1, (congrArg (fun g => tk g _) (xu_row (by decide))).trans h7.2⟩, (congrArg Int32.toInt (xu_o (by decide))).trans h8, (congrArg Int32.toInt (xu_o (by decide))).trans h9, (congrArg Int32.toInt (xu_o (by decide))).trans h10, (congrArg Int32.toInt (xu_s _ _ _ _)).trans e, (congrArg Int32.toInt (xu_o (by decide))).trans h12, (congrArg Int32.toInt (xu_o (by decide))).trans h13⟩
theorem kC_ex {v : Int32} {x : Int} (h : kC m0 n p bg ft out wait cl k dp br ex wh m) (e : v.toInt = (x : Int)) : kC m0 n p bg ft out wait cl k dp br x wh (xu m 6 8 v) := by
  obtain ⟨h1, h2, h3, h4, h5, h6, h7, h8, h9, h10, h11, h12, h13⟩ := h
  refine ⟨xT_c h1 (i := 6) (j := 8) rfl (y32 v).1 (by have := (y32 v).2; omega), xfr_t h2 (xfr_u rfl), ?_⟩
  exact ⟨⟨(congrArg Int32.toInt (xu_o (by decide))).trans h3.1, h3.2⟩, (congrArg Int32.toInt (xu_o (by decide))).trans h4, (congrArg Int32.toInt (xu_o (by decide))).trans h5, ⟨(congrArg Int32.toInt (xu_o (by decide))).trans h6.1, (congrArg (fun g => tk g _) (xu_row (by decide))).trans h6.2⟩, ⟨(congrArg Int32.toInt (xu_o (by decide))).trans h7.1, (congrArg (fun g => tk g _) (xu_row (by decide))).trans h7.2⟩, (congrArg Int32.toInt (xu_o (by decide))).trans h8, (congrArg Int32.toInt (xu_o (by decide))).trans h9, (congrArg Int32.toInt (xu_o (by decide))).trans h10, (congrArg Int32.toInt (xu_o (by decide))).trans h11, (congrArg Int32.toInt (xu_s _ _ _ _)).trans e, (congrArg Int32.toInt (xu_o (by decide))).trans h13⟩
theorem kC_wh {v : Int32} {x : Int} (h : kC m0 n p bg ft out wait cl k dp br ex wh m) (e : v.toInt = (x : Int)) : kC m0 n p bg ft out wait cl k dp br ex x (xu m 6 9 v) := by
  obtain ⟨h1, h2, h3, h4, h5, h6, h7, h8, h9, h10, h11, h12, h13⟩ := h
  refine ⟨xT_c h1 (i := 6) (j := 9) rfl (y32 v).1 (by have := (y32 v).2; omega), xfr_t h2 (xfr_u rfl), ?_⟩
  exact ⟨⟨(congrArg Int32.toInt (xu_o (by decide))).trans h3.1, h3.2⟩, (congrArg Int32.toInt (xu_o (by decide))).trans h4, (congrArg Int32.toInt (xu_o (by decide))).trans h5, ⟨(congrArg Int32.toInt (xu_o (by decide))).trans h6.1, (congrArg (fun g => tk g _) (xu_row (by decide))).trans h6.2⟩, ⟨(congrArg Int32.toInt (xu_o (by decide))).trans h7.1, (congrArg (fun g => tk g _) (xu_row (by decide))).trans h7.2⟩, (congrArg Int32.toInt (xu_o (by decide))).trans h8, (congrArg Int32.toInt (xu_o (by decide))).trans h9, (congrArg Int32.toInt (xu_o (by decide))).trans h10, (congrArg Int32.toInt (xu_o (by decide))).trans h11, (congrArg Int32.toInt (xu_o (by decide))).trans h12, (congrArg Int32.toInt (xu_s _ _ _ _)).trans e⟩
theorem kC_out {v u : Int32} (h : kC m0 n p bg ft out wait cl k dp br ex wh m) (l : out.length < 400) (e : u.toInt = out.length + 1) : kC m0 n p bg ft (v.toInt :: out) wait cl k dp br ex wh (xu (xu m 7 out.length v) 6 1 u) := by
  obtain ⟨h1, h2, h3, h4, h5, h6, h7, h8, h9, h10, h11, h12, h13⟩ := h
  have b0 : xbn 7 out.length = some (-2147483648, 2147483647) := xbn_a (k := 0) (n := 400) (ec := 0) (by decide) rfl (by decide) l
  refine ⟨xT_c (xT_c h1 b0 (y32 v).1 (by have := (y32 v).2; omega)) (i := 6) (j := 1) rfl (by omega) (by omega), xfr_t h2 (xfr_t (xfr_u (by unfold yinM; rfl)) (xfr_u rfl)), ?_⟩
  refine ⟨⟨(congrArg Int32.toInt ((xu_o (by decide)).trans (xu_o (fun z => absurd z.1 (by decide))))).trans h3.1, h3.2⟩, (congrArg Int32.toInt ((xu_o (by decide)).trans (xu_o (fun z => absurd z.1 (by decide))))).trans h4, (congrArg Int32.toInt ((xu_o (by decide)).trans (xu_o (fun z => absurd z.1 (by decide))))).trans h5, ⟨(congrArg Int32.toInt (xu_s _ _ _ _)).trans (e.trans (by rw [List.length_cons]; omega)), ?_⟩, ⟨(congrArg Int32.toInt ((xu_o (by decide)).trans (xu_o (fun z => absurd z.1 (by decide))))).trans h7.1, (congrArg (fun g => tk g _) ((xu_row (by decide)).trans (xu_row (by decide)))).trans h7.2⟩, (congrArg Int32.toInt ((xu_o (by decide)).trans (xu_o (fun z => absurd z.1 (by decide))))).trans h8, (congrArg Int32.toInt ((xu_o (by decide)).trans (xu_o (fun z => absurd z.1 (by decide))))).trans h9, (congrArg Int32.toInt ((xu_o (by decide)).trans (xu_o (fun z => absurd z.1 (by decide))))).trans h10, (congrArg Int32.toInt ((xu_o (by decide)).trans (xu_o (fun z => absurd z.1 (by decide))))).trans h11, (congrArg Int32.toInt ((xu_o (by decide)).trans (xu_o (fun z => absurd z.1 (by decide))))).trans h12, (congrArg Int32.toInt ((xu_o (by decide)).trans (xu_o (fun z => absurd z.1 (by decide))))).trans h13⟩
  rw [xu_row (by decide)]
  show ((xu m 7 out.length v).1 7 out.length).toInt :: tk _ out.length = _
  rw [xu_s, tk_c (g := m.1 7) _ (fun j hj => xu_o (fun z => by omega)), h6.2]
theorem kC_wait {v u : Int32} (h : kC m0 n p bg ft out wait cl k dp br ex wh m) (l : wait.length < 400) (e : u.toInt = wait.length + 1) : kC m0 n p bg ft out (v.toInt :: wait) cl k dp br ex wh (xu (xu m 8 wait.length v) 6 3 u) := by
  obtain ⟨h1, h2, h3, h4, h5, h6, h7, h8, h9, h10, h11, h12, h13⟩ := h
  have b0 : xbn 8 wait.length = some (-2147483648, 2147483647) := xbn_a (k := 0) (n := 400) (ec := 0) (by decide) rfl (by decide) l
  refine ⟨xT_c (xT_c h1 b0 (y32 v).1 (by have := (y32 v).2; omega)) (i := 6) (j := 3) rfl (by omega) (by omega), xfr_t h2 (xfr_t (xfr_u (by unfold yinM; rfl)) (xfr_u rfl)), ?_⟩
  refine ⟨⟨(congrArg Int32.toInt ((xu_o (by decide)).trans (xu_o (fun z => absurd z.1 (by decide))))).trans h3.1, h3.2⟩, (congrArg Int32.toInt ((xu_o (by decide)).trans (xu_o (fun z => absurd z.1 (by decide))))).trans h4, (congrArg Int32.toInt ((xu_o (by decide)).trans (xu_o (fun z => absurd z.1 (by decide))))).trans h5, ⟨(congrArg Int32.toInt ((xu_o (by decide)).trans (xu_o (fun z => absurd z.1 (by decide))))).trans h6.1, (congrArg (fun g => tk g _) ((xu_row (by decide)).trans (xu_row (by decide)))).trans h6.2⟩, ⟨(congrArg Int32.toInt (xu_s _ _ _ _)).trans (e.trans (by rw [List.length_cons]; omega)), ?_⟩, (congrArg Int32.toInt ((xu_o (by decide)).trans (xu_o (fun z => absurd z.1 (by decide))))).trans h8, (congrArg Int32.toInt ((xu_o (by decide)).trans (xu_o (fun z => absurd z.1 (by decide))))).trans h9, (congrArg Int32.toInt ((xu_o (by decide)).trans (xu_o (fun z => absurd z.1 (by decide))))).trans h10, (congrArg Int32.toInt ((xu_o (by decide)).trans (xu_o (fun z => absurd z.1 (by decide))))).trans h11, (congrArg Int32.toInt ((xu_o (by decide)).trans (xu_o (fun z => absurd z.1 (by decide))))).trans h12, (congrArg Int32.toInt ((xu_o (by decide)).trans (xu_o (fun z => absurd z.1 (by decide))))).trans h13⟩
  rw [xu_row (by decide)]
  show ((xu m 8 wait.length v).1 8 wait.length).toInt :: tk _ wait.length = _
  rw [xu_s, tk_c (g := m.1 8) _ (fun j hj => xu_o (fun z => by omega)), h7.2]
theorem kC_pop {v : Int32} {w0 : Int} {ws : List Int} (h : kC m0 n p bg ft out (w0 :: ws) cl k dp br ex wh m) (e : v.toInt = (ws.length : Int)) : kC m0 n p bg ft out ws cl k dp br ex wh (xu m 6 3 v) ∧ (m.1 8 ws.length).toInt = w0 := by
  obtain ⟨h1, h2, h3, h4, h5, h6, h7, h8, h9, h10, h11, h12, h13⟩ := h
  have b2 := h1 6 3 (0, 400) rfl
  have b3 : (m.1 6 3).toInt ≤ 400 := b2.2
  have e7 : (m.1 6 3).toInt = (ws.length : Int) + 1 := h7.1.trans (by rw [List.length_cons]; omega)
  have t7 : (m.1 8 ws.length).toInt :: tk (m.1 8) ws.length = w0 :: ws := h7.2
  obtain ⟨t8, t9⟩ := List.cons.inj t7
  refine ⟨⟨xT_c h1 (i := 6) (j := 3) rfl (by omega) (by omega), xfr_t h2 (xfr_u rfl), ?_⟩, t8⟩
  exact ⟨⟨(congrArg Int32.toInt (xu_o (by decide))).trans h3.1, h3.2⟩, (congrArg Int32.toInt (xu_o (by decide))).trans h4, (congrArg Int32.toInt (xu_o (by decide))).trans h5, ⟨(congrArg Int32.toInt (xu_o (by decide))).trans h6.1, (congrArg (fun g => tk g _) (xu_row (by decide))).trans h6.2⟩, ⟨(congrArg Int32.toInt (xu_s _ _ _ _)).trans e, (congrArg (fun g => tk g _) (xu_row (by decide))).trans t9⟩, (congrArg Int32.toInt (xu_o (by decide))).trans h8, (congrArg Int32.toInt (xu_o (by decide))).trans h9, (congrArg Int32.toInt (xu_o (by decide))).trans h10, (congrArg Int32.toInt (xu_o (by decide))).trans h11, (congrArg Int32.toInt (xu_o (by decide))).trans h12, (congrArg Int32.toInt (xu_o (by decide))).trans h13⟩
theorem kC_n (N : kN m0 b n) (h : kC m0 n p bg ft out wait cl k dp br ex wh m) : (m.1 2 1).toInt = (n : Int) ∧ ∀ j, j < n → (m.1 1 j).toInt = b j := by
  have f := h.2.1
  refine ⟨(congrArg Int32.toInt (f.2 2 1 rfl)).trans N.1, fun j hj => (congrArg Int32.toInt (f.2 1 j ?_)).trans (N.2.2 j hj)⟩
  unfold yinM
  rfl
end KC
end
section
/-! The class's text: what its methods come to. -/
def tsg (b : Nat → Int) (n p : Nat) : Int := if p < n then b p else -1
/-- the first fault stays -/
def trf (ft x : Int) : Int := if ft = 0 then x else ft
section KT
variable {m0 m : xS} {b : Nat → Int} {n p bg : Nat} {ft : Int} {out wait : List Int} {cl k dp br ex wh : Int} {F : Nat}
theorem kC_i (h : kC m0 n p bg ft out wait cl k dp br ex wh m) : (m.1 2 2).toNatClampNeg = p := by
  have := h.2.2.1.1
  show (m.1 2 2).toInt.toNat = p
  omega
theorem kft {a c : Int32} (a1 : 0 ≤ a.toInt) (a2 : a.toInt ≤ 400) (c1 : 0 ≤ c.toInt) (c2 : c.toInt ≤ 4) : ((1 + (8 * a)) + c).toInt = 1 + 8 * a.toInt + c.toInt := by
  have e1 : (8 * a).toInt = 8 * a.toInt := xm1 (by show _ ≤ (8 : Int) * _; omega) (by show (8 : Int) * _ ≤ _; omega)
  have e2 : (1 + 8 * a).toInt = 1 + 8 * a.toInt := (xa1 (by show _ ≤ (1 : Int) + _; omega) (by show (1 : Int) + _ ≤ _; omega)).trans (by rw [e1]; rfl)
  exact (xa1 (by omega) (by omega)).trans (by rw [e2])
/-- refuse -/
theorem P52 {a c : Int32} (h : kC m0 n p bg ft out wait cl k dp br ex wh m) (a1 : 0 ≤ a.toInt) (a2 : a.toInt ≤ 400) (c1 : 0 ≤ c.toInt) (c2 : c.toInt ≤ 4) : xP (D52_2 F a c m) (fun _ m' => kC m0 n p bg (trf ft (1 + 8 * a.toInt + c.toInt)) out wait cl k dp br ex wh m') := by
  have h5 := h.2.2.2.2.1
  unfold D52_2 trf
  refine xP_i (fun q => xP_r ?_) (fun q => xP_r ?_)
  · have q : (m.1 2 4).toInt ≠ 0 := zt q
    rw [if_neg (by omega)]
    exact h
  · have q : (m.1 2 4).toInt = 0 := Decidable.not_not.mp (zf q)
    rw [if_pos (by omega)]
    exact kC_ft h (kft a1 a2 c1 c2) (by omega) (by omega)
/-- pass -/
theorem P54 (N : kN m0 b n) (h : kC m0 n p bg ft out wait cl k dp br ex wh m) (l : p < n) : xP (D54_2 F m) (fun _ m' => kC m0 n (p + 1) bg ft out wait cl k dp br ex wh m') := by
  have h3 := h.2.2.1.1
  have n4 := N.2.1
  unfold D54_2
  exact xP_r (kC_p h ((xa1 (by show _ ≤ _ + (1 : Int); omega) (by show _ + (1 : Int) ≤ _; omega)).trans (by rw [h3]; rfl)) N.2.1 l)
/-- sign -/
theorem P53_38 (N : kN m0 b n) (h : kC m0 n p bg ft out wait cl k dp br ex wh m) : xP (D53_2_38 F m) (fun v m' => m' = m ∧ v.toInt = tsg b n p) := by
  obtain ⟨k1, k2⟩ := kC_n N h
  have h3 := h.2.2.1
  have n4 := N.2.1
  unfold D53_2_38 tsg
  refine xP_i (fun c => xP_r ⟨rfl, ?_⟩) (fun c => xP_g ?_ (xP_r ⟨rfl, ?_⟩))
  · have c : (m.1 2 1).toInt ≤ (m.1 2 2).toInt := zt c
    rw [if_neg (by omega)]
    rfl
  · have c : ¬ (m.1 2 1).toInt ≤ (m.1 2 2).toInt := zf c
    exact xib_t (by omega) (by omega)
  · have c : ¬ (m.1 2 1).toInt ≤ (m.1 2 2).toInt := zf c
    rw [kC_i h, if_pos (by omega)]
    exact k2 p (by omega)
theorem P53_0 (N : kN m0 b n) : ∀ (f : Nat) {p : Nat} {m : xS}, kC m0 n p bg ft out wait cl k dp br ex wh m → n - p < f → xP (D53_2_0 F f m) (fun v m' => kC m0 n (tS tbl b n p) bg ft out wait cl k dp br ex wh m' ∧ v.toInt = tsg b n (tS tbl b n p)) := by
  intro f
  induction f with
  | zero => intro p m _ l; omega
  | succ f ih =>
    intro p m h l
    obtain ⟨k1, k2⟩ := kC_n N h
    have h3 := h.2.2.1
    have n4 := N.2.1
    unfold D53_2_0
    refine xP_i (fun c => ?_) (fun c => ?_)
    · have c : (m.1 2 1).toInt ≤ (m.1 2 2).toInt := zt c
      rw [tS_f (fun z => by omega)]
      exact xP_m (P53_38 N h) (fun v m' q => by obtain ⟨rfl, q⟩ := q; exact ⟨h, q⟩)
    · have c : ¬ (m.1 2 1).toInt ≤ (m.1 2 2).toInt := zf c
      refine xP_g (xib_t (by omega) (by omega)) (xP_i (fun d => ?_) (fun d => ?_))
      · rw [kC_i h] at d
        have d : (m.1 1 p).toInt ≠ 32 := zt d
        rw [k2 p (by omega)] at d
        rw [tS_f (P := tbl) (b := b) (n := n) (p := p) (fun z => d (eq_of_beq (show (b p == 32) = true from z.2)))]
        exact xP_m (P53_38 N h) (fun v m' q => by obtain ⟨rfl, q⟩ := q; exact ⟨h, q⟩)
      · rw [kC_i h] at d
        have d : (m.1 1 p).toInt = 32 := Decidable.not_not.mp (zf d)
        rw [k2 p (by omega)] at d
        rw [tS_t (P := tbl) (show p < n by omega) (by unfold tbl; rw [d]; rfl)]
        exact ih (kC_p h ((xa1 (by show _ ≤ _ + (1 : Int); omega) (by show _ + (1 : Int) ≤ _; omega)).trans (by rw [h3.1]; rfl)) N.2.1 (by omega)) (by omega)
theorem P53 (hF : 500 ≤ F) (N : kN m0 b n) (h : kC m0 n p bg ft out wait cl k dp br ex wh m) : xP (D53_2 F m) (fun v m' => kC m0 n (tS tbl b n p) bg ft out wait cl k dp br ex wh m' ∧ v.toInt = tsg b n (tS tbl b n p)) := P53_0 N F h (by have := N.2.1; omega)
/-- isDigit, isLetter -/
theorem P56 {v : Int32} : xP (D56 F v m) (fun r m' => m' = m ∧ ((r = 1 ∧ tdg v.toInt = true) ∨ (r = 0 ∧ tdg v.toInt = false))) := by
  unfold D56 D56_16 tdg
  refine xP_i (fun c => xP_r ⟨rfl, Or.inr ⟨rfl, ?_⟩⟩) (fun c => xP_i (fun d => xP_r ⟨rfl, Or.inr ⟨rfl, ?_⟩⟩) (fun d => xP_r ⟨rfl, Or.inl ⟨rfl, ?_⟩⟩))
  · have c : v.toInt < 48 := zt c
    rw [decide_eq_false (by omega)]
    rfl
  · have d : (57 : Int) < v.toInt := zt d
    rw [decide_eq_false (p := v.toInt ≤ 57) (by omega), Bool.and_false]
  · have c : ¬ v.toInt < 48 := zf c
    have d : ¬ (57 : Int) < v.toInt := zf d
    rw [decide_eq_true (by omega), decide_eq_true (by omega)]
    rfl
theorem P57 {v : Int32} : xP (D57 F v m) (fun r m' => m' = m ∧ ((r = 1 ∧ tlt v.toInt = true) ∨ (r = 0 ∧ tlt v.toInt = false))) := by
  unfold D57 D57_16 tlt
  refine xP_i (fun c => xP_r ⟨rfl, Or.inr ⟨rfl, ?_⟩⟩) (fun c => xP_i (fun d => xP_r ⟨rfl, Or.inr ⟨rfl, ?_⟩⟩) (fun d => xP_r ⟨rfl, Or.inl ⟨rfl, ?_⟩⟩))
  · have c : v.toInt < 97 := zt c
    rw [decide_eq_false (by omega)]
    rfl
  · have d : (122 : Int) < v.toInt := zt d
    rw [decide_eq_false (p := v.toInt ≤ 122) (by omega), Bool.and_false]
  · have c : ¬ v.toInt < 97 := zf c
    have d : ¬ (122 : Int) < v.toInt := zf d
    rw [decide_eq_true (by omega), decide_eq_true (by omega)]
    rfl
/-- numeral -/
def tnf (lo hi : Int) (bg e : Nat) (v ft : Int) : Int := if e = bg then trf ft (1 + 8 * bg + 0) else if 5 < e - bg ∨ v < lo ∨ hi < v then trf ft (1 + 8 * bg + 1) else ft
theorem P58_85 {lo hi v : Int32} (N : kN m0 b n) (h : kC m0 n p bg ft out wait cl k dp br ex wh m) (l : bg ≤ p) : xP (D58_2_85 F lo hi v m) (fun r m' => r = v ∧ kC m0 n p bg (tnf lo.toInt hi.toInt bg p v.toInt ft) out wait cl k dp br ex wh m') := by
  have h3 := h.2.2.1
  have h4 := h.2.2.2.1
  have n4 := N.2.1
  have sb : ((m.1 2 2) - (m.1 2 3)).toInt = (p : Int) - (bg : Int) := (xs1 (by omega) (by omega)).trans (by omega)
  have bad : 5 < p - bg ∨ v.toInt < lo.toInt ∨ hi.toInt < v.toInt → ¬ p = bg → xP (D58_2_131 F lo hi v m) (fun r m' => r = v ∧ kC m0 n p bg (tnf lo.toInt hi.toInt bg p v.toInt ft) out wait cl k dp br ex wh m') := fun c1 c2 => by
    unfold D58_2_131 D58_2_140 tnf
    rw [if_neg c2, if_pos c1]
    refine xP_b (P52 h (by omega) (by omega) (by decide) (by decide)) (fun _ m1 q => xP_r ⟨rfl, ?_⟩)
    rw [h4] at q
    exact q
  unfold D58_2_85
  refine xP_i (fun c => ?_) (fun c => ?_)
  · have c : (m.1 2 2).toInt ≠ (m.1 2 3).toInt := zt c
    refine xP_i (fun d => ?_) (fun d => ?_)
    · have d : (5 : Int) < ((m.1 2 2) - (m.1 2 3)).toInt := zt d
      exact bad (Or.inl (by omega)) (by omega)
    · have d : ¬ (5 : Int) < ((m.1 2 2) - (m.1 2 3)).toInt := zf d
      refine xP_i (fun e => ?_) (fun e => ?_)
      · have e : v.toInt < lo.toInt := zt e
        exact bad (Or.inr (Or.inl e)) (by omega)
      · have e : ¬ v.toInt < lo.toInt := zf e
        refine xP_i (fun g => ?_) (fun g => ?_)
        · have g : v.toInt ≤ hi.toInt := zt g
          unfold D58_2_140 tnf
          rw [if_neg (by omega), if_neg (by omega)]
          exact xP_r ⟨rfl, h⟩
        · have g : ¬ v.toInt ≤ hi.toInt := zf g
          exact bad (Or.inr (Or.inr (by omega))) (by omega)
  · have c : (m.1 2 2).toInt = (m.1 2 3).toInt := Decidable.not_not.mp (zf c)
    unfold D58_2_140 tnf
    rw [if_pos (by omega)]
    refine xP_b (P52 h (by omega) (by omega) (by decide) (by decide)) (fun _ m1 q => xP_r ⟨rfl, ?_⟩)
    rw [h4] at q
    exact q
theorem P58_15 {lo hi : Int32} (N : kN m0 b n) : ∀ (f : Nat) {p : Nat} {v : Int32} {m : xS}, kC m0 n p bg ft out wait cl k dp br ex wh m → bg ≤ p → n - p < f → (∀ j, bg ≤ j → j < p → tdg (b j) = true) → v.toInt = tv b bg (min (p - bg) 5) → xP (D58_2_15 F f lo hi v m) (fun r m' => r.toInt = tv b bg (min (tS tdg b n p - bg) 5) ∧ kC m0 n (tS tdg b n p) bg (tnf lo.toInt hi.toInt bg (tS tdg b n p) r.toInt ft) out wait cl k dp br ex wh m') := by
  intro f
  induction f with
  | zero => intro p v m _ _ l; omega
  | succ f ih =>
    intro p v m h l0 l dg hv
    obtain ⟨k1, k2⟩ := kC_n N h
    have h3 := h.2.2.1
    have h4 := h.2.2.2.1
    have n4 := N.2.1
    have sb : ((m.1 2 2) - (m.1 2 3)).toInt = (p : Int) - (bg : Int) := (xs1 (by omega) (by omega)).trans (by omega)
    unfold D58_2_15
    refine xP_i (fun c => ?_) (fun c => ?_)
    · have c : (m.1 2 1).toInt ≤ (m.1 2 2).toInt := zt c
      rw [tS_f (fun z => by omega)]
      exact xP_m (P58_85 N h l0) (fun r m' q => by obtain ⟨rfl, q⟩ := q; exact ⟨hv, q⟩)
    · have c : ¬ (m.1 2 1).toInt ≤ (m.1 2 2).toInt := zf c
      refine xP_g (xib_t (by omega) (by omega)) ?_
      refine xP_b P56 (fun r mx q => ?_)
      obtain ⟨rfl, q⟩ := q
      rw [kC_i h, k2 p (by omega)] at q
      dsimp only
      refine xP_i (fun d => ?_) (fun d => ?_)
      · have q : tdg (b p) = false := by
          rcases q with q | q
          · rw [q.1] at d
            cases d
          · exact q.2
        rw [tS_f (fun z => by rw [q] at z; cases z.2)]
        exact xP_m (P58_85 N h l0) (fun r m' q => by obtain ⟨rfl, q⟩ := q; exact ⟨hv, q⟩)
      · have q : tdg (b p) = true := by
          rcases q with q | q
          · exact q.2
          · rw [q.1] at d
            cases d
        have dg2 : ∀ j, bg ≤ j → j < p + 1 → tdg (b j) = true := fun j j1 j2 => by
          by_cases e : j = p
          · rw [e]
            exact q
          · exact dg j j1 (by omega)
        have dgn : ∀ j, bg ≤ j → j < p + 1 → 48 ≤ b j ∧ b j ≤ 57 := fun j j1 j2 => by
          have := dg2 j j1 j2
          unfold tdg at this
          simp only [Bool.and_eq_true, decide_eq_true_eq] at this
          exact this
        have hC := kC_p (v := mx.1 2 2 + 1) (x := p + 1) h ((xa1 (by show _ ≤ _ + (1 : Int); omega) (by show _ + (1 : Int) ≤ _; omega)).trans (by rw [h3.1]; rfl)) N.2.1 (by omega)
        rw [tS_t (P := tdg) (show p < n by omega) q]
        unfold D58_2_72
        refine xP_i (fun e => ?_) (fun e => ?_)
        · have e : (5 : Int) ≤ ((mx.1 2 2) - (mx.1 2 3)).toInt := zt e
          exact ih hC (by omega) (by omega) dg2 (by rw [show min (p + 1 - bg) 5 = min (p - bg) 5 by omega]; exact hv)
        · have e : ¬ (5 : Int) ≤ ((mx.1 2 2) - (mx.1 2 3)).toInt := zf e
          refine xP_g (xib_t (by omega) (by omega)) ?_
          refine ih hC (by omega) (by omega) dg2 ?_
          rw [kC_i h, show min (p + 1 - bg) 5 = (p - bg) + 1 by omega]
          rw [show min (p - bg) 5 = p - bg by omega] at hv
          have tb := tv_b (b := b) (p := bg) (n := p + 1 - bg) (fun j j1 j2 j3 => dgn j j1 (by omega)) (p - bg) (by omega) (by omega)
          have tb2 : tv b bg (p - bg) < 100000 := Int.lt_of_lt_of_le tb.2 (by
            have : p - bg = 0 ∨ p - bg = 1 ∨ p - bg = 2 ∨ p - bg = 3 ∨ p - bg = 4 := by omega
            rcases this with z | z | z | z | z <;> (rw [z]; decide))
          have bp := dgn p l0 (by omega)
          have kp := k2 p (by omega)
          show _ = 10 * tv b bg (p - bg) + b (bg + (p - bg)) - 48
          rw [show bg + (p - bg) = p by omega]
          have e1 : (10 * v).toInt = 10 * v.toInt := xm1 (by show _ ≤ (10 : Int) * _; omega) (by show (10 : Int) * _ ≤ _; omega)
          have e2 : (10 * v + mx.1 1 p).toInt = 10 * v.toInt + b p := (xa1 (by omega) (by omega)).trans (by rw [e1, kp])
          have e3 : (10 * v + mx.1 1 p - 48).toInt = 10 * v.toInt + b p - 48 := (xs1 (by show _ ≤ _ - (48 : Int); omega) (by show _ - (48 : Int) ≤ _; omega)).trans (by rw [e2]; rfl)
          rw [e3, hv]
theorem P58 {lo hi : Int32} (hF : 500 ≤ F) (N : kN m0 b n) (h : kC m0 n p bg ft out wait cl k dp br ex wh m) : xP (D58_2 F lo hi m) (fun r m' => r.toInt = tv b (tS tbl b n p) (min (tS tdg b n (tS tbl b n p) - tS tbl b n p) 5) ∧ kC m0 n (tS tdg b n (tS tbl b n p)) (tS tbl b n p) (tnf lo.toInt hi.toInt (tS tbl b n p) (tS tdg b n (tS tbl b n p)) r.toInt ft) out wait cl k dp br ex wh m') := by
  have n4 := N.2.1
  unfold D58_2
  refine xP_b (P53 hF N h) (fun v m1 q => ?_)
  obtain ⟨q, -⟩ := q
  have l1 : tS tbl b n p ≤ n := q.2.2.1.2
  dsimp only
  exact P58_15 N F (kC_bg q q.2.2.1.1 (by omega)) (Nat.le_refl _) (by omega) (fun j j1 j2 => by omega) (by rw [Nat.sub_self]; rfl)
end KT
end
section
/-! Words: the class's passWord, expectWord. -/
def tnx (b : Nat → Int) (e : Nat) (c : Int) (a : Option Nat) : Option Nat := match a with
  | some x => if x < e ∧ b x = c then some (x + 1) else none
  | none => none
def tpw (b : Nat → Int) (e bg : Nat) : List Int → Option Nat → Nat → Option Nat
  | [], _, _ => none
  | c :: s, a, num => if c = 32 then (if a = some e then some num else tpw b e bg s (some bg) (num + 1)) else tpw b e bg s (tnx b e c a) num
def tfl : List (List Int) → List Int
  | [] => []
  | w :: ws => w ++ 32 :: tfl ws
section TPW
variable {b : Nat → Int} {e bg : Nat}
theorem tpw_none {s : List Int} {num : Nat} : ∀ w : List Int, (∀ c ∈ w, c ≠ 32) → tpw b e bg (w ++ 32 :: s) none num = tpw b e bg s (some bg) (num + 1) := by
  intro w
  induction w with
  | nil =>
    intro _
    show (if (32 : Int) = 32 then (if (none : Option Nat) = some e then some num else tpw b e bg s (some bg) (num + 1)) else _) = _
    rw [if_pos rfl, if_neg (fun z => by cases z)]
  | cons c w ih =>
    intro h
    show (if c = 32 then _ else tpw b e bg (w ++ 32 :: s) (tnx b e c none) num) = _
    rw [if_neg (h c List.mem_cons_self)]
    exact ih (fun c hc => h c (List.mem_cons_of_mem _ hc))
theorem tpw_w {s : List Int} {num : Nat} : ∀ (w : List Int) (a : Nat), a ≤ e → (∀ c ∈ w, c ≠ 32) → tpw b e bg (w ++ 32 :: s) (some a) num = if tw b a e = w then some num else tpw b e bg s (some bg) (num + 1) := by
  intro w
  induction w with
  | nil =>
    intro a ha _
    show (if (32 : Int) = 32 then (if (some a : Option Nat) = some e then some num else tpw b e bg s (some bg) (num + 1)) else _) = _
    rw [if_pos rfl]
    by_cases c : a = e
    · rw [if_pos (by rw [c]), c, if_pos (tw_nil e)]
    · rw [if_neg (fun z => c (Option.some.inj z)), if_neg (fun z => c (by
        have := tw_len (b := b) a e
        rw [z] at this
        have : 0 = e - a := this
        omega))]
  | cons c w ih =>
    intro a ha h
    show (if c = 32 then _ else tpw b e bg (w ++ 32 :: s) (tnx b e c (some a)) num) = _
    rw [if_neg (h c List.mem_cons_self)]
    have hw : ∀ c ∈ w, c ≠ 32 := fun c hc => h c (List.mem_cons_of_mem _ hc)
    unfold tnx
    dsimp only
    by_cases q : a < e ∧ b a = c
    · rw [if_pos q, ih (a + 1) (by omega) hw, tw_cons q.1, q.2]
      by_cases z : tw b (a + 1) e = w
      · rw [if_pos z, if_pos (by rw [z])]
      · rw [if_neg z, if_neg (fun y => z (List.cons.inj y).2)]
    · rw [if_neg q, tpw_none w hw, if_neg]
      intro z
      by_cases l : a < e
      · rw [tw_cons l] at z
        exact q ⟨l, (List.cons.inj z).1⟩
      · have := tw_len (b := b) a e
        rw [z, List.length_cons] at this
        omega
theorem tpw_ws (hb : bg ≤ e) : ∀ (ws : List (List Int)) (num : Nat), (∀ w ∈ ws, ∀ c ∈ w, c ≠ 32) → tpw b e bg (tfl ws) (some bg) num = (tix (tw b bg e) ws).map (· + num) := by
  intro ws
  induction ws with
  | nil => intro num _; rfl
  | cons w ws ih =>
    intro num h
    show tpw b e bg (w ++ 32 :: tfl ws) (some bg) num = (if w = tw b bg e then some 0 else (tix (tw b bg e) ws).map (· + 1)).map (· + num)
    rw [tpw_w w bg hb (h w List.mem_cons_self)]
    by_cases c : tw b bg e = w
    · rw [if_pos c, if_pos c.symm]
      show some num = some (0 + num)
      rw [Nat.zero_add]
    · rw [if_neg c, if_neg (fun z => c z.symm), ih (num + 1) (fun v hv => h v (List.mem_cons_of_mem _ hv)), Option.map_map]
      congr 1
      funext x
      show x + (num + 1) = x + 1 + num
      omega
end TPW
def zsX (j i : Nat) : Int32 := (((zsv j i) &&& 255 : Int32).toUInt32 % 65536).toInt32
def tat (a : Option Nat) (v : Int) : Prop := match a with
  | some x => v = (x : Int)
  | none => v = -1
section KW
variable {m0 m : xS} {b : Nat → Int} {n p bg : Nat} {ft : Int} {out wait : List Int} {cl k dp br ex wh : Int} {F : Nat}
theorem P293 {v0 v1 : Int32} (h1 : 0 ≤ v0.toInt) (h2 : v0.toInt < v1.toInt) : xP (D293 F v0 v1 m) (fun _ m' => m' = m) := by
  unfold D293
  refine xP_i (fun c => ?_) (fun _ => xP_i (fun _ => xP_r rfl) (fun c => ?_))
  · have c : v0.toInt < 0 := zt c
    omega
  · have c : ¬ v0.toInt < v1.toInt := zf c
    omega
theorem P285 {v0 v1 : Int32} (h1 : 0 ≤ v0.toInt) (h2 : v0.toInt < v1.toInt) : xP (D285 F v0 v1 m) (fun _ m' => m' = m) := by
  unfold D285
  exact xP_b (P293 h1 h2) (fun _ m' q => xP_r q)
theorem xinc {v : Int32} {i : Nat} (h : v.toInt = (i : Int)) (l : i < 2000) : (v + Int32.ofInt 1).toInt = ((i + 1 : Nat) : Int) := by
  have e : (Int32.ofInt 1).toInt = 1 := rfl
  exact (xa1 (by rw [e]; omega) (by rw [e]; omega)).trans (by rw [e]; omega)
def tw1001 : List (List Int) := tCls
theorem tl1001 : (tfl tw1001).length = 31 := by decide
theorem tb1001 : ∀ w ∈ tw1001, ∀ c ∈ w, c ≠ (32 : Int) := by decide
theorem zsx1001 : (List.range 31).all (fun i => (vp_nar .char (zsX 20 i) == zsX 20 i) && (zsX 20 i).toInt == (tfl tw1001).getD i 0) = true := by decide +kernel
theorem P281_1001 : xP (D281_1001 F m) (fun v m' => m' = m ∧ v.toInt = 31) := by
  unfold D281_1001
  refine xP_b (R := fun v m' => m' = m ∧ v = 0) ?_ (fun v m' q => ?_)
  · unfold D283_1001
    exact xP_i (fun c => absurd c (by decide)) (fun _ => xP_r ⟨rfl, rfl⟩)
  · obtain ⟨rfl, rfl⟩ := q
    exact xP_r ⟨rfl, by show (Int32.ofNat 31 >>> ((0 : Int32) &&& 31)).toInt = 31; decide⟩
theorem P282_1001 {v : Int32} {i : Nat} (hv : v.toInt = (i : Int)) (l : i < 31) : xP (D282_1001 F v m) (fun r m' => m' = m ∧ r.toInt = (tfl tw1001).getD i 0) := by
  have z := List.all_eq_true.mp zsx1001 i (List.mem_range.mpr l)
  simp only [Bool.and_eq_true] at z
  have z2 := eq_of_beq z.2
  have ei : v.toNatClampNeg = i := by show v.toInt.toNat = i; omega
  unfold D282_1001
  refine xP_b (R := fun v m' => m' = m ∧ v = 1) ?_ (fun v1 m' q => ?_)
  · unfold D284_1001
    exact xP_i (fun c => absurd c (by decide)) (fun _ => xP_i (fun c => absurd c (by decide)) (fun _ => xP_r ⟨rfl, rfl⟩))
  · obtain ⟨rfl, rfl⟩ := q
    refine xP_i (fun c => absurd (show zcmp .eq (1 : Int32) 0 = true from c) (by decide)) (fun _ => ?_)
    refine xP_b (R := fun v2 m2 => m2 = m' ∧ v2 = zsX 20 i) ?_ (fun v2 m2 q => ?_)
    · unfold D286_1020
      refine xP_b (P285 (by omega) (by show _ < (31 : Int); omega)) (fun _ m3 q => ?_)
      subst q
      refine xP_g (xib_t (by omega) (by omega)) ?_
      dsimp only
      rw [ei]
      exact xP_g z.1 (xP_r ⟨rfl, rfl⟩)
    · obtain ⟨rfl, rfl⟩ := q
      exact xP_g z.1 (xP_r ⟨rfl, z2⟩)
theorem P59_55_1001 {e : Nat} (N : kN m0 b n) (he : e ≤ n) : ∀ (f : Nat) {i num : Nat} {a : Option Nat} {v2 v3 v4 v5 : Int32} {m : xS}, kC m0 n p bg ft out wait cl k dp br ex wh m → i ≤ 31 → 31 - i < f → v5.toInt = (i : Int) → v2.toInt = (e : Int) → v3.toInt = (num : Int) → num ≤ i → tat a v4.toInt → bg ≤ e → xP (D59_2_1001_55 F f v2 v3 v4 v5 m) (fun r m' => (∃ u, tpw b e bg ((tfl tw1001).drop i) a num = some u ∧ r.toInt = (u : Int) ∧ kC m0 n e bg ft out wait cl k dp br ex wh m') ∨ (tpw b e bg ((tfl tw1001).drop i) a num = none ∧ r.toInt = -1 ∧ kC m0 n p bg ft out wait cl k dp br ex wh m')) := by
  intro f
  induction f with
  | zero => intro i num a v2 v3 v4 v5 m _ _ l; omega
  | succ f ih =>
    intro i num a v2 v3 v4 v5 m h l1 l2 h5 h2 h3 l3 ha hb
    obtain ⟨k1, k2⟩ := kC_n N h
    have n4 := N.2.1
    have h4 := h.2.2.2.1
    unfold D59_2_1001_55
    refine xP_b P281_1001 (fun w0 mx q => ?_)
    obtain ⟨rfl, q⟩ := q
    dsimp only
    refine xP_i (fun c => ?_) (fun c => ?_)
    · have c : w0.toInt ≤ v5.toInt := zt c
      refine xP_r (Or.inr ⟨?_, by decide, h⟩)
      rw [List.drop_eq_nil_of_le (by rw [tl1001]; omega)]
      rfl
    · have c : ¬ w0.toInt ≤ v5.toInt := zf c
      have li : i < 31 := by omega
      have hd : (tfl tw1001).drop i = (tfl tw1001).getD i 0 :: (tfl tw1001).drop (i + 1) := by
        have l4 : i < (tfl tw1001).length := by rw [tl1001]; exact li
        rw [List.drop_eq_getElem_cons l4, List.getD_eq_getElem?_getD, List.getElem?_eq_getElem l4]
        rfl
      have i5 : (v5 + Int32.ofInt 1).toInt = ((i + 1 : Nat) : Int) := xinc h5 (by omega)
      refine xP_b (P282_1001 h5 li) (fun r1 mx q1 => ?_)
      obtain ⟨rfl, q1⟩ := q1
      dsimp only
      rw [hd]
      generalize hc0 : (tfl tw1001).getD i 0 = c0 at q1 ⊢
      have nx : ∀ {a' : Option Nat} {num' : Nat} {v3' v4' : Int32}, v3'.toInt = (num' : Int) → num' ≤ i + 1 → tat a' v4'.toInt → tpw b e bg (c0 :: (tfl tw1001).drop (i + 1)) a num = tpw b e bg ((tfl tw1001).drop (i + 1)) a' num' → xP (D59_2_1001_55 F f v2 v3' v4' (v5 + Int32.ofInt 1) mx) (fun r m' => (∃ u, tpw b e bg (c0 :: (tfl tw1001).drop (i + 1)) a num = some u ∧ r.toInt = (u : Int) ∧ kC m0 n e bg ft out wait cl k dp br ex wh m') ∨ (tpw b e bg (c0 :: (tfl tw1001).drop (i + 1)) a num = none ∧ r.toInt = -1 ∧ kC m0 n p bg ft out wait cl k dp br ex wh m')) := fun e3 l6 e4 eq => by
        rw [eq]
        exact ih h (by omega) (by omega) i5 h2 e3 l6 e4 hb
      refine xP_i (fun d => ?_) (fun d => ?_)
      · have d : r1.toInt = 32 := zt d
        have d0 : c0 = 32 := by omega
        refine xP_i (fun g => ?_) (fun g => ?_)
        · have g : v4.toInt ≠ v2.toInt := zt g
          unfold D59_2_1001_138
          refine nx (a' := some bg) (num' := num + 1) (xinc h3 (by omega)) (by omega) h4 ?_
          show (if c0 = 32 then (if a = some e then some num else _) else _) = _
          rw [if_pos d0, if_neg (fun z => by rw [z] at ha; have ha : v4.toInt = (e : Int) := ha; omega)]
        · have g : v4.toInt = v2.toInt := Decidable.not_not.mp (zf g)
          refine xP_r (Or.inl ⟨num, ?_, h3, kC_p h h2 N.2.1 he⟩)
          show (if c0 = 32 then (if a = some e then some num else _) else _) = _
          rw [if_pos d0, if_pos]
          cases a with
          | none =>
            have ha : v4.toInt = -1 := ha
            omega
          | some x =>
            have ha : v4.toInt = (x : Int) := ha
            rw [show x = e by omega]
      · have d : r1.toInt ≠ 32 := zf d
        have d0 : ¬ c0 = 32 := by omega
        have st : ∀ {a' : Option Nat}, tnx b e c0 a = a' → tpw b e bg (c0 :: (tfl tw1001).drop (i + 1)) a num = tpw b e bg ((tfl tw1001).drop (i + 1)) a' num := fun z => by
          show (if c0 = 32 then _ else tpw b e bg _ (tnx b e c0 a) num) = _
          rw [if_neg d0, z]
        have no : tnx b e c0 a = none → xP (D59_2_1001_110 F (D59_2_1001_55 F f) v2 v3 v4 v5 mx) (fun r m' => (∃ u, tpw b e bg (c0 :: (tfl tw1001).drop (i + 1)) a num = some u ∧ r.toInt = (u : Int) ∧ kC m0 n e bg ft out wait cl k dp br ex wh m') ∨ (tpw b e bg (c0 :: (tfl tw1001).drop (i + 1)) a num = none ∧ r.toInt = -1 ∧ kC m0 n p bg ft out wait cl k dp br ex wh m')) := fun z => by
          unfold D59_2_1001_110 D59_2_1001_111 D59_2_1001_138
          exact nx (a' := none) h3 (by omega) (by show (-1 : Int32).toInt = -1; decide) (st z)
        refine xP_i (fun g => ?_) (fun g => ?_)
        · have g : v4.toInt = -1 := zt g
          refine no ?_
          cases a with
          | none => rfl
          | some x =>
            have ha : v4.toInt = (x : Int) := ha
            omega
        · have g : v4.toInt ≠ -1 := zf g
          cases a with
          | none =>
            have ha : v4.toInt = -1 := ha
            omega
          | some x =>
            have ha : v4.toInt = (x : Int) := ha
            refine xP_i (fun g2 => ?_) (fun g2 => ?_)
            · have g2 : v2.toInt ≤ v4.toInt := zt g2
              exact no (if_neg (fun z => by omega))
            · have g2 : ¬ v2.toInt ≤ v4.toInt := zf g2
              refine xP_g (xib_t (by omega) (by omega)) ?_
              refine xP_b (P282_1001 h5 li) (fun r2 mx q2 => ?_)
              obtain ⟨rfl, q2⟩ := q2
              dsimp only
              have ex4 : v4.toNatClampNeg = x := by show v4.toInt.toNat = x; omega
              rw [ex4]
              have kx := k2 x (by omega)
              have q3 : r2.toInt = c0 := q2.trans hc0
              refine xP_i (fun g3 => ?_) (fun g3 => ?_)
              · have g3 : (mx.1 1 x).toInt ≠ r2.toInt := zt g3
                exact no (if_neg (fun z => by omega))
              · have g3 : (mx.1 1 x).toInt = r2.toInt := Decidable.not_not.mp (zf g3)
                unfold D59_2_1001_111 D59_2_1001_138
                exact nx (a' := some (x + 1)) h3 (by omega) ((xa1 (by show _ ≤ _ + (1 : Int); omega) (by show _ + (1 : Int) ≤ _; omega)).trans (by rw [ha]; rfl)) (st (if_pos ⟨by omega, by omega⟩))
theorem P59_18_1001 (hF : 500 ≤ F) (N : kN m0 b n) (hb : bg ≤ n) : ∀ (f : Nat) {j : Nat} {v2 : Int32} {m : xS}, kC m0 n p bg ft out wait cl k dp br ex wh m → v2.toInt = (j : Int) → bg ≤ j → j ≤ n → n - j < f → xP (D59_2_1001_18 F f v2 m) (fun r m' => (∃ u, tix (tw b bg (tS tlt b n j)) tw1001 = some u ∧ r.toInt = (u : Int) ∧ kC m0 n (tS tlt b n j) bg ft out wait cl k dp br ex wh m') ∨ (tix (tw b bg (tS tlt b n j)) tw1001 = none ∧ r.toInt = -1 ∧ kC m0 n p bg ft out wait cl k dp br ex wh m')) := by
  have fin : ∀ {j : Nat} {v2 : Int32} {m : xS}, kC m0 n p bg ft out wait cl k dp br ex wh m → v2.toInt = (j : Int) → bg ≤ j → j ≤ n → xP (D59_2_1001_44 F v2 m) (fun r m' => (∃ u, tix (tw b bg j) tw1001 = some u ∧ r.toInt = (u : Int) ∧ kC m0 n j bg ft out wait cl k dp br ex wh m') ∨ (tix (tw b bg j) tw1001 = none ∧ r.toInt = -1 ∧ kC m0 n p bg ft out wait cl k dp br ex wh m')) := by
    intro j v2 m h h2 l1 l2
    unfold D59_2_1001_44
    have z := P59_55_1001 (F := F) (b := b) (e := j) N l2 F (i := 0) (num := 0) (a := some bg) (v2 := v2) (v3 := 0) (v4 := m.1 2 3) (v5 := 0) h (by omega) (by omega) rfl h2 rfl (Nat.le_refl _) h.2.2.2.1 l1
    rw [List.drop_zero, tpw_ws l1 tw1001 0 tb1001, show (fun x : Nat => x + 0) = id from funext (fun _ => rfl), Option.map_id] at z
    exact z
  intro f
  induction f with
  | zero => intro j v2 m _ _ _ _ l; omega
  | succ f ih =>
    intro j v2 m h h2 l1 l2 l3
    obtain ⟨k1, k2⟩ := kC_n N h
    have n4 := N.2.1
    unfold D59_2_1001_18
    refine xP_i (fun c => ?_) (fun c => ?_)
    · have c : (m.1 2 1).toInt ≤ v2.toInt := zt c
      rw [tS_f (fun z => by omega)]
      exact fin h h2 l1 l2
    · have c : ¬ (m.1 2 1).toInt ≤ v2.toInt := zf c
      refine xP_g (xib_t (by omega) (by omega)) ?_
      refine xP_b P57 (fun r mx q => ?_)
      obtain ⟨rfl, q⟩ := q
      have ej : v2.toNatClampNeg = j := by show v2.toInt.toNat = j; omega
      rw [ej, k2 j (by omega)] at q
      dsimp only
      refine xP_i (fun d => ?_) (fun d => ?_)
      · have q : tlt (b j) = false := by
          rcases q with q | q
          · rw [q.1] at d
            cases d
          · exact q.2
        rw [tS_f (fun z => by rw [q] at z; cases z.2)]
        exact fin h h2 l1 l2
      · have q : tlt (b j) = true := by
          rcases q with q | q
          · exact q.2
          · rw [q.1] at d
            cases d
        rw [tS_t (P := tlt) (show j < n by omega) q]
        exact ih h (xinc h2 (by omega)) (by omega) (by omega) (by omega)
theorem P59_1001 (hF : 500 ≤ F) (N : kN m0 b n) (h : kC m0 n p bg ft out wait cl k dp br ex wh m) : xP (D59_2_1001 F m) (fun r m' => (∃ u, tix (tw b (tS tbl b n p) (tS tlt b n (tS tbl b n p))) tw1001 = some u ∧ r.toInt = (u : Int) ∧ kC m0 n (tS tlt b n (tS tbl b n p)) (tS tbl b n p) ft out wait cl k dp br ex wh m') ∨ (tix (tw b (tS tbl b n p) (tS tlt b n (tS tbl b n p))) tw1001 = none ∧ r.toInt = -1 ∧ kC m0 n (tS tbl b n p) (tS tbl b n p) ft out wait cl k dp br ex wh m')) := by
  have n4 := N.2.1
  unfold D59_2_1001
  refine xP_b (P53 hF N h) (fun v m1 q => ?_)
  obtain ⟨q, -⟩ := q
  have l1 : tS tbl b n p ≤ n := q.2.2.1.2
  dsimp only
  exact P59_18_1001 hF N l1 F (kC_bg q q.2.2.1.1 (by omega)) q.2.2.1.1 (Nat.le_refl _) l1 (by omega)
theorem P60_1001 (hF : 500 ≤ F) (N : kN m0 b n) (h : kC m0 n p bg ft out wait cl k dp br ex wh m) : xP (D60_2_1001 F m) (fun r m' => (∃ u, tix (tw b (tS tbl b n p) (tS tlt b n (tS tbl b n p))) tw1001 = some u ∧ r.toInt = (u : Int) ∧ kC m0 n (tS tlt b n (tS tbl b n p)) (tS tbl b n p) ft out wait cl k dp br ex wh m') ∨ (tix (tw b (tS tbl b n p) (tS tlt b n (tS tbl b n p))) tw1001 = none ∧ r.toInt = -1 ∧ kC m0 n (tS tbl b n p) (tS tbl b n p) (trf ft (1 + 8 * (tS tbl b n p : Int))) out wait cl k dp br ex wh m')) := by
  have n4 := N.2.1
  have l2 := h.2.2.1.2
  unfold D60_2_1001 D60_2_1001_20
  refine xP_b (P59_1001 hF N h) (fun v m1 q => ?_)
  dsimp only
  refine xP_i (fun c => ?_) (fun c => ?_)
  · have c : v.toInt ≠ -1 := zt c
    rcases q with q | q
    · exact xP_r (Or.inl q)
    · exact absurd q.2.1 c
  · have c : v.toInt = -1 := Decidable.not_not.mp (zf c)
    rcases q with ⟨u, -, q, -⟩ | ⟨q1, q2, q3⟩
    · omega
    · have b3 := q3.2.2.2.1
      have l1 : tS tbl b n p ≤ n := q3.2.2.1.2
      refine xP_b (P52 q3 (by omega) (by omega) (by decide) (by decide)) (fun _ m2 q4 => xP_r (Or.inr ⟨q1, q2, ?_⟩))
      rw [b3, show (1 + 8 * ((tS tbl b n p : Nat) : Int) + (0 : Int32).toInt) = 1 + 8 * ((tS tbl b n p : Nat) : Int) from Int.add_zero _] at q4
      exact q4
def tw1002 : List (List Int) := [tLend]
theorem tl1002 : (tfl tw1002).length = 5 := by decide
theorem tb1002 : ∀ w ∈ tw1002, ∀ c ∈ w, c ≠ (32 : Int) := by decide
theorem zsx1002 : (List.range 5).all (fun i => (vp_nar .char (zsX 21 i) == zsX 21 i) && (zsX 21 i).toInt == (tfl tw1002).getD i 0) = true := by decide +kernel
theorem P281_1002 : xP (D281_1002 F m) (fun v m' => m' = m ∧ v.toInt = 5) := by
  unfold D281_1002
  refine xP_b (R := fun v m' => m' = m ∧ v = 0) ?_ (fun v m' q => ?_)
  · unfold D283_1002
    exact xP_i (fun c => absurd c (by decide)) (fun _ => xP_r ⟨rfl, rfl⟩)
  · obtain ⟨rfl, rfl⟩ := q
    exact xP_r ⟨rfl, by show (Int32.ofNat 5 >>> ((0 : Int32) &&& 31)).toInt = 5; decide⟩
theorem P282_1002 {v : Int32} {i : Nat} (hv : v.toInt = (i : Int)) (l : i < 5) : xP (D282_1002 F v m) (fun r m' => m' = m ∧ r.toInt = (tfl tw1002).getD i 0) := by
  have z := List.all_eq_true.mp zsx1002 i (List.mem_range.mpr l)
  simp only [Bool.and_eq_true] at z
  have z2 := eq_of_beq z.2
  have ei : v.toNatClampNeg = i := by show v.toInt.toNat = i; omega
  unfold D282_1002
  refine xP_b (R := fun v m' => m' = m ∧ v = 1) ?_ (fun v1 m' q => ?_)
  · unfold D284_1002
    exact xP_i (fun c => absurd c (by decide)) (fun _ => xP_i (fun c => absurd c (by decide)) (fun _ => xP_r ⟨rfl, rfl⟩))
  · obtain ⟨rfl, rfl⟩ := q
    refine xP_i (fun c => absurd (show zcmp .eq (1 : Int32) 0 = true from c) (by decide)) (fun _ => ?_)
    refine xP_b (R := fun v2 m2 => m2 = m' ∧ v2 = zsX 21 i) ?_ (fun v2 m2 q => ?_)
    · unfold D286_1021
      refine xP_b (P285 (by omega) (by show _ < (5 : Int); omega)) (fun _ m3 q => ?_)
      subst q
      refine xP_g (xib_t (by omega) (by omega)) ?_
      dsimp only
      rw [ei]
      exact xP_g z.1 (xP_r ⟨rfl, rfl⟩)
    · obtain ⟨rfl, rfl⟩ := q
      exact xP_g z.1 (xP_r ⟨rfl, z2⟩)
theorem P59_55_1002 {e : Nat} (N : kN m0 b n) (he : e ≤ n) : ∀ (f : Nat) {i num : Nat} {a : Option Nat} {v2 v3 v4 v5 : Int32} {m : xS}, kC m0 n p bg ft out wait cl k dp br ex wh m → i ≤ 5 → 5 - i < f → v5.toInt = (i : Int) → v2.toInt = (e : Int) → v3.toInt = (num : Int) → num ≤ i → tat a v4.toInt → bg ≤ e → xP (D59_2_1002_55 F f v2 v3 v4 v5 m) (fun r m' => (∃ u, tpw b e bg ((tfl tw1002).drop i) a num = some u ∧ r.toInt = (u : Int) ∧ kC m0 n e bg ft out wait cl k dp br ex wh m') ∨ (tpw b e bg ((tfl tw1002).drop i) a num = none ∧ r.toInt = -1 ∧ kC m0 n p bg ft out wait cl k dp br ex wh m')) := by
  intro f
  induction f with
  | zero => intro i num a v2 v3 v4 v5 m _ _ l; omega
  | succ f ih =>
    intro i num a v2 v3 v4 v5 m h l1 l2 h5 h2 h3 l3 ha hb
    obtain ⟨k1, k2⟩ := kC_n N h
    have n4 := N.2.1
    have h4 := h.2.2.2.1
    unfold D59_2_1002_55
    refine xP_b P281_1002 (fun w0 mx q => ?_)
    obtain ⟨rfl, q⟩ := q
    dsimp only
    refine xP_i (fun c => ?_) (fun c => ?_)
    · have c : w0.toInt ≤ v5.toInt := zt c
      refine xP_r (Or.inr ⟨?_, by decide, h⟩)
      rw [List.drop_eq_nil_of_le (by rw [tl1002]; omega)]
      rfl
    · have c : ¬ w0.toInt ≤ v5.toInt := zf c
      have li : i < 5 := by omega
      have hd : (tfl tw1002).drop i = (tfl tw1002).getD i 0 :: (tfl tw1002).drop (i + 1) := by
        have l4 : i < (tfl tw1002).length := by rw [tl1002]; exact li
        rw [List.drop_eq_getElem_cons l4, List.getD_eq_getElem?_getD, List.getElem?_eq_getElem l4]
        rfl
      have i5 : (v5 + Int32.ofInt 1).toInt = ((i + 1 : Nat) : Int) := xinc h5 (by omega)
      refine xP_b (P282_1002 h5 li) (fun r1 mx q1 => ?_)
      obtain ⟨rfl, q1⟩ := q1
      dsimp only
      rw [hd]
      generalize hc0 : (tfl tw1002).getD i 0 = c0 at q1 ⊢
      have nx : ∀ {a' : Option Nat} {num' : Nat} {v3' v4' : Int32}, v3'.toInt = (num' : Int) → num' ≤ i + 1 → tat a' v4'.toInt → tpw b e bg (c0 :: (tfl tw1002).drop (i + 1)) a num = tpw b e bg ((tfl tw1002).drop (i + 1)) a' num' → xP (D59_2_1002_55 F f v2 v3' v4' (v5 + Int32.ofInt 1) mx) (fun r m' => (∃ u, tpw b e bg (c0 :: (tfl tw1002).drop (i + 1)) a num = some u ∧ r.toInt = (u : Int) ∧ kC m0 n e bg ft out wait cl k dp br ex wh m') ∨ (tpw b e bg (c0 :: (tfl tw1002).drop (i + 1)) a num = none ∧ r.toInt = -1 ∧ kC m0 n p bg ft out wait cl k dp br ex wh m')) := fun e3 l6 e4 eq => by
        rw [eq]
        exact ih h (by omega) (by omega) i5 h2 e3 l6 e4 hb
      refine xP_i (fun d => ?_) (fun d => ?_)
      · have d : r1.toInt = 32 := zt d
        have d0 : c0 = 32 := by omega
        refine xP_i (fun g => ?_) (fun g => ?_)
        · have g : v4.toInt ≠ v2.toInt := zt g
          unfold D59_2_1002_138
          refine nx (a' := some bg) (num' := num + 1) (xinc h3 (by omega)) (by omega) h4 ?_
          show (if c0 = 32 then (if a = some e then some num else _) else _) = _
          rw [if_pos d0, if_neg (fun z => by rw [z] at ha; have ha : v4.toInt = (e : Int) := ha; omega)]
        · have g : v4.toInt = v2.toInt := Decidable.not_not.mp (zf g)
          refine xP_r (Or.inl ⟨num, ?_, h3, kC_p h h2 N.2.1 he⟩)
          show (if c0 = 32 then (if a = some e then some num else _) else _) = _
          rw [if_pos d0, if_pos]
          cases a with
          | none =>
            have ha : v4.toInt = -1 := ha
            omega
          | some x =>
            have ha : v4.toInt = (x : Int) := ha
            rw [show x = e by omega]
      · have d : r1.toInt ≠ 32 := zf d
        have d0 : ¬ c0 = 32 := by omega
        have st : ∀ {a' : Option Nat}, tnx b e c0 a = a' → tpw b e bg (c0 :: (tfl tw1002).drop (i + 1)) a num = tpw b e bg ((tfl tw1002).drop (i + 1)) a' num := fun z => by
          show (if c0 = 32 then _ else tpw b e bg _ (tnx b e c0 a) num) = _
          rw [if_neg d0, z]
        have no : tnx b e c0 a = none → xP (D59_2_1002_110 F (D59_2_1002_55 F f) v2 v3 v4 v5 mx) (fun r m' => (∃ u, tpw b e bg (c0 :: (tfl tw1002).drop (i + 1)) a num = some u ∧ r.toInt = (u : Int) ∧ kC m0 n e bg ft out wait cl k dp br ex wh m') ∨ (tpw b e bg (c0 :: (tfl tw1002).drop (i + 1)) a num = none ∧ r.toInt = -1 ∧ kC m0 n p bg ft out wait cl k dp br ex wh m')) := fun z => by
          unfold D59_2_1002_110 D59_2_1002_111 D59_2_1002_138
          exact nx (a' := none) h3 (by omega) (by show (-1 : Int32).toInt = -1; decide) (st z)
        refine xP_i (fun g => ?_) (fun g => ?_)
        · have g : v4.toInt = -1 := zt g
          refine no ?_
          cases a with
          | none => rfl
          | some x =>
            have ha : v4.toInt = (x : Int) := ha
            omega
        · have g : v4.toInt ≠ -1 := zf g
          cases a with
          | none =>
            have ha : v4.toInt = -1 := ha
            omega
          | some x =>
            have ha : v4.toInt = (x : Int) := ha
            refine xP_i (fun g2 => ?_) (fun g2 => ?_)
            · have g2 : v2.toInt ≤ v4.toInt := zt g2
              exact no (if_neg (fun z => by omega))
            · have g2 : ¬ v2.toInt ≤ v4.toInt := zf g2
              refine xP_g (xib_t (by omega) (by omega)) ?_
              refine xP_b (P282_1002 h5 li) (fun r2 mx q2 => ?_)
              obtain ⟨rfl, q2⟩ := q2
              dsimp only
              have ex4 : v4.toNatClampNeg = x := by show v4.toInt.toNat = x; omega
              rw [ex4]
              have kx := k2 x (by omega)
              have q3 : r2.toInt = c0 := q2.trans hc0
              refine xP_i (fun g3 => ?_) (fun g3 => ?_)
              · have g3 : (mx.1 1 x).toInt ≠ r2.toInt := zt g3
                exact no (if_neg (fun z => by omega))
              · have g3 : (mx.1 1 x).toInt = r2.toInt := Decidable.not_not.mp (zf g3)
                unfold D59_2_1002_111 D59_2_1002_138
                exact nx (a' := some (x + 1)) h3 (by omega) ((xa1 (by show _ ≤ _ + (1 : Int); omega) (by show _ + (1 : Int) ≤ _; omega)).trans (by rw [ha]; rfl)) (st (if_pos ⟨by omega, by omega⟩))
theorem P59_18_1002 (hF : 500 ≤ F) (N : kN m0 b n) (hb : bg ≤ n) : ∀ (f : Nat) {j : Nat} {v2 : Int32} {m : xS}, kC m0 n p bg ft out wait cl k dp br ex wh m → v2.toInt = (j : Int) → bg ≤ j → j ≤ n → n - j < f → xP (D59_2_1002_18 F f v2 m) (fun r m' => (∃ u, tix (tw b bg (tS tlt b n j)) tw1002 = some u ∧ r.toInt = (u : Int) ∧ kC m0 n (tS tlt b n j) bg ft out wait cl k dp br ex wh m') ∨ (tix (tw b bg (tS tlt b n j)) tw1002 = none ∧ r.toInt = -1 ∧ kC m0 n p bg ft out wait cl k dp br ex wh m')) := by
  have fin : ∀ {j : Nat} {v2 : Int32} {m : xS}, kC m0 n p bg ft out wait cl k dp br ex wh m → v2.toInt = (j : Int) → bg ≤ j → j ≤ n → xP (D59_2_1002_44 F v2 m) (fun r m' => (∃ u, tix (tw b bg j) tw1002 = some u ∧ r.toInt = (u : Int) ∧ kC m0 n j bg ft out wait cl k dp br ex wh m') ∨ (tix (tw b bg j) tw1002 = none ∧ r.toInt = -1 ∧ kC m0 n p bg ft out wait cl k dp br ex wh m')) := by
    intro j v2 m h h2 l1 l2
    unfold D59_2_1002_44
    have z := P59_55_1002 (F := F) (b := b) (e := j) N l2 F (i := 0) (num := 0) (a := some bg) (v2 := v2) (v3 := 0) (v4 := m.1 2 3) (v5 := 0) h (by omega) (by omega) rfl h2 rfl (Nat.le_refl _) h.2.2.2.1 l1
    rw [List.drop_zero, tpw_ws l1 tw1002 0 tb1002, show (fun x : Nat => x + 0) = id from funext (fun _ => rfl), Option.map_id] at z
    exact z
  intro f
  induction f with
  | zero => intro j v2 m _ _ _ _ l; omega
  | succ f ih =>
    intro j v2 m h h2 l1 l2 l3
    obtain ⟨k1, k2⟩ := kC_n N h
    have n4 := N.2.1
    unfold D59_2_1002_18
    refine xP_i (fun c => ?_) (fun c => ?_)
    · have c : (m.1 2 1).toInt ≤ v2.toInt := zt c
      rw [tS_f (fun z => by omega)]
      exact fin h h2 l1 l2
    · have c : ¬ (m.1 2 1).toInt ≤ v2.toInt := zf c
      refine xP_g (xib_t (by omega) (by omega)) ?_
      refine xP_b P57 (fun r mx q => ?_)
      obtain ⟨rfl, q⟩ := q
      have ej : v2.toNatClampNeg = j := by show v2.toInt.toNat = j; omega
      rw [ej, k2 j (by omega)] at q
      dsimp only
      refine xP_i (fun d => ?_) (fun d => ?_)
      · have q : tlt (b j) = false := by
          rcases q with q | q
          · rw [q.1] at d
            cases d
          · exact q.2
        rw [tS_f (fun z => by rw [q] at z; cases z.2)]
        exact fin h h2 l1 l2
      · have q : tlt (b j) = true := by
          rcases q with q | q
          · exact q.2
          · rw [q.1] at d
            cases d
        rw [tS_t (P := tlt) (show j < n by omega) q]
        exact ih h (xinc h2 (by omega)) (by omega) (by omega) (by omega)
theorem P59_1002 (hF : 500 ≤ F) (N : kN m0 b n) (h : kC m0 n p bg ft out wait cl k dp br ex wh m) : xP (D59_2_1002 F m) (fun r m' => (∃ u, tix (tw b (tS tbl b n p) (tS tlt b n (tS tbl b n p))) tw1002 = some u ∧ r.toInt = (u : Int) ∧ kC m0 n (tS tlt b n (tS tbl b n p)) (tS tbl b n p) ft out wait cl k dp br ex wh m') ∨ (tix (tw b (tS tbl b n p) (tS tlt b n (tS tbl b n p))) tw1002 = none ∧ r.toInt = -1 ∧ kC m0 n (tS tbl b n p) (tS tbl b n p) ft out wait cl k dp br ex wh m')) := by
  have n4 := N.2.1
  unfold D59_2_1002
  refine xP_b (P53 hF N h) (fun v m1 q => ?_)
  obtain ⟨q, -⟩ := q
  have l1 : tS tbl b n p ≤ n := q.2.2.1.2
  dsimp only
  exact P59_18_1002 hF N l1 F (kC_bg q q.2.2.1.1 (by omega)) q.2.2.1.1 (Nat.le_refl _) l1 (by omega)
theorem P60_1002 (hF : 500 ≤ F) (N : kN m0 b n) (h : kC m0 n p bg ft out wait cl k dp br ex wh m) : xP (D60_2_1002 F m) (fun r m' => (∃ u, tix (tw b (tS tbl b n p) (tS tlt b n (tS tbl b n p))) tw1002 = some u ∧ r.toInt = (u : Int) ∧ kC m0 n (tS tlt b n (tS tbl b n p)) (tS tbl b n p) ft out wait cl k dp br ex wh m') ∨ (tix (tw b (tS tbl b n p) (tS tlt b n (tS tbl b n p))) tw1002 = none ∧ r.toInt = -1 ∧ kC m0 n (tS tbl b n p) (tS tbl b n p) (trf ft (1 + 8 * (tS tbl b n p : Int))) out wait cl k dp br ex wh m')) := by
  have n4 := N.2.1
  have l2 := h.2.2.1.2
  unfold D60_2_1002 D60_2_1002_20
  refine xP_b (P59_1002 hF N h) (fun v m1 q => ?_)
  dsimp only
  refine xP_i (fun c => ?_) (fun c => ?_)
  · have c : v.toInt ≠ -1 := zt c
    rcases q with q | q
    · exact xP_r (Or.inl q)
    · exact absurd q.2.1 c
  · have c : v.toInt = -1 := Decidable.not_not.mp (zf c)
    rcases q with ⟨u, -, q, -⟩ | ⟨q1, q2, q3⟩
    · omega
    · have b3 := q3.2.2.2.1
      have l1 : tS tbl b n p ≤ n := q3.2.2.1.2
      refine xP_b (P52 q3 (by omega) (by omega) (by decide) (by decide)) (fun _ m2 q4 => xP_r (Or.inr ⟨q1, q2, ?_⟩))
      rw [b3, show (1 + 8 * ((tS tbl b n p : Nat) : Int) + (0 : Int32).toInt) = 1 + 8 * ((tS tbl b n p : Nat) : Int) from Int.add_zero _] at q4
      exact q4
def tw1003 : List (List Int) := [tNot]
theorem tl1003 : (tfl tw1003).length = 4 := by decide
theorem tb1003 : ∀ w ∈ tw1003, ∀ c ∈ w, c ≠ (32 : Int) := by decide
theorem zsx1003 : (List.range 4).all (fun i => (vp_nar .char (zsX 22 i) == zsX 22 i) && (zsX 22 i).toInt == (tfl tw1003).getD i 0) = true := by decide +kernel
theorem P281_1003 : xP (D281_1003 F m) (fun v m' => m' = m ∧ v.toInt = 4) := by
  unfold D281_1003
  refine xP_b (R := fun v m' => m' = m ∧ v = 0) ?_ (fun v m' q => ?_)
  · unfold D283_1003
    exact xP_i (fun c => absurd c (by decide)) (fun _ => xP_r ⟨rfl, rfl⟩)
  · obtain ⟨rfl, rfl⟩ := q
    exact xP_r ⟨rfl, by show (Int32.ofNat 4 >>> ((0 : Int32) &&& 31)).toInt = 4; decide⟩
theorem P282_1003 {v : Int32} {i : Nat} (hv : v.toInt = (i : Int)) (l : i < 4) : xP (D282_1003 F v m) (fun r m' => m' = m ∧ r.toInt = (tfl tw1003).getD i 0) := by
  have z := List.all_eq_true.mp zsx1003 i (List.mem_range.mpr l)
  simp only [Bool.and_eq_true] at z
  have z2 := eq_of_beq z.2
  have ei : v.toNatClampNeg = i := by show v.toInt.toNat = i; omega
  unfold D282_1003
  refine xP_b (R := fun v m' => m' = m ∧ v = 1) ?_ (fun v1 m' q => ?_)
  · unfold D284_1003
    exact xP_i (fun c => absurd c (by decide)) (fun _ => xP_i (fun c => absurd c (by decide)) (fun _ => xP_r ⟨rfl, rfl⟩))
  · obtain ⟨rfl, rfl⟩ := q
    refine xP_i (fun c => absurd (show zcmp .eq (1 : Int32) 0 = true from c) (by decide)) (fun _ => ?_)
    refine xP_b (R := fun v2 m2 => m2 = m' ∧ v2 = zsX 22 i) ?_ (fun v2 m2 q => ?_)
    · unfold D286_1022
      refine xP_b (P285 (by omega) (by show _ < (4 : Int); omega)) (fun _ m3 q => ?_)
      subst q
      refine xP_g (xib_t (by omega) (by omega)) ?_
      dsimp only
      rw [ei]
      exact xP_g z.1 (xP_r ⟨rfl, rfl⟩)
    · obtain ⟨rfl, rfl⟩ := q
      exact xP_g z.1 (xP_r ⟨rfl, z2⟩)
theorem P59_55_1003 {e : Nat} (N : kN m0 b n) (he : e ≤ n) : ∀ (f : Nat) {i num : Nat} {a : Option Nat} {v2 v3 v4 v5 : Int32} {m : xS}, kC m0 n p bg ft out wait cl k dp br ex wh m → i ≤ 4 → 4 - i < f → v5.toInt = (i : Int) → v2.toInt = (e : Int) → v3.toInt = (num : Int) → num ≤ i → tat a v4.toInt → bg ≤ e → xP (D59_2_1003_55 F f v2 v3 v4 v5 m) (fun r m' => (∃ u, tpw b e bg ((tfl tw1003).drop i) a num = some u ∧ r.toInt = (u : Int) ∧ kC m0 n e bg ft out wait cl k dp br ex wh m') ∨ (tpw b e bg ((tfl tw1003).drop i) a num = none ∧ r.toInt = -1 ∧ kC m0 n p bg ft out wait cl k dp br ex wh m')) := by
  intro f
  induction f with
  | zero => intro i num a v2 v3 v4 v5 m _ _ l; omega
  | succ f ih =>
    intro i num a v2 v3 v4 v5 m h l1 l2 h5 h2 h3 l3 ha hb
    obtain ⟨k1, k2⟩ := kC_n N h
    have n4 := N.2.1
    have h4 := h.2.2.2.1
    unfold D59_2_1003_55
    refine xP_b P281_1003 (fun w0 mx q => ?_)
    obtain ⟨rfl, q⟩ := q
    dsimp only
    refine xP_i (fun c => ?_) (fun c => ?_)
    · have c : w0.toInt ≤ v5.toInt := zt c
      refine xP_r (Or.inr ⟨?_, by decide, h⟩)
      rw [List.drop_eq_nil_of_le (by rw [tl1003]; omega)]
      rfl
    · have c : ¬ w0.toInt ≤ v5.toInt := zf c
      have li : i < 4 := by omega
      have hd : (tfl tw1003).drop i = (tfl tw1003).getD i 0 :: (tfl tw1003).drop (i + 1) := by
        have l4 : i < (tfl tw1003).length := by rw [tl1003]; exact li
        rw [List.drop_eq_getElem_cons l4, List.getD_eq_getElem?_getD, List.getElem?_eq_getElem l4]
        rfl
      have i5 : (v5 + Int32.ofInt 1).toInt = ((i + 1 : Nat) : Int) := xinc h5 (by omega)
      refine xP_b (P282_1003 h5 li) (fun r1 mx q1 => ?_)
      obtain ⟨rfl, q1⟩ := q1
      dsimp only
      rw [hd]
      generalize hc0 : (tfl tw1003).getD i 0 = c0 at q1 ⊢
      have nx : ∀ {a' : Option Nat} {num' : Nat} {v3' v4' : Int32}, v3'.toInt = (num' : Int) → num' ≤ i + 1 → tat a' v4'.toInt → tpw b e bg (c0 :: (tfl tw1003).drop (i + 1)) a num = tpw b e bg ((tfl tw1003).drop (i + 1)) a' num' → xP (D59_2_1003_55 F f v2 v3' v4' (v5 + Int32.ofInt 1) mx) (fun r m' => (∃ u, tpw b e bg (c0 :: (tfl tw1003).drop (i + 1)) a num = some u ∧ r.toInt = (u : Int) ∧ kC m0 n e bg ft out wait cl k dp br ex wh m') ∨ (tpw b e bg (c0 :: (tfl tw1003).drop (i + 1)) a num = none ∧ r.toInt = -1 ∧ kC m0 n p bg ft out wait cl k dp br ex wh m')) := fun e3 l6 e4 eq => by
        rw [eq]
        exact ih h (by omega) (by omega) i5 h2 e3 l6 e4 hb
      refine xP_i (fun d => ?_) (fun d => ?_)
      · have d : r1.toInt = 32 := zt d
        have d0 : c0 = 32 := by omega
        refine xP_i (fun g => ?_) (fun g => ?_)
        · have g : v4.toInt ≠ v2.toInt := zt g
          unfold D59_2_1003_138
          refine nx (a' := some bg) (num' := num + 1) (xinc h3 (by omega)) (by omega) h4 ?_
          show (if c0 = 32 then (if a = some e then some num else _) else _) = _
          rw [if_pos d0, if_neg (fun z => by rw [z] at ha; have ha : v4.toInt = (e : Int) := ha; omega)]
        · have g : v4.toInt = v2.toInt := Decidable.not_not.mp (zf g)
          refine xP_r (Or.inl ⟨num, ?_, h3, kC_p h h2 N.2.1 he⟩)
          show (if c0 = 32 then (if a = some e then some num else _) else _) = _
          rw [if_pos d0, if_pos]
          cases a with
          | none =>
            have ha : v4.toInt = -1 := ha
            omega
          | some x =>
            have ha : v4.toInt = (x : Int) := ha
            rw [show x = e by omega]
      · have d : r1.toInt ≠ 32 := zf d
        have d0 : ¬ c0 = 32 := by omega
        have st : ∀ {a' : Option Nat}, tnx b e c0 a = a' → tpw b e bg (c0 :: (tfl tw1003).drop (i + 1)) a num = tpw b e bg ((tfl tw1003).drop (i + 1)) a' num := fun z => by
          show (if c0 = 32 then _ else tpw b e bg _ (tnx b e c0 a) num) = _
          rw [if_neg d0, z]
        have no : tnx b e c0 a = none → xP (D59_2_1003_110 F (D59_2_1003_55 F f) v2 v3 v4 v5 mx) (fun r m' => (∃ u, tpw b e bg (c0 :: (tfl tw1003).drop (i + 1)) a num = some u ∧ r.toInt = (u : Int) ∧ kC m0 n e bg ft out wait cl k dp br ex wh m') ∨ (tpw b e bg (c0 :: (tfl tw1003).drop (i + 1)) a num = none ∧ r.toInt = -1 ∧ kC m0 n p bg ft out wait cl k dp br ex wh m')) := fun z => by
          unfold D59_2_1003_110 D59_2_1003_111 D59_2_1003_138
          exact nx (a' := none) h3 (by omega) (by show (-1 : Int32).toInt = -1; decide) (st z)
        refine xP_i (fun g => ?_) (fun g => ?_)
        · have g : v4.toInt = -1 := zt g
          refine no ?_
          cases a with
          | none => rfl
          | some x =>
            have ha : v4.toInt = (x : Int) := ha
            omega
        · have g : v4.toInt ≠ -1 := zf g
          cases a with
          | none =>
            have ha : v4.toInt = -1 := ha
            omega
          | some x =>
            have ha : v4.toInt = (x : Int) := ha
            refine xP_i (fun g2 => ?_) (fun g2 => ?_)
            · have g2 : v2.toInt ≤ v4.toInt := zt g2
              exact no (if_neg (fun z => by omega))
            · have g2 : ¬ v2.toInt ≤ v4.toInt := zf g2
              refine xP_g (xib_t (by omega) (by omega)) ?_
              refine xP_b (P282_1003 h5 li) (fun r2 mx q2 => ?_)
              obtain ⟨rfl, q2⟩ := q2
              dsimp only
              have ex4 : v4.toNatClampNeg = x := by show v4.toInt.toNat = x; omega
              rw [ex4]
              have kx := k2 x (by omega)
              have q3 : r2.toInt = c0 := q2.trans hc0
              refine xP_i (fun g3 => ?_) (fun g3 => ?_)
              · have g3 : (mx.1 1 x).toInt ≠ r2.toInt := zt g3
                exact no (if_neg (fun z => by omega))
              · have g3 : (mx.1 1 x).toInt = r2.toInt := Decidable.not_not.mp (zf g3)
                unfold D59_2_1003_111 D59_2_1003_138
                exact nx (a' := some (x + 1)) h3 (by omega) ((xa1 (by show _ ≤ _ + (1 : Int); omega) (by show _ + (1 : Int) ≤ _; omega)).trans (by rw [ha]; rfl)) (st (if_pos ⟨by omega, by omega⟩))
theorem P59_18_1003 (hF : 500 ≤ F) (N : kN m0 b n) (hb : bg ≤ n) : ∀ (f : Nat) {j : Nat} {v2 : Int32} {m : xS}, kC m0 n p bg ft out wait cl k dp br ex wh m → v2.toInt = (j : Int) → bg ≤ j → j ≤ n → n - j < f → xP (D59_2_1003_18 F f v2 m) (fun r m' => (∃ u, tix (tw b bg (tS tlt b n j)) tw1003 = some u ∧ r.toInt = (u : Int) ∧ kC m0 n (tS tlt b n j) bg ft out wait cl k dp br ex wh m') ∨ (tix (tw b bg (tS tlt b n j)) tw1003 = none ∧ r.toInt = -1 ∧ kC m0 n p bg ft out wait cl k dp br ex wh m')) := by
  have fin : ∀ {j : Nat} {v2 : Int32} {m : xS}, kC m0 n p bg ft out wait cl k dp br ex wh m → v2.toInt = (j : Int) → bg ≤ j → j ≤ n → xP (D59_2_1003_44 F v2 m) (fun r m' => (∃ u, tix (tw b bg j) tw1003 = some u ∧ r.toInt = (u : Int) ∧ kC m0 n j bg ft out wait cl k dp br ex wh m') ∨ (tix (tw b bg j) tw1003 = none ∧ r.toInt = -1 ∧ kC m0 n p bg ft out wait cl k dp br ex wh m')) := by
    intro j v2 m h h2 l1 l2
    unfold D59_2_1003_44
    have z := P59_55_1003 (F := F) (b := b) (e := j) N l2 F (i := 0) (num := 0) (a := some bg) (v2 := v2) (v3 := 0) (v4 := m.1 2 3) (v5 := 0) h (by omega) (by omega) rfl h2 rfl (Nat.le_refl _) h.2.2.2.1 l1
    rw [List.drop_zero, tpw_ws l1 tw1003 0 tb1003, show (fun x : Nat => x + 0) = id from funext (fun _ => rfl), Option.map_id] at z
    exact z
  intro f
  induction f with
  | zero => intro j v2 m _ _ _ _ l; omega
  | succ f ih =>
    intro j v2 m h h2 l1 l2 l3
    obtain ⟨k1, k2⟩ := kC_n N h
    have n4 := N.2.1
    unfold D59_2_1003_18
    refine xP_i (fun c => ?_) (fun c => ?_)
    · have c : (m.1 2 1).toInt ≤ v2.toInt := zt c
      rw [tS_f (fun z => by omega)]
      exact fin h h2 l1 l2
    · have c : ¬ (m.1 2 1).toInt ≤ v2.toInt := zf c
      refine xP_g (xib_t (by omega) (by omega)) ?_
      refine xP_b P57 (fun r mx q => ?_)
      obtain ⟨rfl, q⟩ := q
      have ej : v2.toNatClampNeg = j := by show v2.toInt.toNat = j; omega
      rw [ej, k2 j (by omega)] at q
      dsimp only
      refine xP_i (fun d => ?_) (fun d => ?_)
      · have q : tlt (b j) = false := by
          rcases q with q | q
          · rw [q.1] at d
            cases d
          · exact q.2
        rw [tS_f (fun z => by rw [q] at z; cases z.2)]
        exact fin h h2 l1 l2
      · have q : tlt (b j) = true := by
          rcases q with q | q
          · exact q.2
          · rw [q.1] at d
            cases d
        rw [tS_t (P := tlt) (show j < n by omega) q]
        exact ih h (xinc h2 (by omega)) (by omega) (by omega) (by omega)
theorem P59_1003 (hF : 500 ≤ F) (N : kN m0 b n) (h : kC m0 n p bg ft out wait cl k dp br ex wh m) : xP (D59_2_1003 F m) (fun r m' => (∃ u, tix (tw b (tS tbl b n p) (tS tlt b n (tS tbl b n p))) tw1003 = some u ∧ r.toInt = (u : Int) ∧ kC m0 n (tS tlt b n (tS tbl b n p)) (tS tbl b n p) ft out wait cl k dp br ex wh m') ∨ (tix (tw b (tS tbl b n p) (tS tlt b n (tS tbl b n p))) tw1003 = none ∧ r.toInt = -1 ∧ kC m0 n (tS tbl b n p) (tS tbl b n p) ft out wait cl k dp br ex wh m')) := by
  have n4 := N.2.1
  unfold D59_2_1003
  refine xP_b (P53 hF N h) (fun v m1 q => ?_)
  obtain ⟨q, -⟩ := q
  have l1 : tS tbl b n p ≤ n := q.2.2.1.2
  dsimp only
  exact P59_18_1003 hF N l1 F (kC_bg q q.2.2.1.1 (by omega)) q.2.2.1.1 (Nat.le_refl _) l1 (by omega)
def tw1004 : List (List Int) := tWds
theorem tl1004 : (tfl tw1004).length = 66 := by decide
theorem tb1004 : ∀ w ∈ tw1004, ∀ c ∈ w, c ≠ (32 : Int) := by decide
theorem zsx1004 : (List.range 66).all (fun i => (vp_nar .char (zsX 23 i) == zsX 23 i) && (zsX 23 i).toInt == (tfl tw1004).getD i 0) = true := by decide +kernel
theorem P281_1004 : xP (D281_1004 F m) (fun v m' => m' = m ∧ v.toInt = 66) := by
  unfold D281_1004
  refine xP_b (R := fun v m' => m' = m ∧ v = 0) ?_ (fun v m' q => ?_)
  · unfold D283_1004
    exact xP_i (fun c => absurd c (by decide)) (fun _ => xP_r ⟨rfl, rfl⟩)
  · obtain ⟨rfl, rfl⟩ := q
    exact xP_r ⟨rfl, by show (Int32.ofNat 66 >>> ((0 : Int32) &&& 31)).toInt = 66; decide⟩
theorem P282_1004 {v : Int32} {i : Nat} (hv : v.toInt = (i : Int)) (l : i < 66) : xP (D282_1004 F v m) (fun r m' => m' = m ∧ r.toInt = (tfl tw1004).getD i 0) := by
  have z := List.all_eq_true.mp zsx1004 i (List.mem_range.mpr l)
  simp only [Bool.and_eq_true] at z
  have z2 := eq_of_beq z.2
  have ei : v.toNatClampNeg = i := by show v.toInt.toNat = i; omega
  unfold D282_1004
  refine xP_b (R := fun v m' => m' = m ∧ v = 1) ?_ (fun v1 m' q => ?_)
  · unfold D284_1004
    exact xP_i (fun c => absurd c (by decide)) (fun _ => xP_i (fun c => absurd c (by decide)) (fun _ => xP_r ⟨rfl, rfl⟩))
  · obtain ⟨rfl, rfl⟩ := q
    refine xP_i (fun c => absurd (show zcmp .eq (1 : Int32) 0 = true from c) (by decide)) (fun _ => ?_)
    refine xP_b (R := fun v2 m2 => m2 = m' ∧ v2 = zsX 23 i) ?_ (fun v2 m2 q => ?_)
    · unfold D286_1023
      refine xP_b (P285 (by omega) (by show _ < (66 : Int); omega)) (fun _ m3 q => ?_)
      subst q
      refine xP_g (xib_t (by omega) (by omega)) ?_
      dsimp only
      rw [ei]
      exact xP_g z.1 (xP_r ⟨rfl, rfl⟩)
    · obtain ⟨rfl, rfl⟩ := q
      exact xP_g z.1 (xP_r ⟨rfl, z2⟩)
theorem P59_55_1004 {e : Nat} (N : kN m0 b n) (he : e ≤ n) : ∀ (f : Nat) {i num : Nat} {a : Option Nat} {v2 v3 v4 v5 : Int32} {m : xS}, kC m0 n p bg ft out wait cl k dp br ex wh m → i ≤ 66 → 66 - i < f → v5.toInt = (i : Int) → v2.toInt = (e : Int) → v3.toInt = (num : Int) → num ≤ i → tat a v4.toInt → bg ≤ e → xP (D59_2_1004_55 F f v2 v3 v4 v5 m) (fun r m' => (∃ u, tpw b e bg ((tfl tw1004).drop i) a num = some u ∧ r.toInt = (u : Int) ∧ kC m0 n e bg ft out wait cl k dp br ex wh m') ∨ (tpw b e bg ((tfl tw1004).drop i) a num = none ∧ r.toInt = -1 ∧ kC m0 n p bg ft out wait cl k dp br ex wh m')) := by
  intro f
  induction f with
  | zero => intro i num a v2 v3 v4 v5 m _ _ l; omega
  | succ f ih =>
    intro i num a v2 v3 v4 v5 m h l1 l2 h5 h2 h3 l3 ha hb
    obtain ⟨k1, k2⟩ := kC_n N h
    have n4 := N.2.1
    have h4 := h.2.2.2.1
    unfold D59_2_1004_55
    refine xP_b P281_1004 (fun w0 mx q => ?_)
    obtain ⟨rfl, q⟩ := q
    dsimp only
    refine xP_i (fun c => ?_) (fun c => ?_)
    · have c : w0.toInt ≤ v5.toInt := zt c
      refine xP_r (Or.inr ⟨?_, by decide, h⟩)
      rw [List.drop_eq_nil_of_le (by rw [tl1004]; omega)]
      rfl
    · have c : ¬ w0.toInt ≤ v5.toInt := zf c
      have li : i < 66 := by omega
      have hd : (tfl tw1004).drop i = (tfl tw1004).getD i 0 :: (tfl tw1004).drop (i + 1) := by
        have l4 : i < (tfl tw1004).length := by rw [tl1004]; exact li
        rw [List.drop_eq_getElem_cons l4, List.getD_eq_getElem?_getD, List.getElem?_eq_getElem l4]
        rfl
      have i5 : (v5 + Int32.ofInt 1).toInt = ((i + 1 : Nat) : Int) := xinc h5 (by omega)
      refine xP_b (P282_1004 h5 li) (fun r1 mx q1 => ?_)
      obtain ⟨rfl, q1⟩ := q1
      dsimp only
      rw [hd]
      generalize hc0 : (tfl tw1004).getD i 0 = c0 at q1 ⊢
      have nx : ∀ {a' : Option Nat} {num' : Nat} {v3' v4' : Int32}, v3'.toInt = (num' : Int) → num' ≤ i + 1 → tat a' v4'.toInt → tpw b e bg (c0 :: (tfl tw1004).drop (i + 1)) a num = tpw b e bg ((tfl tw1004).drop (i + 1)) a' num' → xP (D59_2_1004_55 F f v2 v3' v4' (v5 + Int32.ofInt 1) mx) (fun r m' => (∃ u, tpw b e bg (c0 :: (tfl tw1004).drop (i + 1)) a num = some u ∧ r.toInt = (u : Int) ∧ kC m0 n e bg ft out wait cl k dp br ex wh m') ∨ (tpw b e bg (c0 :: (tfl tw1004).drop (i + 1)) a num = none ∧ r.toInt = -1 ∧ kC m0 n p bg ft out wait cl k dp br ex wh m')) := fun e3 l6 e4 eq => by
        rw [eq]
        exact ih h (by omega) (by omega) i5 h2 e3 l6 e4 hb
      refine xP_i (fun d => ?_) (fun d => ?_)
      · have d : r1.toInt = 32 := zt d
        have d0 : c0 = 32 := by omega
        refine xP_i (fun g => ?_) (fun g => ?_)
        · have g : v4.toInt ≠ v2.toInt := zt g
          unfold D59_2_1004_138
          refine nx (a' := some bg) (num' := num + 1) (xinc h3 (by omega)) (by omega) h4 ?_
          show (if c0 = 32 then (if a = some e then some num else _) else _) = _
          rw [if_pos d0, if_neg (fun z => by rw [z] at ha; have ha : v4.toInt = (e : Int) := ha; omega)]
        · have g : v4.toInt = v2.toInt := Decidable.not_not.mp (zf g)
          refine xP_r (Or.inl ⟨num, ?_, h3, kC_p h h2 N.2.1 he⟩)
          show (if c0 = 32 then (if a = some e then some num else _) else _) = _
          rw [if_pos d0, if_pos]
          cases a with
          | none =>
            have ha : v4.toInt = -1 := ha
            omega
          | some x =>
            have ha : v4.toInt = (x : Int) := ha
            rw [show x = e by omega]
      · have d : r1.toInt ≠ 32 := zf d
        have d0 : ¬ c0 = 32 := by omega
        have st : ∀ {a' : Option Nat}, tnx b e c0 a = a' → tpw b e bg (c0 :: (tfl tw1004).drop (i + 1)) a num = tpw b e bg ((tfl tw1004).drop (i + 1)) a' num := fun z => by
          show (if c0 = 32 then _ else tpw b e bg _ (tnx b e c0 a) num) = _
          rw [if_neg d0, z]
        have no : tnx b e c0 a = none → xP (D59_2_1004_110 F (D59_2_1004_55 F f) v2 v3 v4 v5 mx) (fun r m' => (∃ u, tpw b e bg (c0 :: (tfl tw1004).drop (i + 1)) a num = some u ∧ r.toInt = (u : Int) ∧ kC m0 n e bg ft out wait cl k dp br ex wh m') ∨ (tpw b e bg (c0 :: (tfl tw1004).drop (i + 1)) a num = none ∧ r.toInt = -1 ∧ kC m0 n p bg ft out wait cl k dp br ex wh m')) := fun z => by
          unfold D59_2_1004_110 D59_2_1004_111 D59_2_1004_138
          exact nx (a' := none) h3 (by omega) (by show (-1 : Int32).toInt = -1; decide) (st z)
        refine xP_i (fun g => ?_) (fun g => ?_)
        · have g : v4.toInt = -1 := zt g
          refine no ?_
          cases a with
          | none => rfl
          | some x =>
            have ha : v4.toInt = (x : Int) := ha
            omega
        · have g : v4.toInt ≠ -1 := zf g
          cases a with
          | none =>
            have ha : v4.toInt = -1 := ha
            omega
          | some x =>
            have ha : v4.toInt = (x : Int) := ha
            refine xP_i (fun g2 => ?_) (fun g2 => ?_)
            · have g2 : v2.toInt ≤ v4.toInt := zt g2
              exact no (if_neg (fun z => by omega))
            · have g2 : ¬ v2.toInt ≤ v4.toInt := zf g2
              refine xP_g (xib_t (by omega) (by omega)) ?_
              refine xP_b (P282_1004 h5 li) (fun r2 mx q2 => ?_)
              obtain ⟨rfl, q2⟩ := q2
              dsimp only
              have ex4 : v4.toNatClampNeg = x := by show v4.toInt.toNat = x; omega
              rw [ex4]
              have kx := k2 x (by omega)
              have q3 : r2.toInt = c0 := q2.trans hc0
              refine xP_i (fun g3 => ?_) (fun g3 => ?_)
              · have g3 : (mx.1 1 x).toInt ≠ r2.toInt := zt g3
                exact no (if_neg (fun z => by omega))
              · have g3 : (mx.1 1 x).toInt = r2.toInt := Decidable.not_not.mp (zf g3)
                unfold D59_2_1004_111 D59_2_1004_138
                exact nx (a' := some (x + 1)) h3 (by omega) ((xa1 (by show _ ≤ _ + (1 : Int); omega) (by show _ + (1 : Int) ≤ _; omega)).trans (by rw [ha]; rfl)) (st (if_pos ⟨by omega, by omega⟩))
theorem P59_18_1004 (hF : 500 ≤ F) (N : kN m0 b n) (hb : bg ≤ n) : ∀ (f : Nat) {j : Nat} {v2 : Int32} {m : xS}, kC m0 n p bg ft out wait cl k dp br ex wh m → v2.toInt = (j : Int) → bg ≤ j → j ≤ n → n - j < f → xP (D59_2_1004_18 F f v2 m) (fun r m' => (∃ u, tix (tw b bg (tS tlt b n j)) tw1004 = some u ∧ r.toInt = (u : Int) ∧ kC m0 n (tS tlt b n j) bg ft out wait cl k dp br ex wh m') ∨ (tix (tw b bg (tS tlt b n j)) tw1004 = none ∧ r.toInt = -1 ∧ kC m0 n p bg ft out wait cl k dp br ex wh m')) := by
  have fin : ∀ {j : Nat} {v2 : Int32} {m : xS}, kC m0 n p bg ft out wait cl k dp br ex wh m → v2.toInt = (j : Int) → bg ≤ j → j ≤ n → xP (D59_2_1004_44 F v2 m) (fun r m' => (∃ u, tix (tw b bg j) tw1004 = some u ∧ r.toInt = (u : Int) ∧ kC m0 n j bg ft out wait cl k dp br ex wh m') ∨ (tix (tw b bg j) tw1004 = none ∧ r.toInt = -1 ∧ kC m0 n p bg ft out wait cl k dp br ex wh m')) := by
    intro j v2 m h h2 l1 l2
    unfold D59_2_1004_44
    have z := P59_55_1004 (F := F) (b := b) (e := j) N l2 F (i := 0) (num := 0) (a := some bg) (v2 := v2) (v3 := 0) (v4 := m.1 2 3) (v5 := 0) h (by omega) (by omega) rfl h2 rfl (Nat.le_refl _) h.2.2.2.1 l1
    rw [List.drop_zero, tpw_ws l1 tw1004 0 tb1004, show (fun x : Nat => x + 0) = id from funext (fun _ => rfl), Option.map_id] at z
    exact z
  intro f
  induction f with
  | zero => intro j v2 m _ _ _ _ l; omega
  | succ f ih =>
    intro j v2 m h h2 l1 l2 l3
    obtain ⟨k1, k2⟩ := kC_n N h
    have n4 := N.2.1
    unfold D59_2_1004_18
    refine xP_i (fun c => ?_) (fun c => ?_)
    · have c : (m.1 2 1).toInt ≤ v2.toInt := zt c
      rw [tS_f (fun z => by omega)]
      exact fin h h2 l1 l2
    · have c : ¬ (m.1 2 1).toInt ≤ v2.toInt := zf c
      refine xP_g (xib_t (by omega) (by omega)) ?_
      refine xP_b P57 (fun r mx q => ?_)
      obtain ⟨rfl, q⟩ := q
      have ej : v2.toNatClampNeg = j := by show v2.toInt.toNat = j; omega
      rw [ej, k2 j (by omega)] at q
      dsimp only
      refine xP_i (fun d => ?_) (fun d => ?_)
      · have q : tlt (b j) = false := by
          rcases q with q | q
          · rw [q.1] at d
            cases d
          · exact q.2
        rw [tS_f (fun z => by rw [q] at z; cases z.2)]
        exact fin h h2 l1 l2
      · have q : tlt (b j) = true := by
          rcases q with q | q
          · exact q.2
          · rw [q.1] at d
            cases d
        rw [tS_t (P := tlt) (show j < n by omega) q]
        exact ih h (xinc h2 (by omega)) (by omega) (by omega) (by omega)
theorem P59_1004 (hF : 500 ≤ F) (N : kN m0 b n) (h : kC m0 n p bg ft out wait cl k dp br ex wh m) : xP (D59_2_1004 F m) (fun r m' => (∃ u, tix (tw b (tS tbl b n p) (tS tlt b n (tS tbl b n p))) tw1004 = some u ∧ r.toInt = (u : Int) ∧ kC m0 n (tS tlt b n (tS tbl b n p)) (tS tbl b n p) ft out wait cl k dp br ex wh m') ∨ (tix (tw b (tS tbl b n p) (tS tlt b n (tS tbl b n p))) tw1004 = none ∧ r.toInt = -1 ∧ kC m0 n (tS tbl b n p) (tS tbl b n p) ft out wait cl k dp br ex wh m')) := by
  have n4 := N.2.1
  unfold D59_2_1004
  refine xP_b (P53 hF N h) (fun v m1 q => ?_)
  obtain ⟨q, -⟩ := q
  have l1 : tS tbl b n p ≤ n := q.2.2.1.2
  dsimp only
  exact P59_18_1004 hF N l1 F (kC_bg q q.2.2.1.1 (by omega)) q.2.2.1.1 (Nat.le_refl _) l1 (by omega)
theorem P60_1004 (hF : 500 ≤ F) (N : kN m0 b n) (h : kC m0 n p bg ft out wait cl k dp br ex wh m) : xP (D60_2_1004 F m) (fun r m' => (∃ u, tix (tw b (tS tbl b n p) (tS tlt b n (tS tbl b n p))) tw1004 = some u ∧ r.toInt = (u : Int) ∧ kC m0 n (tS tlt b n (tS tbl b n p)) (tS tbl b n p) ft out wait cl k dp br ex wh m') ∨ (tix (tw b (tS tbl b n p) (tS tlt b n (tS tbl b n p))) tw1004 = none ∧ r.toInt = -1 ∧ kC m0 n (tS tbl b n p) (tS tbl b n p) (trf ft (1 + 8 * (tS tbl b n p : Int))) out wait cl k dp br ex wh m')) := by
  have n4 := N.2.1
  have l2 := h.2.2.1.2
  unfold D60_2_1004 D60_2_1004_20
  refine xP_b (P59_1004 hF N h) (fun v m1 q => ?_)
  dsimp only
  refine xP_i (fun c => ?_) (fun c => ?_)
  · have c : v.toInt ≠ -1 := zt c
    rcases q with q | q
    · exact xP_r (Or.inl q)
    · exact absurd q.2.1 c
  · have c : v.toInt = -1 := Decidable.not_not.mp (zf c)
    rcases q with ⟨u, -, q, -⟩ | ⟨q1, q2, q3⟩
    · omega
    · have b3 := q3.2.2.2.1
      have l1 : tS tbl b n p ≤ n := q3.2.2.1.2
      refine xP_b (P52 q3 (by omega) (by omega) (by decide) (by decide)) (fun _ m2 q4 => xP_r (Or.inr ⟨q1, q2, ?_⟩))
      rw [b3, show (1 + 8 * ((tS tbl b n p : Nat) : Int) + (0 : Int32).toInt) = 1 + 8 * ((tS tbl b n p : Nat) : Int) from Int.add_zero _] at q4
      exact q4
def tw1005 : List (List Int) := [tIf]
theorem tl1005 : (tfl tw1005).length = 3 := by decide
theorem tb1005 : ∀ w ∈ tw1005, ∀ c ∈ w, c ≠ (32 : Int) := by decide
theorem zsx1005 : (List.range 3).all (fun i => (vp_nar .char (zsX 24 i) == zsX 24 i) && (zsX 24 i).toInt == (tfl tw1005).getD i 0) = true := by decide +kernel
theorem P281_1005 : xP (D281_1005 F m) (fun v m' => m' = m ∧ v.toInt = 3) := by
  unfold D281_1005
  refine xP_b (R := fun v m' => m' = m ∧ v = 0) ?_ (fun v m' q => ?_)
  · unfold D283_1005
    exact xP_i (fun c => absurd c (by decide)) (fun _ => xP_r ⟨rfl, rfl⟩)
  · obtain ⟨rfl, rfl⟩ := q
    exact xP_r ⟨rfl, by show (Int32.ofNat 3 >>> ((0 : Int32) &&& 31)).toInt = 3; decide⟩
theorem P282_1005 {v : Int32} {i : Nat} (hv : v.toInt = (i : Int)) (l : i < 3) : xP (D282_1005 F v m) (fun r m' => m' = m ∧ r.toInt = (tfl tw1005).getD i 0) := by
  have z := List.all_eq_true.mp zsx1005 i (List.mem_range.mpr l)
  simp only [Bool.and_eq_true] at z
  have z2 := eq_of_beq z.2
  have ei : v.toNatClampNeg = i := by show v.toInt.toNat = i; omega
  unfold D282_1005
  refine xP_b (R := fun v m' => m' = m ∧ v = 1) ?_ (fun v1 m' q => ?_)
  · unfold D284_1005
    exact xP_i (fun c => absurd c (by decide)) (fun _ => xP_i (fun c => absurd c (by decide)) (fun _ => xP_r ⟨rfl, rfl⟩))
  · obtain ⟨rfl, rfl⟩ := q
    refine xP_i (fun c => absurd (show zcmp .eq (1 : Int32) 0 = true from c) (by decide)) (fun _ => ?_)
    refine xP_b (R := fun v2 m2 => m2 = m' ∧ v2 = zsX 24 i) ?_ (fun v2 m2 q => ?_)
    · unfold D286_1024
      refine xP_b (P285 (by omega) (by show _ < (3 : Int); omega)) (fun _ m3 q => ?_)
      subst q
      refine xP_g (xib_t (by omega) (by omega)) ?_
      dsimp only
      rw [ei]
      exact xP_g z.1 (xP_r ⟨rfl, rfl⟩)
    · obtain ⟨rfl, rfl⟩ := q
      exact xP_g z.1 (xP_r ⟨rfl, z2⟩)
theorem P59_55_1005 {e : Nat} (N : kN m0 b n) (he : e ≤ n) : ∀ (f : Nat) {i num : Nat} {a : Option Nat} {v2 v3 v4 v5 : Int32} {m : xS}, kC m0 n p bg ft out wait cl k dp br ex wh m → i ≤ 3 → 3 - i < f → v5.toInt = (i : Int) → v2.toInt = (e : Int) → v3.toInt = (num : Int) → num ≤ i → tat a v4.toInt → bg ≤ e → xP (D59_2_1005_55 F f v2 v3 v4 v5 m) (fun r m' => (∃ u, tpw b e bg ((tfl tw1005).drop i) a num = some u ∧ r.toInt = (u : Int) ∧ kC m0 n e bg ft out wait cl k dp br ex wh m') ∨ (tpw b e bg ((tfl tw1005).drop i) a num = none ∧ r.toInt = -1 ∧ kC m0 n p bg ft out wait cl k dp br ex wh m')) := by
  intro f
  induction f with
  | zero => intro i num a v2 v3 v4 v5 m _ _ l; omega
  | succ f ih =>
    intro i num a v2 v3 v4 v5 m h l1 l2 h5 h2 h3 l3 ha hb
    obtain ⟨k1, k2⟩ := kC_n N h
    have n4 := N.2.1
    have h4 := h.2.2.2.1
    unfold D59_2_1005_55
    refine xP_b P281_1005 (fun w0 mx q => ?_)
    obtain ⟨rfl, q⟩ := q
    dsimp only
    refine xP_i (fun c => ?_) (fun c => ?_)
    · have c : w0.toInt ≤ v5.toInt := zt c
      refine xP_r (Or.inr ⟨?_, by decide, h⟩)
      rw [List.drop_eq_nil_of_le (by rw [tl1005]; omega)]
      rfl
    · have c : ¬ w0.toInt ≤ v5.toInt := zf c
      have li : i < 3 := by omega
      have hd : (tfl tw1005).drop i = (tfl tw1005).getD i 0 :: (tfl tw1005).drop (i + 1) := by
        have l4 : i < (tfl tw1005).length := by rw [tl1005]; exact li
        rw [List.drop_eq_getElem_cons l4, List.getD_eq_getElem?_getD, List.getElem?_eq_getElem l4]
        rfl
      have i5 : (v5 + Int32.ofInt 1).toInt = ((i + 1 : Nat) : Int) := xinc h5 (by omega)
      refine xP_b (P282_1005 h5 li) (fun r1 mx q1 => ?_)
      obtain ⟨rfl, q1⟩ := q1
      dsimp only
      rw [hd]
      generalize hc0 : (tfl tw1005).getD i 0 = c0 at q1 ⊢
      have nx : ∀ {a' : Option Nat} {num' : Nat} {v3' v4' : Int32}, v3'.toInt = (num' : Int) → num' ≤ i + 1 → tat a' v4'.toInt → tpw b e bg (c0 :: (tfl tw1005).drop (i + 1)) a num = tpw b e bg ((tfl tw1005).drop (i + 1)) a' num' → xP (D59_2_1005_55 F f v2 v3' v4' (v5 + Int32.ofInt 1) mx) (fun r m' => (∃ u, tpw b e bg (c0 :: (tfl tw1005).drop (i + 1)) a num = some u ∧ r.toInt = (u : Int) ∧ kC m0 n e bg ft out wait cl k dp br ex wh m') ∨ (tpw b e bg (c0 :: (tfl tw1005).drop (i + 1)) a num = none ∧ r.toInt = -1 ∧ kC m0 n p bg ft out wait cl k dp br ex wh m')) := fun e3 l6 e4 eq => by
        rw [eq]
        exact ih h (by omega) (by omega) i5 h2 e3 l6 e4 hb
      refine xP_i (fun d => ?_) (fun d => ?_)
      · have d : r1.toInt = 32 := zt d
        have d0 : c0 = 32 := by omega
        refine xP_i (fun g => ?_) (fun g => ?_)
        · have g : v4.toInt ≠ v2.toInt := zt g
          unfold D59_2_1005_138
          refine nx (a' := some bg) (num' := num + 1) (xinc h3 (by omega)) (by omega) h4 ?_
          show (if c0 = 32 then (if a = some e then some num else _) else _) = _
          rw [if_pos d0, if_neg (fun z => by rw [z] at ha; have ha : v4.toInt = (e : Int) := ha; omega)]
        · have g : v4.toInt = v2.toInt := Decidable.not_not.mp (zf g)
          refine xP_r (Or.inl ⟨num, ?_, h3, kC_p h h2 N.2.1 he⟩)
          show (if c0 = 32 then (if a = some e then some num else _) else _) = _
          rw [if_pos d0, if_pos]
          cases a with
          | none =>
            have ha : v4.toInt = -1 := ha
            omega
          | some x =>
            have ha : v4.toInt = (x : Int) := ha
            rw [show x = e by omega]
      · have d : r1.toInt ≠ 32 := zf d
        have d0 : ¬ c0 = 32 := by omega
        have st : ∀ {a' : Option Nat}, tnx b e c0 a = a' → tpw b e bg (c0 :: (tfl tw1005).drop (i + 1)) a num = tpw b e bg ((tfl tw1005).drop (i + 1)) a' num := fun z => by
          show (if c0 = 32 then _ else tpw b e bg _ (tnx b e c0 a) num) = _
          rw [if_neg d0, z]
        have no : tnx b e c0 a = none → xP (D59_2_1005_110 F (D59_2_1005_55 F f) v2 v3 v4 v5 mx) (fun r m' => (∃ u, tpw b e bg (c0 :: (tfl tw1005).drop (i + 1)) a num = some u ∧ r.toInt = (u : Int) ∧ kC m0 n e bg ft out wait cl k dp br ex wh m') ∨ (tpw b e bg (c0 :: (tfl tw1005).drop (i + 1)) a num = none ∧ r.toInt = -1 ∧ kC m0 n p bg ft out wait cl k dp br ex wh m')) := fun z => by
          unfold D59_2_1005_110 D59_2_1005_111 D59_2_1005_138
          exact nx (a' := none) h3 (by omega) (by show (-1 : Int32).toInt = -1; decide) (st z)
        refine xP_i (fun g => ?_) (fun g => ?_)
        · have g : v4.toInt = -1 := zt g
          refine no ?_
          cases a with
          | none => rfl
          | some x =>
            have ha : v4.toInt = (x : Int) := ha
            omega
        · have g : v4.toInt ≠ -1 := zf g
          cases a with
          | none =>
            have ha : v4.toInt = -1 := ha
            omega
          | some x =>
            have ha : v4.toInt = (x : Int) := ha
            refine xP_i (fun g2 => ?_) (fun g2 => ?_)
            · have g2 : v2.toInt ≤ v4.toInt := zt g2
              exact no (if_neg (fun z => by omega))
            · have g2 : ¬ v2.toInt ≤ v4.toInt := zf g2
              refine xP_g (xib_t (by omega) (by omega)) ?_
              refine xP_b (P282_1005 h5 li) (fun r2 mx q2 => ?_)
              obtain ⟨rfl, q2⟩ := q2
              dsimp only
              have ex4 : v4.toNatClampNeg = x := by show v4.toInt.toNat = x; omega
              rw [ex4]
              have kx := k2 x (by omega)
              have q3 : r2.toInt = c0 := q2.trans hc0
              refine xP_i (fun g3 => ?_) (fun g3 => ?_)
              · have g3 : (mx.1 1 x).toInt ≠ r2.toInt := zt g3
                exact no (if_neg (fun z => by omega))
              · have g3 : (mx.1 1 x).toInt = r2.toInt := Decidable.not_not.mp (zf g3)
                unfold D59_2_1005_111 D59_2_1005_138
                exact nx (a' := some (x + 1)) h3 (by omega) ((xa1 (by show _ ≤ _ + (1 : Int); omega) (by show _ + (1 : Int) ≤ _; omega)).trans (by rw [ha]; rfl)) (st (if_pos ⟨by omega, by omega⟩))
theorem P59_18_1005 (hF : 500 ≤ F) (N : kN m0 b n) (hb : bg ≤ n) : ∀ (f : Nat) {j : Nat} {v2 : Int32} {m : xS}, kC m0 n p bg ft out wait cl k dp br ex wh m → v2.toInt = (j : Int) → bg ≤ j → j ≤ n → n - j < f → xP (D59_2_1005_18 F f v2 m) (fun r m' => (∃ u, tix (tw b bg (tS tlt b n j)) tw1005 = some u ∧ r.toInt = (u : Int) ∧ kC m0 n (tS tlt b n j) bg ft out wait cl k dp br ex wh m') ∨ (tix (tw b bg (tS tlt b n j)) tw1005 = none ∧ r.toInt = -1 ∧ kC m0 n p bg ft out wait cl k dp br ex wh m')) := by
  have fin : ∀ {j : Nat} {v2 : Int32} {m : xS}, kC m0 n p bg ft out wait cl k dp br ex wh m → v2.toInt = (j : Int) → bg ≤ j → j ≤ n → xP (D59_2_1005_44 F v2 m) (fun r m' => (∃ u, tix (tw b bg j) tw1005 = some u ∧ r.toInt = (u : Int) ∧ kC m0 n j bg ft out wait cl k dp br ex wh m') ∨ (tix (tw b bg j) tw1005 = none ∧ r.toInt = -1 ∧ kC m0 n p bg ft out wait cl k dp br ex wh m')) := by
    intro j v2 m h h2 l1 l2
    unfold D59_2_1005_44
    have z := P59_55_1005 (F := F) (b := b) (e := j) N l2 F (i := 0) (num := 0) (a := some bg) (v2 := v2) (v3 := 0) (v4 := m.1 2 3) (v5 := 0) h (by omega) (by omega) rfl h2 rfl (Nat.le_refl _) h.2.2.2.1 l1
    rw [List.drop_zero, tpw_ws l1 tw1005 0 tb1005, show (fun x : Nat => x + 0) = id from funext (fun _ => rfl), Option.map_id] at z
    exact z
  intro f
  induction f with
  | zero => intro j v2 m _ _ _ _ l; omega
  | succ f ih =>
    intro j v2 m h h2 l1 l2 l3
    obtain ⟨k1, k2⟩ := kC_n N h
    have n4 := N.2.1
    unfold D59_2_1005_18
    refine xP_i (fun c => ?_) (fun c => ?_)
    · have c : (m.1 2 1).toInt ≤ v2.toInt := zt c
      rw [tS_f (fun z => by omega)]
      exact fin h h2 l1 l2
    · have c : ¬ (m.1 2 1).toInt ≤ v2.toInt := zf c
      refine xP_g (xib_t (by omega) (by omega)) ?_
      refine xP_b P57 (fun r mx q => ?_)
      obtain ⟨rfl, q⟩ := q
      have ej : v2.toNatClampNeg = j := by show v2.toInt.toNat = j; omega
      rw [ej, k2 j (by omega)] at q
      dsimp only
      refine xP_i (fun d => ?_) (fun d => ?_)
      · have q : tlt (b j) = false := by
          rcases q with q | q
          · rw [q.1] at d
            cases d
          · exact q.2
        rw [tS_f (fun z => by rw [q] at z; cases z.2)]
        exact fin h h2 l1 l2
      · have q : tlt (b j) = true := by
          rcases q with q | q
          · exact q.2
          · rw [q.1] at d
            cases d
        rw [tS_t (P := tlt) (show j < n by omega) q]
        exact ih h (xinc h2 (by omega)) (by omega) (by omega) (by omega)
theorem P59_1005 (hF : 500 ≤ F) (N : kN m0 b n) (h : kC m0 n p bg ft out wait cl k dp br ex wh m) : xP (D59_2_1005 F m) (fun r m' => (∃ u, tix (tw b (tS tbl b n p) (tS tlt b n (tS tbl b n p))) tw1005 = some u ∧ r.toInt = (u : Int) ∧ kC m0 n (tS tlt b n (tS tbl b n p)) (tS tbl b n p) ft out wait cl k dp br ex wh m') ∨ (tix (tw b (tS tbl b n p) (tS tlt b n (tS tbl b n p))) tw1005 = none ∧ r.toInt = -1 ∧ kC m0 n (tS tbl b n p) (tS tbl b n p) ft out wait cl k dp br ex wh m')) := by
  have n4 := N.2.1
  unfold D59_2_1005
  refine xP_b (P53 hF N h) (fun v m1 q => ?_)
  obtain ⟨q, -⟩ := q
  have l1 : tS tbl b n p ≤ n := q.2.2.1.2
  dsimp only
  exact P59_18_1005 hF N l1 F (kC_bg q q.2.2.1.1 (by omega)) q.2.2.1.1 (Nat.le_refl _) l1 (by omega)
def tw1006 : List (List Int) := [tAnd, tOr]
theorem tl1006 : (tfl tw1006).length = 7 := by decide
theorem tb1006 : ∀ w ∈ tw1006, ∀ c ∈ w, c ≠ (32 : Int) := by decide
theorem zsx1006 : (List.range 7).all (fun i => (vp_nar .char (zsX 25 i) == zsX 25 i) && (zsX 25 i).toInt == (tfl tw1006).getD i 0) = true := by decide +kernel
theorem P281_1006 : xP (D281_1006 F m) (fun v m' => m' = m ∧ v.toInt = 7) := by
  unfold D281_1006
  refine xP_b (R := fun v m' => m' = m ∧ v = 0) ?_ (fun v m' q => ?_)
  · unfold D283_1006
    exact xP_i (fun c => absurd c (by decide)) (fun _ => xP_r ⟨rfl, rfl⟩)
  · obtain ⟨rfl, rfl⟩ := q
    exact xP_r ⟨rfl, by show (Int32.ofNat 7 >>> ((0 : Int32) &&& 31)).toInt = 7; decide⟩
theorem P282_1006 {v : Int32} {i : Nat} (hv : v.toInt = (i : Int)) (l : i < 7) : xP (D282_1006 F v m) (fun r m' => m' = m ∧ r.toInt = (tfl tw1006).getD i 0) := by
  have z := List.all_eq_true.mp zsx1006 i (List.mem_range.mpr l)
  simp only [Bool.and_eq_true] at z
  have z2 := eq_of_beq z.2
  have ei : v.toNatClampNeg = i := by show v.toInt.toNat = i; omega
  unfold D282_1006
  refine xP_b (R := fun v m' => m' = m ∧ v = 1) ?_ (fun v1 m' q => ?_)
  · unfold D284_1006
    exact xP_i (fun c => absurd c (by decide)) (fun _ => xP_i (fun c => absurd c (by decide)) (fun _ => xP_r ⟨rfl, rfl⟩))
  · obtain ⟨rfl, rfl⟩ := q
    refine xP_i (fun c => absurd (show zcmp .eq (1 : Int32) 0 = true from c) (by decide)) (fun _ => ?_)
    refine xP_b (R := fun v2 m2 => m2 = m' ∧ v2 = zsX 25 i) ?_ (fun v2 m2 q => ?_)
    · unfold D286_1025
      refine xP_b (P285 (by omega) (by show _ < (7 : Int); omega)) (fun _ m3 q => ?_)
      subst q
      refine xP_g (xib_t (by omega) (by omega)) ?_
      dsimp only
      rw [ei]
      exact xP_g z.1 (xP_r ⟨rfl, rfl⟩)
    · obtain ⟨rfl, rfl⟩ := q
      exact xP_g z.1 (xP_r ⟨rfl, z2⟩)
theorem P59_55_1006 {e : Nat} (N : kN m0 b n) (he : e ≤ n) : ∀ (f : Nat) {i num : Nat} {a : Option Nat} {v2 v3 v4 v5 : Int32} {m : xS}, kC m0 n p bg ft out wait cl k dp br ex wh m → i ≤ 7 → 7 - i < f → v5.toInt = (i : Int) → v2.toInt = (e : Int) → v3.toInt = (num : Int) → num ≤ i → tat a v4.toInt → bg ≤ e → xP (D59_2_1006_55 F f v2 v3 v4 v5 m) (fun r m' => (∃ u, tpw b e bg ((tfl tw1006).drop i) a num = some u ∧ r.toInt = (u : Int) ∧ kC m0 n e bg ft out wait cl k dp br ex wh m') ∨ (tpw b e bg ((tfl tw1006).drop i) a num = none ∧ r.toInt = -1 ∧ kC m0 n p bg ft out wait cl k dp br ex wh m')) := by
  intro f
  induction f with
  | zero => intro i num a v2 v3 v4 v5 m _ _ l; omega
  | succ f ih =>
    intro i num a v2 v3 v4 v5 m h l1 l2 h5 h2 h3 l3 ha hb
    obtain ⟨k1, k2⟩ := kC_n N h
    have n4 := N.2.1
    have h4 := h.2.2.2.1
    unfold D59_2_1006_55
    refine xP_b P281_1006 (fun w0 mx q => ?_)
    obtain ⟨rfl, q⟩ := q
    dsimp only
    refine xP_i (fun c => ?_) (fun c => ?_)
    · have c : w0.toInt ≤ v5.toInt := zt c
      refine xP_r (Or.inr ⟨?_, by decide, h⟩)
      rw [List.drop_eq_nil_of_le (by rw [tl1006]; omega)]
      rfl
    · have c : ¬ w0.toInt ≤ v5.toInt := zf c
      have li : i < 7 := by omega
      have hd : (tfl tw1006).drop i = (tfl tw1006).getD i 0 :: (tfl tw1006).drop (i + 1) := by
        have l4 : i < (tfl tw1006).length := by rw [tl1006]; exact li
        rw [List.drop_eq_getElem_cons l4, List.getD_eq_getElem?_getD, List.getElem?_eq_getElem l4]
        rfl
      have i5 : (v5 + Int32.ofInt 1).toInt = ((i + 1 : Nat) : Int) := xinc h5 (by omega)
      refine xP_b (P282_1006 h5 li) (fun r1 mx q1 => ?_)
      obtain ⟨rfl, q1⟩ := q1
      dsimp only
      rw [hd]
      generalize hc0 : (tfl tw1006).getD i 0 = c0 at q1 ⊢
      have nx : ∀ {a' : Option Nat} {num' : Nat} {v3' v4' : Int32}, v3'.toInt = (num' : Int) → num' ≤ i + 1 → tat a' v4'.toInt → tpw b e bg (c0 :: (tfl tw1006).drop (i + 1)) a num = tpw b e bg ((tfl tw1006).drop (i + 1)) a' num' → xP (D59_2_1006_55 F f v2 v3' v4' (v5 + Int32.ofInt 1) mx) (fun r m' => (∃ u, tpw b e bg (c0 :: (tfl tw1006).drop (i + 1)) a num = some u ∧ r.toInt = (u : Int) ∧ kC m0 n e bg ft out wait cl k dp br ex wh m') ∨ (tpw b e bg (c0 :: (tfl tw1006).drop (i + 1)) a num = none ∧ r.toInt = -1 ∧ kC m0 n p bg ft out wait cl k dp br ex wh m')) := fun e3 l6 e4 eq => by
        rw [eq]
        exact ih h (by omega) (by omega) i5 h2 e3 l6 e4 hb
      refine xP_i (fun d => ?_) (fun d => ?_)
      · have d : r1.toInt = 32 := zt d
        have d0 : c0 = 32 := by omega
        refine xP_i (fun g => ?_) (fun g => ?_)
        · have g : v4.toInt ≠ v2.toInt := zt g
          unfold D59_2_1006_138
          refine nx (a' := some bg) (num' := num + 1) (xinc h3 (by omega)) (by omega) h4 ?_
          show (if c0 = 32 then (if a = some e then some num else _) else _) = _
          rw [if_pos d0, if_neg (fun z => by rw [z] at ha; have ha : v4.toInt = (e : Int) := ha; omega)]
        · have g : v4.toInt = v2.toInt := Decidable.not_not.mp (zf g)
          refine xP_r (Or.inl ⟨num, ?_, h3, kC_p h h2 N.2.1 he⟩)
          show (if c0 = 32 then (if a = some e then some num else _) else _) = _
          rw [if_pos d0, if_pos]
          cases a with
          | none =>
            have ha : v4.toInt = -1 := ha
            omega
          | some x =>
            have ha : v4.toInt = (x : Int) := ha
            rw [show x = e by omega]
      · have d : r1.toInt ≠ 32 := zf d
        have d0 : ¬ c0 = 32 := by omega
        have st : ∀ {a' : Option Nat}, tnx b e c0 a = a' → tpw b e bg (c0 :: (tfl tw1006).drop (i + 1)) a num = tpw b e bg ((tfl tw1006).drop (i + 1)) a' num := fun z => by
          show (if c0 = 32 then _ else tpw b e bg _ (tnx b e c0 a) num) = _
          rw [if_neg d0, z]
        have no : tnx b e c0 a = none → xP (D59_2_1006_110 F (D59_2_1006_55 F f) v2 v3 v4 v5 mx) (fun r m' => (∃ u, tpw b e bg (c0 :: (tfl tw1006).drop (i + 1)) a num = some u ∧ r.toInt = (u : Int) ∧ kC m0 n e bg ft out wait cl k dp br ex wh m') ∨ (tpw b e bg (c0 :: (tfl tw1006).drop (i + 1)) a num = none ∧ r.toInt = -1 ∧ kC m0 n p bg ft out wait cl k dp br ex wh m')) := fun z => by
          unfold D59_2_1006_110 D59_2_1006_111 D59_2_1006_138
          exact nx (a' := none) h3 (by omega) (by show (-1 : Int32).toInt = -1; decide) (st z)
        refine xP_i (fun g => ?_) (fun g => ?_)
        · have g : v4.toInt = -1 := zt g
          refine no ?_
          cases a with
          | none => rfl
          | some x =>
            have ha : v4.toInt = (x : Int) := ha
            omega
        · have g : v4.toInt ≠ -1 := zf g
          cases a with
          | none =>
            have ha : v4.toInt = -1 := ha
            omega
          | some x =>
            have ha : v4.toInt = (x : Int) := ha
            refine xP_i (fun g2 => ?_) (fun g2 => ?_)
            · have g2 : v2.toInt ≤ v4.toInt := zt g2
              exact no (if_neg (fun z => by omega))
            · have g2 : ¬ v2.toInt ≤ v4.toInt := zf g2
              refine xP_g (xib_t (by omega) (by omega)) ?_
              refine xP_b (P282_1006 h5 li) (fun r2 mx q2 => ?_)
              obtain ⟨rfl, q2⟩ := q2
              dsimp only
              have ex4 : v4.toNatClampNeg = x := by show v4.toInt.toNat = x; omega
              rw [ex4]
              have kx := k2 x (by omega)
              have q3 : r2.toInt = c0 := q2.trans hc0
              refine xP_i (fun g3 => ?_) (fun g3 => ?_)
              · have g3 : (mx.1 1 x).toInt ≠ r2.toInt := zt g3
                exact no (if_neg (fun z => by omega))
              · have g3 : (mx.1 1 x).toInt = r2.toInt := Decidable.not_not.mp (zf g3)
                unfold D59_2_1006_111 D59_2_1006_138
                exact nx (a' := some (x + 1)) h3 (by omega) ((xa1 (by show _ ≤ _ + (1 : Int); omega) (by show _ + (1 : Int) ≤ _; omega)).trans (by rw [ha]; rfl)) (st (if_pos ⟨by omega, by omega⟩))
theorem P59_18_1006 (hF : 500 ≤ F) (N : kN m0 b n) (hb : bg ≤ n) : ∀ (f : Nat) {j : Nat} {v2 : Int32} {m : xS}, kC m0 n p bg ft out wait cl k dp br ex wh m → v2.toInt = (j : Int) → bg ≤ j → j ≤ n → n - j < f → xP (D59_2_1006_18 F f v2 m) (fun r m' => (∃ u, tix (tw b bg (tS tlt b n j)) tw1006 = some u ∧ r.toInt = (u : Int) ∧ kC m0 n (tS tlt b n j) bg ft out wait cl k dp br ex wh m') ∨ (tix (tw b bg (tS tlt b n j)) tw1006 = none ∧ r.toInt = -1 ∧ kC m0 n p bg ft out wait cl k dp br ex wh m')) := by
  have fin : ∀ {j : Nat} {v2 : Int32} {m : xS}, kC m0 n p bg ft out wait cl k dp br ex wh m → v2.toInt = (j : Int) → bg ≤ j → j ≤ n → xP (D59_2_1006_44 F v2 m) (fun r m' => (∃ u, tix (tw b bg j) tw1006 = some u ∧ r.toInt = (u : Int) ∧ kC m0 n j bg ft out wait cl k dp br ex wh m') ∨ (tix (tw b bg j) tw1006 = none ∧ r.toInt = -1 ∧ kC m0 n p bg ft out wait cl k dp br ex wh m')) := by
    intro j v2 m h h2 l1 l2
    unfold D59_2_1006_44
    have z := P59_55_1006 (F := F) (b := b) (e := j) N l2 F (i := 0) (num := 0) (a := some bg) (v2 := v2) (v3 := 0) (v4 := m.1 2 3) (v5 := 0) h (by omega) (by omega) rfl h2 rfl (Nat.le_refl _) h.2.2.2.1 l1
    rw [List.drop_zero, tpw_ws l1 tw1006 0 tb1006, show (fun x : Nat => x + 0) = id from funext (fun _ => rfl), Option.map_id] at z
    exact z
  intro f
  induction f with
  | zero => intro j v2 m _ _ _ _ l; omega
  | succ f ih =>
    intro j v2 m h h2 l1 l2 l3
    obtain ⟨k1, k2⟩ := kC_n N h
    have n4 := N.2.1
    unfold D59_2_1006_18
    refine xP_i (fun c => ?_) (fun c => ?_)
    · have c : (m.1 2 1).toInt ≤ v2.toInt := zt c
      rw [tS_f (fun z => by omega)]
      exact fin h h2 l1 l2
    · have c : ¬ (m.1 2 1).toInt ≤ v2.toInt := zf c
      refine xP_g (xib_t (by omega) (by omega)) ?_
      refine xP_b P57 (fun r mx q => ?_)
      obtain ⟨rfl, q⟩ := q
      have ej : v2.toNatClampNeg = j := by show v2.toInt.toNat = j; omega
      rw [ej, k2 j (by omega)] at q
      dsimp only
      refine xP_i (fun d => ?_) (fun d => ?_)
      · have q : tlt (b j) = false := by
          rcases q with q | q
          · rw [q.1] at d
            cases d
          · exact q.2
        rw [tS_f (fun z => by rw [q] at z; cases z.2)]
        exact fin h h2 l1 l2
      · have q : tlt (b j) = true := by
          rcases q with q | q
          · exact q.2
          · rw [q.1] at d
            cases d
        rw [tS_t (P := tlt) (show j < n by omega) q]
        exact ih h (xinc h2 (by omega)) (by omega) (by omega) (by omega)
theorem P59_1006 (hF : 500 ≤ F) (N : kN m0 b n) (h : kC m0 n p bg ft out wait cl k dp br ex wh m) : xP (D59_2_1006 F m) (fun r m' => (∃ u, tix (tw b (tS tbl b n p) (tS tlt b n (tS tbl b n p))) tw1006 = some u ∧ r.toInt = (u : Int) ∧ kC m0 n (tS tlt b n (tS tbl b n p)) (tS tbl b n p) ft out wait cl k dp br ex wh m') ∨ (tix (tw b (tS tbl b n p) (tS tlt b n (tS tbl b n p))) tw1006 = none ∧ r.toInt = -1 ∧ kC m0 n (tS tbl b n p) (tS tbl b n p) ft out wait cl k dp br ex wh m')) := by
  have n4 := N.2.1
  unfold D59_2_1006
  refine xP_b (P53 hF N h) (fun v m1 q => ?_)
  obtain ⟨q, -⟩ := q
  have l1 : tS tbl b n p ≤ n := q.2.2.1.2
  dsimp only
  exact P59_18_1006 hF N l1 F (kC_bg q q.2.2.1.1 (by omega)) q.2.2.1.1 (Nat.le_refl _) l1 (by omega)
end KW
end
section
/-! A machine that reads rules, as the class does: place, values and facts counted, steps (the last first), what waits (the last first), clauses, what is expected, where. -/
abbrev tSt : Type := Nat × Nat × List Int × List Int × Nat × Nat × Nat
def tcl (o : Int) : Int := if o ≤ 3 then o else if o ≤ 8 then 4 else if o ≤ 10 then 9 else 11
def tSe (o : Int) : List Int → List Int → List Int × List Int × Nat
  | [], out => (out, [], 0)
  | w :: ws, out => if tcl o ≤ tcl w then ((tSe o ws (w :: out)).1, (tSe o ws (w :: out)).2.1, (tSe o ws (w :: out)).2.2 + (if w = 3 then 1 else 0)) else (out, w :: ws, 0)
def tdp : List Int → Nat
  | [] => 0
  | w :: ws => (if w = 0 ∨ w = 3 then 1 else 0) + tdp ws
def tbr : List Int → Nat
  | [] => 0
  | w :: ws => (if w = 0 then 1 else 0) + tbr ws
def topr (c : Int) : Int := if c = 43 then 9 else if c = 45 then 10 else if c = 42 then 11 else if c = 47 then 12 else if c = 37 then 13 else -1
section TMAC
variable (b : Nat → Int) (n : Nat)
abbrev tsk (p : Nat) : Nat := tS tbl b n p
abbrev tle (p : Nat) : Nat := tS tlt b n (tS tbl b n p)
abbrev tde (p : Nat) : Nat := tS tdg b n (tS tbl b n p)
abbrev twd (p : Nat) : List Int := tw b (tS tbl b n p) (tS tlt b n (tS tbl b n p))
def tval (p k : Nat) : Int ⊕ (Nat × Int) :=
  if tdg (tsg b n (tsk b n p)) = true then
    (if 5 < tde b n p - tsk b n p then .inl (1 + 8 * (tsk b n p : Int) + 1) else if 60 ≤ k then .inl (1 + 8 * (tsk b n p : Int) + 3) else .inr (tde b n p, 40 + tv b (tsk b n p) (tde b n p - tsk b n p)))
  else match tix (twd b n p) tw1004 with
    | none => .inl (1 + 8 * (tsk b n p : Int))
    | some u => if 60 ≤ k then .inl (1 + 8 * (tsk b n p : Int) + 3) else .inr (tle b n p, 20 + (u : Int))
def tvs (p k : Nat) (out wait : List Int) (cl wh : Nat) : Int ⊕ tSt := match tval b n p k with
  | .inl f => .inl f
  | .inr x => .inr (x.1, k + 1, x.2 :: out, wait, cl, 3, wh)
def tendc (a : Int) (p k : Nat) (out wait : List Int) (cl wh : Nat) : Int ⊕ tSt :=
  if tsg b n (tsk b n p) = 59 then .inr (tsk b n p + 1, k, a :: (tSe 1 wait out).1, (tSe 1 wait out).2.1, cl, 0, wh)
  else if tsg b n (tsk b n p) = -1 then .inr (tsk b n p, k, a :: (tSe 1 wait out).1, (tSe 1 wait out).2.1, cl, 4, wh)
  else .inl (1 + 8 * (tsk b n p : Int))
def tlnd (p k : Nat) (out wait : List Int) (cl : Nat) : Int ⊕ tSt := match tix (twd b n p) tw1002 with
  | none => .inl (1 + 8 * (tsk b n p : Int))
  | some _ => if 12 ≤ cl then .inl (1 + 8 * (tsk b n p : Int) + 4) else .inr (tle b n p, k, out, wait, cl + 1, 2, 0)
def tfac (p k : Nat) (out wait : List Int) (cl wh : Nat) : Int ⊕ tSt :=
  if tsg b n (tsk b n p) = 91 then (if 10 ≤ tdp wait then .inl (1 + 8 * (tsk b n p : Int) + 2) else .inr (tsk b n p + 1, k, out, 0 :: wait, cl, 1, wh))
  else match tix (twd b n p) tw1003 with
    | some _ => if 10 ≤ tdp wait then .inl (1 + 8 * (tsk b n p : Int) + 2) else .inr (tle b n p, k, out, 3 :: wait, cl, 1, wh)
    | none => tvs b n p k out wait cl 1
def tsig (p k : Nat) (out wait : List Int) (cl : Nat) : Int ⊕ tSt :=
  if tsg b n (tsk b n p) = 60 ∨ tsg b n (tsk b n p) = 61 ∨ tsg b n (tsk b n p) = 62 then
    (if 60 ≤ k then .inl (1 + 8 * (tsk b n p : Int) + 3)
    else if tsg b n (tsk b n p) = 61 then .inr (tsk b n p + 1, k + 1, (tSe 6 wait out).1, 6 :: (tSe 6 wait out).2.1, cl, 2, 2)
    else if tsg b n (tsk b n p + 1) = 61 then .inr (tsk b n p + 2, k + 1, (tSe (if tsg b n (tsk b n p) = 60 then 5 else 7) wait out).1, (if tsg b n (tsk b n p) = 60 then 5 else 7) :: (tSe (if tsg b n (tsk b n p) = 60 then 5 else 7) wait out).2.1, cl, 2, 2)
    else .inr (tsk b n p + 1, k + 1, (tSe (if tsg b n (tsk b n p) = 60 then 4 else 8) wait out).1, (if tsg b n (tsk b n p) = 60 then 4 else 8) :: (tSe (if tsg b n (tsk b n p) = 60 then 4 else 8) wait out).2.1, cl, 2, 2))
  else .inl (1 + 8 * (tsk b n p : Int))
def tenf (p k : Nat) (out wait : List Int) (cl wh : Nat) : Int ⊕ tSt := match tix (twd b n p) tw1006 with
  | some u => .inr (tle b n p, k, (tSe (if u = 0 then 2 else 1) wait out).1, (if u = 0 then 2 else 1) :: (tSe (if u = 0 then 2 else 1) wait out).2.1, cl, 1, wh)
  | none => if tbr wait = 0 then tendc b n 15 p k out wait cl wh else if tsg b n (tsk b n p) = 93 then .inr (tsk b n p + 1, k, (tSe 1 wait out).1, (tSe 1 wait out).2.1.tail, cl, 3, 3) else .inl (1 + 8 * (tsk b n p : Int))
def tena (p k : Nat) (out wait : List Int) (cl wh : Nat) : Int ⊕ tSt := match tix (twd b n p) tw1005 with
  | some _ => .inr (tle b n p, k, (tSe 1 wait out).1, (tSe 1 wait out).2.1, cl, 1, wh)
  | none => tendc b n 14 p k out wait cl wh
def tjnt (p k : Nat) (out wait : List Int) (cl wh : Nat) : Int ⊕ tSt :=
  if wh ≠ 3 ∧ topr (tsg b n (tsk b n p)) ≠ -1 then .inr (tsk b n p + 1, k, (tSe (topr (tsg b n (tsk b n p))) wait out).1, topr (tsg b n (tsk b n p)) :: (tSe (topr (tsg b n (tsk b n p))) wait out).2.1, cl, 2, wh)
  else if wh = 0 then tena b n p k out wait cl wh
  else if wh = 1 then tsig b n p k out wait cl
  else tenf b n p k out wait cl wh
def tstp (s : tSt) : Int ⊕ tSt :=
  if s.2.2.2.2.2.1 = 0 then tlnd b n s.1 s.2.1 s.2.2.1 s.2.2.2.1 s.2.2.2.2.1
  else if s.2.2.2.2.2.1 = 1 then tfac b n s.1 s.2.1 s.2.2.1 s.2.2.2.1 s.2.2.2.2.1 s.2.2.2.2.2.2
  else if s.2.2.2.2.2.1 = 2 then tvs b n s.1 s.2.1 s.2.2.1 s.2.2.2.1 s.2.2.2.2.1 s.2.2.2.2.2.2
  else if s.2.2.2.2.2.1 = 3 then tjnt b n s.1 s.2.1 s.2.2.1 s.2.2.2.1 s.2.2.2.2.1 s.2.2.2.2.2.2
  else .inl 0
end TMAC
theorem tSe_len (o : Int) : ∀ (ws out : List Int), (tSe o ws out).1.length + (tSe o ws out).2.1.length = out.length + ws.length := by
  intro ws
  induction ws with
  | nil => intro out; rfl
  | cons w ws ih =>
    intro out
    unfold tSe
    split
    · have := ih (w :: out)
      rw [List.length_cons] at this
      rw [List.length_cons]
      dsimp only
      omega
    · rfl
theorem tSe_sub (o : Int) : ∀ (ws out : List Int), ∀ w ∈ (tSe o ws out).2.1, w ∈ ws := by
  intro ws
  induction ws with
  | nil => intro out w h; exact h
  | cons v ws ih =>
    intro out w h
    unfold tSe at h
    split at h
    · exact List.mem_cons_of_mem _ (ih _ w h)
    · exact h
theorem tSe_dp {o : Int} (ho : 1 ≤ tcl o) : ∀ (ws out : List Int), tdp ws = tdp (tSe o ws out).2.1 + (tSe o ws out).2.2 ∧ tbr ws = tbr (tSe o ws out).2.1 := by
  intro ws
  induction ws with
  | nil => intro out; exact ⟨rfl, rfl⟩
  | cons w ws ih =>
    intro out
    unfold tSe
    split
    · next c =>
      obtain ⟨a1, a2⟩ := ih (w :: out)
      have w0 : w ≠ 0 := fun z => by
        rw [z] at c
        have : tcl 0 = 0 := rfl
        omega
      constructor
      · show (if w = 0 ∨ w = 3 then 1 else 0) + tdp ws = _
        dsimp only
        by_cases z : w = 3
        · rw [if_pos (Or.inr z), if_pos z]
          omega
        · rw [if_neg (fun y => y.elim w0 z), if_neg z]
          omega
      · show (if w = 0 then 1 else 0) + tbr ws = _
        rw [if_neg w0, a2, Nat.zero_add]
    · exact ⟨rfl, rfl⟩
/-- the first that stays waiting binds less -/
theorem tSe_hd (o : Int) : ∀ (ws out : List Int) (w : Int) (vs : List Int), (tSe o ws out).2.1 = w :: vs → tcl w < tcl o := by
  intro ws
  induction ws with
  | nil => intro out w vs h; cases h
  | cons u ws ih =>
    intro out w vs h
    unfold tSe at h
    split at h
    · exact ih _ w vs h
    · next c =>
      have h : u :: ws = w :: vs := h
      rw [← (List.cons.inj h).1]
      omega
theorem tdp_len : ∀ ws : List Int, tdp ws ≤ ws.length := by
  intro ws
  induction ws with
  | nil => exact Nat.le_refl _
  | cons w ws ih =>
    show (if w = 0 ∨ w = 3 then 1 else 0) + tdp ws ≤ ws.length + 1
    split <;> omega
theorem tbr_len : ∀ ws : List Int, tbr ws ≤ ws.length := by
  intro ws
  induction ws with
  | nil => exact Nat.le_refl _
  | cons w ws ih =>
    show (if w = 0 then 1 else 0) + tbr ws ≤ ws.length + 1
    split <;> omega
end
section
/-! The class's reader of rules: each method does a step of the machine. -/
def kF (m0 : xS) (n : Nat) (f : Int) (m : xS) : Prop := ∃ (p bg : Nat) (out wait : List Int) (cl k dp br ex wh : Int), kC m0 n p bg f out wait cl k dp br ex wh m
def kI (s : tSt) : Prop := s.2.2.1.length + s.2.2.2.1.length + (if s.2.2.2.2.2.1 = 0 ∨ s.2.2.2.2.2.1 = 4 then 0 else 1) ≤ s.1 ∧ s.2.1 ≤ 60 ∧ s.2.2.2.2.1 ≤ 12 ∧ ∀ w ∈ s.2.2.2.1, 0 ≤ w ∧ w ≤ (13 : Int)
def kS (m0 : xS) (n : Nat) (s : tSt) (m : xS) : Prop := (∃ bg : Nat, kC m0 n s.1 bg 0 s.2.2.1 s.2.2.2.1 (s.2.2.2.2.1 : Int) (s.2.1 : Int) (tdp s.2.2.2.1 : Int) (tbr s.2.2.2.1 : Int) (s.2.2.2.2.2.1 : Int) (s.2.2.2.2.2.2 : Int) m) ∧ kI s
def kR (m0 : xS) (n : Nat) (r : Int ⊕ tSt) (m : xS) : Prop := match r with
  | .inl f => f ≠ 0 ∧ kF m0 n f m
  | .inr s => kS m0 n s m
section KRD
variable {m0 m : xS} {b : Nat → Int} {n p bg : Nat} {ft : Int} {out wait : List Int} {cl k dp br ex wh : Int} {F : Nat}
theorem P48 {v : Int32} (h : kC m0 n p bg ft out wait cl k dp br ex wh m) (l : out.length < 400) : xP (D48_6 F v m) (fun _ m' => kC m0 n p bg ft (v.toInt :: out) wait cl k dp br ex wh m' ∧ m'.1 8 = m.1 8) := by
  have h6 := h.2.2.2.2.2.1.1
  have ei : (m.1 6 1).toNatClampNeg = out.length := by show (m.1 6 1).toInt.toNat = _; omega
  unfold D48_6
  refine xP_i (fun c => ?_) (fun c => xP_g (xib_t (by omega) (by omega)) (xP_r ?_))
  · have c : (400 : Int) ≤ (m.1 6 1).toInt := zt c
    omega
  · rw [ei]
    exact ⟨kC_out h l ((xa1 (by show _ ≤ _ + (1 : Int); omega) (by show _ + (1 : Int) ≤ _; omega)).trans (by rw [h6]; rfl)), (xu_row (by decide)).trans (xu_row (by decide))⟩
theorem P47 {v : Int32} (h : kC m0 n p bg ft out wait cl k dp br ex wh m) (l : wait.length < 400) : xP (D47_6 F v m) (fun _ m' => kC m0 n p bg ft out (v.toInt :: wait) cl k dp br ex wh m') := by
  have h7 := h.2.2.2.2.2.2.1.1
  have ei : (m.1 6 3).toNatClampNeg = wait.length := by show (m.1 6 3).toInt.toNat = _; omega
  unfold D47_6
  refine xP_i (fun c => ?_) (fun c => xP_g (xib_t (by omega) (by omega)) (xP_r ?_))
  · have c : (400 : Int) ≤ (m.1 6 3).toInt := zt c
    omega
  · rw [ei]
    exact kC_wait h l ((xa1 (by show _ ≤ _ + (1 : Int); omega) (by show _ + (1 : Int) ≤ _; omega)).trans (by rw [h7]; rfl))
theorem P26 {v : Int32} : xP (D26 F v m) (fun r m' => m' = m ∧ r.toInt = tcl v.toInt) := by
  unfold D26 tcl
  refine xP_i (fun c => xP_i (fun d => xP_i (fun e => xP_r ⟨rfl, ?_⟩) (fun e => xP_r ⟨rfl, ?_⟩)) (fun d => xP_r ⟨rfl, ?_⟩)) (fun c => xP_r ⟨rfl, ?_⟩)
  · have c : (3 : Int) < v.toInt := zt c
    have d : (8 : Int) < v.toInt := zt d
    have e : (10 : Int) < v.toInt := zt e
    rw [if_neg (by omega), if_neg (by omega), if_neg (by omega)]
    rfl
  · have c : (3 : Int) < v.toInt := zt c
    have d : (8 : Int) < v.toInt := zt d
    have e : ¬ (10 : Int) < v.toInt := zf e
    rw [if_neg (by omega), if_neg (by omega), if_pos (by omega)]
    rfl
  · have c : (3 : Int) < v.toInt := zt c
    have d : ¬ (8 : Int) < v.toInt := zf d
    rw [if_neg (by omega), if_pos (by omega)]
    rfl
  · have c : ¬ (3 : Int) < v.toInt := zf c
    rw [if_pos (by omega)]
theorem P46_0 {o : Int32} : ∀ (f : Nat) {out wait : List Int} {dp : Int} {m : xS}, kC m0 n p bg ft out wait cl k dp br ex wh m → out.length + wait.length ≤ 400 → wait.length < f → (wait.length : Int) ≤ dp + 1000 → dp ≤ 1000 → xP (D46_6_0 F f o m) (fun _ m' => kC m0 n p bg ft (tSe o.toInt wait out).1 (tSe o.toInt wait out).2.1 cl k (dp - ((tSe o.toInt wait out).2.2 : Nat)) br ex wh m') := by
  intro f
  induction f with
  | zero => intro out wait dp m _ _ l; omega
  | succ f ih =>
    intro out wait dp m h l1 l2 l3 l4
    have h7 := h.2.2.2.2.2.2.1.1
    have h10 := h.2.2.2.2.2.2.2.2.2.1
    unfold D46_6_0
    cases wait with
    | nil =>
      refine xP_i (fun c => xP_r ?_) (fun c => ?_)
      · show kC m0 n p bg ft out [] cl k (dp - ((0 : Nat) : Int)) br ex wh m
        rw [show dp - ((0 : Nat) : Int) = dp from Int.sub_zero dp]
        exact h
      · have c : ¬ (m.1 6 3).toInt ≤ 0 := zf c
        have : (m.1 6 3).toInt = 0 := h7
        omega
    | cons w ws =>
      rw [List.length_cons] at l1 l2 l3 h7
      have s1 : ((m.1 6 3) - 1).toInt = (ws.length : Int) := (xs1 (by show _ ≤ _ - (1 : Int); omega) (by show _ - (1 : Int) ≤ _; omega)).trans (by show _ - (1 : Int) = _; omega)
      have ei : ((m.1 6 3) - 1).toNatClampNeg = ws.length := by show ((m.1 6 3) - 1).toInt.toNat = _; omega
      obtain ⟨hp, hw⟩ := kC_pop (v := (m.1 6 3) - 1) h s1
      refine xP_i (fun c => ?_) (fun c => ?_)
      · have c : (m.1 6 3).toInt ≤ 0 := zt c
        omega
      · refine xP_g (xib_t (by omega) (by omega)) ?_
        refine xP_b P26 (fun r1 m1 q1 => ?_)
        obtain ⟨rfl, q1⟩ := q1
        refine xP_b P26 (fun r2 m2 q2 => ?_)
        obtain ⟨rfl, q2⟩ := q2
        dsimp only at q1 q2 ⊢
        rw [ei] at q1 ⊢
        rw [hw] at q1
        refine xP_i (fun d => xP_r ?_) (fun d => ?_)
        · have d : r1.toInt < r2.toInt := zt d
          unfold tSe
          rw [if_neg (by omega)]
          show kC m0 n p bg ft out (w :: ws) cl k (dp - ((0 : Nat) : Int)) br ex wh m2
          rw [show dp - ((0 : Nat) : Int) = dp from Int.sub_zero dp]
          exact h
        · have d : ¬ r1.toInt < r2.toInt := zf d
          refine xP_g (xib_t (by omega) (by omega)) ?_
          refine xP_b (P48 (v := m2.1 8 ws.length) hp (by omega)) (fun _ m3 q3 => ?_)
          obtain ⟨q3, q4⟩ := q3
          rw [hw] at q3
          have h7b := q3.2.2.2.2.2.2.1.1
          have e3 : (m3.1 6 3).toNatClampNeg = ws.length := by show (m3.1 6 3).toInt.toNat = _; omega
          have e4 : m3.1 8 ws.length = m2.1 8 ws.length := by rw [q4, xu_row (by decide)]
          dsimp only
          refine xP_g (xib_t (by omega) (by omega)) ?_
          rw [e3, e4]
          have un : tSe o.toInt (w :: ws) out = ((tSe o.toInt ws (w :: out)).1, (tSe o.toInt ws (w :: out)).2.1, (tSe o.toInt ws (w :: out)).2.2 + (if w = 3 then 1 else 0)) := if_pos (by omega)
          rw [un]
          refine xP_i (fun g => ?_) (fun g => ?_)
          · have g : (m2.1 8 ws.length).toInt ≠ 3 := zt g
            rw [if_neg (by omega)]
            exact ih q3 (by rw [List.length_cons]; omega) (by omega) (by omega) l4
          · have g : (m2.1 8 ws.length).toInt = 3 := Decidable.not_not.mp (zf g)
            rw [if_pos (by omega)]
            have h10b := q3.2.2.2.2.2.2.2.2.2.1
            have z := ih (kC_dp (v := m3.1 6 6 - 1) (x := dp - 1) q3 ((xs1 (by show _ ≤ _ - (1 : Int); omega) (by show _ - (1 : Int) ≤ _; omega)).trans (by rw [h10b]; rfl))) (by rw [List.length_cons]; omega) (by omega) (by omega) (by omega)
            rw [show dp - 1 - (((tSe o.toInt ws (w :: out)).2.2 : Nat) : Int) = dp - (((tSe o.toInt ws (w :: out)).2.2 + 1 : Nat) : Int) by omega] at z
            exact z
theorem P46 {o : Int32} (hF : 500 ≤ F) (h : kC m0 n p bg ft out wait cl k dp br ex wh m) (l : out.length + wait.length ≤ 400) (l3 : (wait.length : Int) ≤ dp + 1000) (l4 : dp ≤ 1000) : xP (D46_6 F o m) (fun _ m' => kC m0 n p bg ft (tSe o.toInt wait out).1 (tSe o.toInt wait out).2.1 cl k (dp - ((tSe o.toInt wait out).2.2 : Nat)) br ex wh m') := P46_0 F h l (by omega) l3 l4
theorem P45 {o : Int32} (hF : 500 ≤ F) (h : kC m0 n p bg ft out wait cl k dp br ex wh m) (l : out.length + wait.length < 400) (l3 : (wait.length : Int) ≤ dp + 1000) (l4 : dp ≤ 1000) : xP (D45_6 F o m) (fun _ m' => kC m0 n p bg ft (tSe o.toInt wait out).1 (o.toInt :: (tSe o.toInt wait out).2.1) cl k (dp - ((tSe o.toInt wait out).2.2 : Nat)) br ex wh m') := by
  unfold D45_6
  refine xP_b (P46 hF h (by omega) l3 l4) (fun _ m1 q => ?_)
  have := tSe_len o.toInt wait out
  refine xP_b (P47 q (by omega)) (fun _ m2 q2 => xP_r q2)
/-- countOne -/
theorem P37 {a : Int32} (h : kC m0 n p bg ft out wait cl k dp br ex wh m) (a1 : 0 ≤ a.toInt) (a2 : a.toInt ≤ 400) (k1 : 0 ≤ k) (k2 : k ≤ 1000) : xP (D37_6_2 F a m) (fun _ m' => kC m0 n p bg (if 60 ≤ k then trf ft (1 + 8 * a.toInt + 3) else ft) out wait cl (k + 1) dp br ex wh m') := by
  have h9 := h.2.2.2.2.2.2.2.2.1
  have inc : ∀ {ft : Int} {m : xS}, kC m0 n p bg ft out wait cl k dp br ex wh m → kC m0 n p bg ft out wait cl (k + 1) dp br ex wh (xu m 6 5 ((m.1 6 5) + 1)) := fun {ft m} h => kC_k h (by
    have h9 := h.2.2.2.2.2.2.2.2.1
    exact (xa1 (by show _ ≤ _ + (1 : Int); omega) (by show _ + (1 : Int) ≤ _; omega)).trans (by rw [h9]; rfl))
  unfold D37_6_2 D37_6_2_15
  refine xP_i (fun c => xP_r ?_) (fun c => ?_)
  · have c : (m.1 6 5).toInt < 60 := zt c
    rw [if_neg (by omega)]
    exact inc h
  · have c : ¬ (m.1 6 5).toInt < 60 := zf c
    rw [if_pos (by omega)]
    exact xP_b (P52 h a1 a2 (by decide) (by decide)) (fun _ m1 q => xP_r (inc q))
/-- readValue -/
theorem P36 {kk : Nat} (hF : 500 ≤ F) (N : kN m0 b n) (h : kC m0 n p bg 0 out wait cl (kk : Int) dp br ex wh m) (l : out.length < 400) (hk : kk ≤ 60) : xP (D36_6_2 F m) (fun _ m' => (∃ f, tval b n p kk = .inl f ∧ f ≠ 0 ∧ kF m0 n f m') ∨ (∃ x bg', tval b n p kk = .inr x ∧ kC m0 n x.1 bg' 0 (x.2 :: out) wait cl ((kk + 1 : Nat) : Int) dp br 3 wh m')) := by
  have n4 := N.2.1
  have pn : p ≤ n := h.2.2.1.2
  have fin : ∀ {p' : Nat} {ft : Int} {c : Int} {m : xS}, kC m0 n p' (tS tbl b n p) ft (c :: out) wait cl (kk : Int) dp br ex wh m → xP (D36_6_2_40 F m) (fun _ m' => kC m0 n p' (tS tbl b n p) (if (60 : Int) ≤ (kk : Int) then trf ft (1 + 8 * (tS tbl b n p : Int) + 3) else ft) (c :: out) wait cl ((kk : Int) + 1) dp br 3 wh m') := by
    intro p' ft c m h
    have h4 := h.2.2.2.1
    have l4 : tS tbl b n p ≤ n := tS_le p pn
    unfold D36_6_2_40
    refine xP_b (P37 h (by omega) (by omega) (by omega) (by omega)) (fun _ m1 q => xP_r ?_)
    rw [h4] at q
    exact kC_ex q rfl
  unfold D36_6_2
  refine xP_b (P53 hF N h) (fun v m1 q => ?_)
  obtain ⟨q, qv⟩ := q
  have lp : tS tbl b n p ≤ n := q.2.2.1.2
  refine xP_b P56 (fun r mx q1 => ?_)
  obtain ⟨rfl, q1⟩ := q1
  dsimp only at q1 ⊢
  rw [qv] at q1
  refine xP_i (fun c => ?_) (fun c => ?_)
  · have dg : tdg (tsg b n (tsk b n p)) = false := by
      rcases q1 with q1 | q1
      · rw [q1.1] at c
        cases c
      · exact q1.2
    have tv0 : tval b n p kk = (match tix (twd b n p) tw1004 with
      | none => .inl (1 + 8 * (tsk b n p : Int))
      | some u => if 60 ≤ kk then .inl (1 + 8 * (tsk b n p : Int) + 3) else .inr (tle b n p, 20 + (u : Int))) := by
      unfold tval
      rw [if_neg (by rw [dg]; decide)]
      cases tix (twd b n p) tw1004 <;> rfl
    refine xP_b (P60_1004 hF N q) (fun r2 m2 q2 => ?_)
    rw [tS_id] at q2
    rcases q2 with ⟨u, a1, a2, a3⟩ | ⟨a1, a2, a3⟩
    · have ub : u < 13 := by
        have : ∀ (ws : List (List Int)) (w : List Int) (u : Nat), tix w ws = some u → u < ws.length := by
          intro ws
          induction ws with
          | nil => intro w u z; cases z
          | cons y ys ih =>
            intro w u z
            unfold tix at z
            split at z
            · cases z
              exact Nat.succ_pos _
            · cases t : tix w ys with
              | none => rw [t] at z; cases z
              | some t2 =>
                rw [t] at z
                have := ih w t2 t
                have z : t2 + 1 = u := Option.some.inj z
                rw [List.length_cons]
                omega
        exact this _ _ _ a1
      have ev : (20 + r2).toInt = 20 + (u : Int) := (xa1 (by show _ ≤ (20 : Int) + _; omega) (by show (20 : Int) + _ ≤ _; omega)).trans (by rw [a2]; rfl)
      refine xP_b (P48 (v := 20 + r2) a3 l) (fun _ m3 q3 => ?_)
      obtain ⟨q3, -⟩ := q3
      rw [ev] at q3
      refine xP_m (fin q3) (fun _ m4 q4 => ?_)
      rw [tv0]
      have a1 : tix (twd b n p) tw1004 = some u := a1
      rw [a1]
      by_cases z : 60 ≤ kk
      · rw [if_pos (by omega)] at q4
        refine Or.inl ⟨_, if_pos z, ?_, _, _, _, _, _, _, _, _, _, _, q4⟩
        show (1 + 8 * (tS tbl b n p : Int) + 3) ≠ 0
        omega
      · rw [if_neg (by omega)] at q4
        exact Or.inr ⟨_, _, if_neg z, q4⟩
    · refine xP_b (P48 (v := 20 + r2) a3 l) (fun _ m3 q3 => ?_)
      obtain ⟨q3, -⟩ := q3
      refine xP_m (fin q3) (fun _ m4 q4 => ?_)
      rw [tv0]
      have a1 : tix (twd b n p) tw1004 = none := a1
      rw [a1]
      have e5 : trf 0 (1 + 8 * (tS tbl b n p : Int)) = 1 + 8 * (tS tbl b n p : Int) := if_pos rfl
      have e6 : trf (1 + 8 * (tS tbl b n p : Int)) (1 + 8 * (tS tbl b n p : Int) + 3) = 1 + 8 * (tS tbl b n p : Int) := if_neg (by omega)
      rw [e5, e6, ite_self] at q4
      refine Or.inl ⟨_, rfl, ?_, _, _, _, _, _, _, _, _, _, _, q4⟩
      show (1 + 8 * (tS tbl b n p : Int)) ≠ 0
      omega
  · have dg : tdg (tsg b n (tsk b n p)) = true := by
      rcases q1 with q1 | q1
      · exact q1.2
      · rw [q1.1] at c
        cases c
    have ln : tS tbl b n p < n := by
      by_cases z : tS tbl b n p < n
      · exact z
      · unfold tsg tsk at dg
        rw [if_neg z] at dg
        cases dg
    have dg2 : tdg (b (tS tbl b n p)) = true := by
      unfold tsg tsk at dg
      rw [if_pos ln] at dg
      exact dg
    have ld : tS tbl b n p < tS tdg b n (tS tbl b n p) := tS_lt ln dg2
    have tv0 : tval b n p kk = (if 5 < tde b n p - tsk b n p then .inl (1 + 8 * (tsk b n p : Int) + 1) else if 60 ≤ kk then .inl (1 + 8 * (tsk b n p : Int) + 3) else .inr (tde b n p, 40 + tv b (tsk b n p) (tde b n p - tsk b n p))) := by
      unfold tval
      rw [if_pos dg]
    refine xP_b (P58 hF N q) (fun r2 m2 q2 => ?_)
    rw [tS_id] at q2
    obtain ⟨a2, a3⟩ := q2
    have tb := tv_b (b := b) (p := tS tbl b n p) (n := tS tdg b n (tS tbl b n p) - tS tbl b n p) (fun j j1 j2 j3 => by
      have := (tS_in (P := tdg) (b := b) (n := n) (tS tbl b n p) j j1 (by omega)).2
      unfold tdg at this
      simp only [Bool.and_eq_true, decide_eq_true_eq] at this
      exact this) (min (tS tdg b n (tS tbl b n p) - tS tbl b n p) 5) (Nat.min_le_right _ _) (Nat.min_le_left _ _)
    have tb2 : r2.toInt < 100000 := by
      rw [a2]
      refine Int.lt_of_lt_of_le tb.2 ?_
      have : min (tS tdg b n (tS tbl b n p) - tS tbl b n p) 5 = 0 ∨ min (tS tdg b n (tS tbl b n p) - tS tbl b n p) 5 = 1 ∨ min (tS tdg b n (tS tbl b n p) - tS tbl b n p) 5 = 2 ∨ min (tS tdg b n (tS tbl b n p) - tS tbl b n p) 5 = 3 ∨ min (tS tdg b n (tS tbl b n p) - tS tbl b n p) 5 = 4 ∨ min (tS tdg b n (tS tbl b n p) - tS tbl b n p) 5 = 5 := by omega
      rcases this with z | z | z | z | z | z <;> (rw [z]; decide)
    have tb1 : 0 ≤ r2.toInt := by rw [a2]; exact tb.1
    have ev : (40 + r2).toInt = 40 + r2.toInt := (xa1 (by show _ ≤ (40 : Int) + _; omega) (by show (40 : Int) + _ ≤ _; omega)).trans rfl
    refine xP_b (P48 (v := 40 + r2) a3 l) (fun _ m3 q3 => ?_)
    obtain ⟨q3, -⟩ := q3
    rw [ev] at q3
    refine xP_m (fin q3) (fun _ m4 q4 => ?_)
    rw [tv0]
    have lo0 : (0 : Int32).toInt = 0 := rfl
    have hi0 : (99999 : Int32).toInt = 99999 := rfl
    rw [lo0, hi0] at q4
    by_cases z : 5 < tS tdg b n (tS tbl b n p) - tS tbl b n p
    · have e5 : tnf 0 99999 (tS tbl b n p) (tS tdg b n (tS tbl b n p)) r2.toInt 0 = 1 + 8 * (tS tbl b n p : Int) + 1 := by
        unfold tnf
        rw [if_neg (by omega), if_pos (Or.inl z)]
        exact if_pos rfl
      have e6 : trf (1 + 8 * (tS tbl b n p : Int) + 1) (1 + 8 * (tS tbl b n p : Int) + 3) = 1 + 8 * (tS tbl b n p : Int) + 1 := if_neg (by omega)
      rw [e5, e6, ite_self] at q4
      refine Or.inl ⟨_, if_pos z, ?_, _, _, _, _, _, _, _, _, _, _, q4⟩
      show (1 + 8 * (tS tbl b n p : Int) + 1) ≠ 0
      omega
    · have e5 : tnf 0 99999 (tS tbl b n p) (tS tdg b n (tS tbl b n p)) r2.toInt 0 = 0 := by
        unfold tnf
        rw [if_neg (by omega), if_neg (by omega)]
      have e7 : r2.toInt = tv b (tS tbl b n p) (tS tdg b n (tS tbl b n p) - tS tbl b n p) := by rw [a2, show min (tS tdg b n (tS tbl b n p) - tS tbl b n p) 5 = tS tdg b n (tS tbl b n p) - tS tbl b n p by omega]
      rw [e5] at q4
      by_cases z2 : 60 ≤ kk
      · rw [if_pos (by omega)] at q4
        refine Or.inl ⟨_, (if_neg z).trans (if_pos z2), ?_, _, _, _, _, _, _, _, _, _, _, q4⟩
        show (1 + 8 * (tS tbl b n p : Int) + 3) ≠ 0
        omega
      · rw [if_neg (by omega), e7] at q4
        exact Or.inr ⟨_, _, (if_neg z).trans (if_neg z2), q4⟩
end KRD
end
section
/-! The class's reader of rules, second half: a turn of its loop is a step of the machine. -/
theorem tix1 {w v : List Int} {u : Nat} (h : tix w [v] = some u) : w = v ∧ u = 0 := by
  unfold tix at h
  split at h
  · next e => exact ⟨e.symm, (Option.some.inj h).symm⟩
  · cases h
theorem tix2 {w v1 v2 : List Int} {u : Nat} (h : tix w [v1, v2] = some u) : (w = v1 ∧ u = 0) ∨ (w = v2 ∧ u = 1) := by
  unfold tix at h
  split at h
  · next e => exact Or.inl ⟨e.symm, (Option.some.inj h).symm⟩
  · cases t : tix w [v2] with
    | none => rw [t] at h; cases h
    | some t2 =>
      obtain ⟨e, z⟩ := tix1 t
      rw [t, z] at h
      exact Or.inr ⟨e, (Option.some.inj h).symm⟩
theorem tw_eq {b : Nat → Int} {p e : Nat} {v : List Int} (h : tw b p e = v) : e - p = v.length := by
  rw [← h, tw_len]
theorem tendc_id (b : Nat → Int) (n : Nat) (a : Int) (p k : Nat) (out wait : List Int) (cl wh : Nat) : tendc b n a (tS tbl b n p) k out wait cl wh = tendc b n a p k out wait cl wh := by
  unfold tendc tsk
  rw [tS_id]
theorem tsg_lt {b : Nat → Int} {n p : Nat} {c : Int} (h : tsg b n p = c) (hc : c ≠ -1) : p < n ∧ b p = c := by
  unfold tsg at h
  split at h
  · next l => exact ⟨l, h⟩
  · exact absurd h.symm hc
section KST
variable {m0 m : xS} {b : Nat → Int} {n p bg k cl wh : Nat} {out wait : List Int} {F : Nat}
/-- readLend -/
theorem P34 {ww : Int} (hF : 500 ≤ F) (N : kN m0 b n) (h : kC m0 n p bg 0 out wait (cl : Int) (k : Int) (tdp wait : Int) (tbr wait : Int) ((0 : Nat) : Int) ww m) (I : kI (p, k, out, wait, cl, 0, wh)) : xP (D34_6_2 F m) (fun _ m' => kR m0 n (tlnd b n p k out wait cl) m') := by
  obtain ⟨i1, i2, i3, i4⟩ := I
  have i1 : out.length + wait.length + 0 ≤ p := i1
  have i2 : k ≤ 60 := i2
  have i3 : cl ≤ 12 := i3
  have n4 := N.2.1
  have pn : p ≤ n := h.2.2.1.2
  have g1 : p ≤ tS tbl b n p := tS_ge p
  have g2 : tS tbl b n p ≤ n := tS_le p pn
  have fin : ∀ {p' bg' : Nat} {ft : Int} {m : xS}, kC m0 n p' bg' ft out wait (cl : Int) (k : Int) (tdp wait : Int) (tbr wait : Int) ((0 : Nat) : Int) ww m → kC m0 n p' bg' ft out wait ((cl + 1 : Nat) : Int) (k : Int) (tdp wait : Int) (tbr wait : Int) ((2 : Nat) : Int) ((0 : Nat) : Int) (xu (xu (xu m 6 4 ((m.1 6 4) + 1)) 6 9 0) 6 8 2) := fun {p' bg' ft m} h => by
    have h8 := h.2.2.2.2.2.2.2.1
    exact kC_ex (kC_wh (kC_cl h ((xa1 (by show _ ≤ _ + (1 : Int); omega) (by show _ + (1 : Int) ≤ _; omega)).trans (by rw [h8]; rfl))) rfl) rfl
  unfold D34_6_2 D34_6_2_25
  refine xP_b (P60_1002 hF N h) (fun v m1 q => ?_)
  rcases q with ⟨u, a1, a2, a3⟩ | ⟨a1, a2, a3⟩
  · have h8 := a3.2.2.2.2.2.2.2.1
    have h4 := a3.2.2.2.1
    have tl : tlnd b n p k out wait cl = if 12 ≤ cl then .inl (1 + 8 * (tsk b n p : Int) + 4) else .inr (tle b n p, k, out, wait, cl + 1, 2, 0) := by
      unfold tlnd
      have a1 : tix (twd b n p) tw1002 = some u := a1
      rw [a1]
    have e4 : tS tlt b n (tS tbl b n p) - tS tbl b n p = 4 := tw_eq (tix1 a1).1
    rw [tl]
    dsimp only
    refine xP_i (fun c => xP_r ?_) (fun c => ?_)
    · have c : (m1.1 6 4).toInt < 12 := zt c
      rw [if_neg (by omega)]
      exact ⟨⟨_, fin a3⟩, by show out.length + wait.length + 1 ≤ tS tlt b n (tS tbl b n p); omega, i2, by show cl + 1 ≤ 12; omega, i4⟩
    · have c : ¬ (m1.1 6 4).toInt < 12 := zf c
      rw [if_pos (by omega)]
      refine xP_b (P52 a3 (by omega) (by omega) (by decide) (by decide)) (fun _ m2 q2 => xP_r ?_)
      rw [h4, show trf 0 (1 + 8 * ((tS tbl b n p : Nat) : Int) + (4 : Int32).toInt) = 1 + 8 * ((tS tbl b n p : Nat) : Int) + 4 from if_pos rfl] at q2
      exact ⟨by show 1 + 8 * ((tS tbl b n p : Nat) : Int) + 4 ≠ 0; omega, _, _, _, _, _, _, _, _, _, _, fin q2⟩
  · have h4 := a3.2.2.2.1
    have tl : tlnd b n p k out wait cl = .inl (1 + 8 * (tsk b n p : Int)) := by
      unfold tlnd
      have a1 : tix (twd b n p) tw1002 = none := a1
      rw [a1]
    have e5 : trf 0 (1 + 8 * (tS tbl b n p : Int)) = 1 + 8 * (tS tbl b n p : Int) := if_pos rfl
    rw [e5] at a3
    have ne : 1 + 8 * ((tS tbl b n p : Nat) : Int) ≠ 0 := by omega
    rw [tl]
    dsimp only
    refine xP_i (fun c => xP_r ⟨ne, _, _, _, _, _, _, _, _, _, _, fin a3⟩) (fun c => ?_)
    refine xP_b (P52 a3 (by omega) (by omega) (by decide) (by decide)) (fun _ m2 q2 => xP_r ?_)
    rw [show ∀ x, trf (1 + 8 * ((tS tbl b n p : Nat) : Int)) x = 1 + 8 * ((tS tbl b n p : Nat) : Int) from fun x => if_neg ne] at q2
    exact ⟨ne, _, _, _, _, _, _, _, _, _, _, fin q2⟩
/-- readValue, as a step -/
theorem P36s {ex : Int} (hF : 500 ≤ F) (N : kN m0 b n) (h : kC m0 n p bg 0 out wait (cl : Int) (k : Int) (tdp wait : Int) (tbr wait : Int) ex (wh : Int) m) (i1 : out.length + wait.length + 1 ≤ p) (i2 : k ≤ 60) (i3 : cl ≤ 12) (i4 : ∀ w ∈ wait, 0 ≤ w ∧ w ≤ (13 : Int)) : xP (D36_6_2 F m) (fun _ m' => kR m0 n (tvs b n p k out wait cl wh) m') := by
  have n4 := N.2.1
  have pn : p ≤ n := h.2.2.1.2
  have g1 : p ≤ tS tbl b n p := tS_ge p
  refine xP_m (P36 hF N h (by omega) i2) (fun _ m' q => ?_)
  rcases q with ⟨f, a1, a2, a3⟩ | ⟨x, bg', a1, a2⟩
  · unfold tvs
    rw [a1]
    exact ⟨a2, a3⟩
  · unfold tvs
    rw [a1]
    have lx : p < x.1 ∧ k < 60 := by
      unfold tval at a1
      split at a1
      · next dg =>
        split at a1
        · cases a1
        · split at a1
          · cases a1
          · next z1 z2 =>
            have ln := tsg_lt (b := b) (n := n) (p := tsk b n p) rfl (fun z => by rw [z] at dg; cases dg)
            have ld : tS tbl b n p < tS tdg b n (tS tbl b n p) := tS_lt ln.1 (by rw [ln.2]; exact dg)
            have a1 := Sum.inr.inj a1
            rw [← a1]
            exact ⟨by show p < tS tdg b n (tS tbl b n p); omega, by omega⟩
      · split at a1
        · cases a1
        · next u hu =>
          split at a1
          · cases a1
          · next z2 =>
            have a1 := Sum.inr.inj a1
            rw [← a1]
            refine ⟨?_, by omega⟩
            show p < tS tlt b n (tS tbl b n p)
            have ne : twd b n p ≠ [] := fun z => by
              rw [z] at hu
              have : tix ([] : List Int) tw1004 = none := by decide
              rw [this] at hu
              cases hu
            have g3 : tS tbl b n p ≤ tS tlt b n (tS tbl b n p) := tS_ge _
            by_cases e : tS tlt b n (tS tbl b n p) = tS tbl b n p
            · exact absurd (show twd b n p = [] by show tw b (tS tbl b n p) (tS tlt b n (tS tbl b n p)) = []; rw [e, tw_nil]) ne
            · omega
    exact ⟨⟨_, a2⟩, by show (out.length + 1) + wait.length + 1 ≤ x.1; omega, by show k + 1 ≤ 60; omega, i3, i4⟩
theorem P35_60 {p' : Nat} {ft : Int} {v2 v3 : Int32} {bg' : Nat} {m : xS} {ex : Int} (N : kN m0 b n) (h : kC m0 n p' bg' ft out wait (cl : Int) (k : Int) (tdp wait : Int) (tbr wait : Int) ex (wh : Int) m) (lw : wait.length < 400) (h2 : (v2 = 0) ∨ (v2 = 1 ∧ p' < n)) : xP (D35_6_2_60 F v2 v3 m) (fun _ m' => (v2 = 0 ∧ kC m0 n p' bg' ft out (3 :: wait) (cl : Int) (k : Int) (tdp (3 :: wait) : Int) (tbr (3 :: wait) : Int) ex (wh : Int) m') ∨ (v2 = 1 ∧ kC m0 n (p' + 1) bg' ft out (0 :: wait) (cl : Int) (k : Int) (tdp (0 :: wait) : Int) (tbr (0 :: wait) : Int) ex (wh : Int) m')) := by
  have d1 := tdp_len wait
  have d2 := tbr_len wait
  have h10 := h.2.2.2.2.2.2.2.2.2.1
  have h10s : kC m0 n p' bg' ft out wait (cl : Int) (k : Int) ((1 + tdp wait : Nat) : Int) (tbr wait : Int) ex (wh : Int) (xu m 6 6 ((m.1 6 6) + 1)) := kC_dp h ((xa1 (by show _ ≤ _ + (1 : Int); omega) (by show _ + (1 : Int) ≤ _; omega)).trans (by rw [h10]; show (tdp wait : Int) + 1 = _; omega))
  unfold D35_6_2_60 D35_6_2_88 D35_6_2_98
  rcases h2 with rfl | ⟨rfl, l⟩
  · refine xP_i (fun _ => ?_) (fun c => absurd c (by decide))
    refine xP_i (fun _ => ?_) (fun c => absurd c (by decide))
    refine xP_b (P47 h10s lw) (fun _ m1 q => xP_r (Or.inl ⟨rfl, ?_⟩))
    have e : tbr (3 :: wait) = tbr wait := Nat.zero_add (tbr wait)
    rw [e]
    exact q
  · refine xP_i (fun c => absurd c (by decide)) (fun _ => ?_)
    refine xP_b (P54 N h10s l) (fun _ m1 q => ?_)
    dsimp only
    refine xP_i (fun c => absurd c (by decide)) (fun _ => ?_)
    have h11 := q.2.2.2.2.2.2.2.2.2.2.1
    have qb : kC m0 n (p' + 1) bg' ft out wait (cl : Int) (k : Int) ((1 + tdp wait : Nat) : Int) ((1 + tbr wait : Nat) : Int) ex (wh : Int) (xu m1 6 7 ((m1.1 6 7) + 1)) := kC_br q ((xa1 (by show _ ≤ _ + (1 : Int); omega) (by show _ + (1 : Int) ≤ _; omega)).trans (by rw [h11]; show (tbr wait : Int) + 1 = _; omega))
    refine xP_b (P47 qb lw) (fun _ m2 q2 => xP_r (Or.inr ⟨rfl, ?_⟩))
    exact q2
/-- readFact -/
theorem P35 (hF : 500 ≤ F) (N : kN m0 b n) (h : kC m0 n p bg 0 out wait (cl : Int) (k : Int) (tdp wait : Int) (tbr wait : Int) ((1 : Nat) : Int) (wh : Int) m) (I : kI (p, k, out, wait, cl, 1, wh)) : xP (D35_6_2 F m) (fun _ m' => kR m0 n (tfac b n p k out wait cl wh) m') := by
  obtain ⟨i1, i2, i3, i4⟩ := I
  have i1 : out.length + wait.length + 1 ≤ p := i1
  have i2 : k ≤ 60 := i2
  have i3 : cl ≤ 12 := i3
  have n4 := N.2.1
  have pn : p ≤ n := h.2.2.1.2
  have g1 : p ≤ tS tbl b n p := tS_ge p
  have g2 : tS tbl b n p ≤ n := tS_le p pn
  have opn : ∀ {v2 v3 : Int32} {p' bg' : Nat} {m : xS}, kC m0 n p' bg' 0 out wait (cl : Int) (k : Int) (tdp wait : Int) (tbr wait : Int) ((1 : Nat) : Int) (wh : Int) m → v3.toInt = (tS tbl b n p : Int) → (v2 = 0) ∨ (v2 = 1 ∧ p' < n) → p < (if v2 = 0 then p' else p' + 1) → xP (D35_6_2_45 F v2 v3 m) (fun _ m' => kR m0 n (if 10 ≤ tdp wait then .inl (1 + 8 * (tsk b n p : Int) + 2) else .inr (if v2 = 0 then (p', k, out, 3 :: wait, cl, 1, wh) else (p' + 1, k, out, 0 :: wait, cl, 1, wh))) m') := by
    intro v2 v3 p' bg' m h e3 h2 lp
    have h10 := h.2.2.2.2.2.2.2.2.2.1
    unfold D35_6_2_45
    refine xP_i (fun c => ?_) (fun c => ?_)
    · have c : (m.1 6 6).toInt < 10 := zt c
      rw [if_neg (by omega)]
      refine xP_m (P35_60 N h (by omega) h2) (fun _ m1 q => ?_)
      rcases q with ⟨rfl, q⟩ | ⟨rfl, q⟩
      · rw [if_pos rfl] at lp ⊢
        refine ⟨⟨_, q⟩, by show out.length + (wait.length + 1) + 1 ≤ p'; omega, i2, i3, fun w hw => ?_⟩
        rcases List.mem_cons.mp hw with rfl | hw
        · exact ⟨by decide, by decide⟩
        · exact i4 w hw
      · rw [if_neg (by decide)] at lp ⊢
        refine ⟨⟨_, q⟩, by show out.length + (wait.length + 1) + 1 ≤ p' + 1; omega, i2, i3, fun w hw => ?_⟩
        rcases List.mem_cons.mp hw with rfl | hw
        · exact ⟨by decide, by decide⟩
        · exact i4 w hw
    · have c : ¬ (m.1 6 6).toInt < 10 := zf c
      rw [if_pos (by omega)]
      refine xP_b (P52 h (by omega) (by omega) (by decide) (by decide)) (fun _ m1 q => ?_)
      rw [e3, show trf 0 (1 + 8 * ((tS tbl b n p : Nat) : Int) + (2 : Int32).toInt) = 1 + 8 * ((tS tbl b n p : Nat) : Int) + 2 from if_pos rfl] at q
      have ne : 1 + 8 * ((tS tbl b n p : Nat) : Int) + 2 ≠ 0 := by omega
      refine xP_m (P35_60 N q (by omega) h2) (fun _ m1 q => ?_)
      rcases q with ⟨rfl, q⟩ | ⟨rfl, q⟩
      · exact ⟨ne, _, _, _, _, _, _, _, _, _, _, q⟩
      · exact ⟨ne, _, _, _, _, _, _, _, _, _, _, q⟩
  unfold D35_6_2 D35_6_2_14
  refine xP_b (P53 hF N h) (fun v m1 q => ?_)
  obtain ⟨q, qv⟩ := q
  have h3 := q.2.2.1.1
  dsimp only
  refine xP_i (fun c => ?_) (fun c => ?_)
  · have c : v.toInt ≠ 91 := zt c
    refine xP_i (fun d => absurd d (by decide)) (fun _ => ?_)
    have tf : tfac b n p k out wait cl wh = (match tix (twd b n p) tw1003 with
      | some _ => if 10 ≤ tdp wait then .inl (1 + 8 * (tsk b n p : Int) + 2) else .inr (tle b n p, k, out, 3 :: wait, cl, 1, wh)
      | none => tvs b n p k out wait cl 1) := by
      unfold tfac
      rw [if_neg (fun z => c (qv.trans z))]
      cases tix (twd b n p) tw1003 <;> rfl
    rw [tf]
    refine xP_b (P59_1003 hF N q) (fun r2 m2 q2 => ?_)
    rw [tS_id] at q2
    dsimp only
    rcases q2 with ⟨u, a1, a2, a3⟩ | ⟨a1, a2, a3⟩
    · have e4 : tS tlt b n (tS tbl b n p) - tS tbl b n p = 3 := tw_eq (tix1 a1).1
      have a1 : tix (twd b n p) tw1003 = some u := a1
      rw [a1]
      refine xP_i (fun d => ?_) (fun d => ?_)
      · exact opn (v2 := 0) a3 h3 (Or.inl rfl) (by rw [if_pos rfl]; show p < tS tlt b n (tS tbl b n p); omega)
      · have d : r2.toInt = -1 := Decidable.not_not.mp (zf d)
        omega
    · have a1 : tix (twd b n p) tw1003 = none := a1
      rw [a1]
      refine xP_i (fun d => ?_) (fun d => ?_)
      · have d : r2.toInt ≠ -1 := zt d
        exact absurd a2 d
      · have z := P36s (F := F) hF N (kC_wh (v := 1) (x := ((1 : Nat) : Int)) a3 rfl) (by omega) i2 i3 i4
        have tid : tvs b n (tS tbl b n p) k out wait cl 1 = tvs b n p k out wait cl 1 := by
          unfold tvs tval tsk tde twd tle
          simp only [tS_id]
        rw [tid] at z
        exact xP_b z (fun _ m3 q3 => xP_r q3)
  · have c : v.toInt = 91 := Decidable.not_not.mp (zf c)
    obtain ⟨ln, -⟩ := tsg_lt (qv.symm.trans c) (by decide)
    refine xP_i (fun _ => ?_) (fun d => absurd d (by decide))
    have tf : tfac b n p k out wait cl wh = (if 10 ≤ tdp wait then .inl (1 + 8 * (tsk b n p : Int) + 2) else .inr (tsk b n p + 1, k, out, 0 :: wait, cl, 1, wh)) := by
      unfold tfac
      rw [if_pos (qv.symm.trans c)]
    rw [tf]
    exact opn (v2 := 1) q h3 (Or.inr ⟨rfl, ln⟩) (by rw [if_neg (by decide)]; show p < tS tbl b n p + 1; omega)
end KST
end
section
/-! The class's reader of rules: readJoint and what it calls. -/
section KJN
variable {m0 m : xS} {b : Nat → Int} {n p bg k cl wh : Nat} {out wait : List Int} {F : Nat}
/-- goesOn -/
theorem P61 {out wait : List Int} {cl k dp br ex wh : Int} (hF : 500 ≤ F) (N : kN m0 b n) (h : kC m0 n p bg 0 out wait cl k dp br ex wh m) : xP (D61_2 F m) (fun r m' => (tsg b n (tsk b n p) = 59 ∧ r = 1 ∧ kC m0 n (tsk b n p + 1) bg 0 out wait cl k dp br ex wh m') ∨ (tsg b n (tsk b n p) ≠ 59 ∧ tsg b n (tsk b n p) = -1 ∧ r = 0 ∧ kC m0 n (tsk b n p) bg 0 out wait cl k dp br ex wh m') ∨ (tsg b n (tsk b n p) ≠ 59 ∧ tsg b n (tsk b n p) ≠ -1 ∧ r = 0 ∧ kC m0 n (tsk b n p) bg (1 + 8 * (tsk b n p : Int)) out wait cl k dp br ex wh m')) := by
  have n4 := N.2.1
  have h5 := h.2.2.2.2.1
  unfold D61_2 D61_2_40
  refine xP_b (R := fun r m' => m' = m ∧ r = 1) ?_ (fun r mx q => ?_)
  · unfold D51_2
    refine xP_i (fun c => ?_) (fun _ => xP_r ⟨rfl, rfl⟩)
    have c : (m.1 2 4).toInt ≠ 0 := zt c
    exact absurd h5 c
  · obtain ⟨rfl, rfl⟩ := q
    refine xP_i (fun _ => ?_) (fun c => absurd (show zcmp .ne (1 : Int32) 0 = false from c) (by decide))
    refine xP_b (P53 hF N h) (fun v m1 q => ?_)
    obtain ⟨q, qv⟩ := q
    have h3 := q.2.2.1
    dsimp only
    refine xP_i (fun c => ?_) (fun c => ?_)
    · have c : v.toInt ≠ 59 := zt c
      have c1 : tsg b n (tsk b n p) ≠ 59 := fun z => c (qv.trans z)
      refine xP_i (fun d => ?_) (fun d => ?_)
      · have d : v.toInt = -1 := zt d
        exact xP_r (Or.inr (Or.inl ⟨c1, qv.symm.trans d, rfl, q⟩))
      · have d : v.toInt ≠ -1 := zf d
        refine xP_b (P52 q (by omega) (by omega) (by decide) (by decide)) (fun _ m2 q2 => xP_r (Or.inr (Or.inr ⟨c1, fun z => d (qv.trans z), rfl, ?_⟩)))
        rw [h3.1, show trf 0 (1 + 8 * ((tS tbl b n p : Nat) : Int) + (0 : Int32).toInt) = 1 + 8 * ((tS tbl b n p : Nat) : Int) from (if_pos rfl).trans (Int.add_zero _)] at q2
        exact q2
    · have c : v.toInt = 59 := Decidable.not_not.mp (zf c)
      obtain ⟨ln, -⟩ := tsg_lt (qv.symm.trans c) (by decide)
      refine xP_b (P54 N q ln) (fun _ m2 q2 => xP_r (Or.inl ⟨qv.symm.trans c, rfl, q2⟩))
/-- the end of a clause -/
theorem P44 {a : Int32} {ex : Int} (hF : 500 ≤ F) (N : kN m0 b n) (h : kC m0 n p bg 0 out wait (cl : Int) (k : Int) (tdp wait : Int) (tbr wait : Int) ex (wh : Int) m) (i1 : out.length + wait.length + 1 ≤ p) (i2 : k ≤ 60) (i3 : cl ≤ 12) (i4 : ∀ w ∈ wait, 0 ≤ w ∧ w ≤ (13 : Int)) : xP (D44_6_2 F a m) (fun _ m' => kR m0 n (tendc b n a.toInt p k out wait cl wh) m') := by
  have n4 := N.2.1
  have pn : p ≤ n := h.2.2.1.2
  have g1 : p ≤ tS tbl b n p := tS_ge p
  have d1 := tdp_len wait
  have sl := tSe_len 1 wait out
  have sd := tSe_dp (o := 1) (by decide) wait out
  have ss := tSe_sub 1 wait out
  have o1 : (1 : Int32).toInt = 1 := rfl
  unfold D44_6_2 D44_6_2_23
  refine xP_b (P46 (o := 1) hF h (by omega) (by omega) (by omega)) (fun _ m1 q => ?_)
  rw [o1, show ((tdp wait : Nat) : Int) - (((tSe 1 wait out).2.2 : Nat) : Int) = ((tdp (tSe 1 wait out).2.1 : Nat) : Int) by omega, sd.2] at q
  refine xP_b (P48 (v := a) q (by omega)) (fun _ m2 q2 => ?_)
  obtain ⟨q2, -⟩ := q2
  refine xP_b (P61 hF N q2) (fun r m3 q3 => ?_)
  dsimp only
  unfold tendc
  rcases q3 with ⟨c1, rfl, q3⟩ | ⟨c1, c2, rfl, q3⟩ | ⟨c1, c2, rfl, q3⟩
  · rw [if_pos c1]
    refine xP_i (fun c => absurd c (by decide)) (fun _ => xP_r ?_)
    exact ⟨⟨_, kC_ex (x := ((0 : Nat) : Int)) q3 rfl⟩, by show ((tSe 1 wait out).1.length + 1) + (tSe 1 wait out).2.1.length + 0 ≤ tS tbl b n p + 1; omega, i2, i3, fun w hw => i4 w (ss w hw)⟩
  · rw [if_neg c1, if_pos c2]
    refine xP_i (fun _ => xP_r ?_) (fun c => absurd c (by decide))
    exact ⟨⟨_, kC_ex (x := ((4 : Nat) : Int)) q3 rfl⟩, by show ((tSe 1 wait out).1.length + 1) + (tSe 1 wait out).2.1.length + 0 ≤ tS tbl b n p; omega, i2, i3, fun w hw => i4 w (ss w hw)⟩
  · rw [if_neg c1, if_neg c2]
    refine xP_i (fun _ => xP_r ?_) (fun c => absurd c (by decide))
    exact ⟨by show 1 + 8 * ((tS tbl b n p : Nat) : Int) ≠ 0; omega, _, _, _, _, _, _, _, _, _, _, kC_ex (x := ((4 : Nat) : Int)) q3 rfl⟩
/-- endAnswer -/
theorem P40 (hF : 500 ≤ F) (N : kN m0 b n) (h : kC m0 n p bg 0 out wait (cl : Int) (k : Int) (tdp wait : Int) (tbr wait : Int) ((3 : Nat) : Int) (wh : Int) m) (i1 : out.length + wait.length + 1 ≤ p) (i2 : k ≤ 60) (i3 : cl ≤ 12) (i4 : ∀ w ∈ wait, 0 ≤ w ∧ w ≤ (13 : Int)) : xP (D40_6_2 F m) (fun _ m' => kR m0 n (tena b n p k out wait cl wh) m') := by
  have n4 := N.2.1
  have pn : p ≤ n := h.2.2.1.2
  have g1 : p ≤ tS tbl b n p := tS_ge p
  have d1 := tdp_len wait
  have sl := tSe_len 1 wait out
  have sd := tSe_dp (o := 1) (by decide) wait out
  have ss := tSe_sub 1 wait out
  have o1 : (1 : Int32).toInt = 1 := rfl
  unfold D40_6_2
  refine xP_b (P59_1005 hF N h) (fun r m1 q => ?_)
  dsimp only
  unfold tena
  rcases q with ⟨u, a1, a2, a3⟩ | ⟨a1, a2, a3⟩
  · have e4 : tS tlt b n (tS tbl b n p) - tS tbl b n p = 2 := tw_eq (tix1 a1).1
    have a1 : tix (twd b n p) tw1005 = some u := a1
    rw [a1]
    refine xP_i (fun d => ?_) (fun _ => ?_)
    · have d : r.toInt = -1 := zt d
      omega
    · refine xP_b (P46 (o := 1) hF a3 (by omega) (by omega) (by omega)) (fun _ m2 q2 => xP_r ?_)
      rw [o1, show ((tdp wait : Nat) : Int) - (((tSe 1 wait out).2.2 : Nat) : Int) = ((tdp (tSe 1 wait out).2.1 : Nat) : Int) by omega, sd.2] at q2
      exact ⟨⟨_, kC_ex (x := ((1 : Nat) : Int)) q2 rfl⟩, by show (tSe 1 wait out).1.length + (tSe 1 wait out).2.1.length + 1 ≤ tS tlt b n (tS tbl b n p); omega, i2, i3, fun w hw => i4 w (ss w hw)⟩
  · have a1 : tix (twd b n p) tw1005 = none := a1
    rw [a1]
    refine xP_i (fun _ => ?_) (fun d => ?_)
    · have z := P44 (F := F) (a := 14) hF N a3 (by omega) i2 i3 i4
      rw [show (14 : Int32).toInt = 14 from rfl, tendc_id] at z
      exact xP_b z (fun _ m2 q2 => xP_r q2)
    · have d : r.toInt ≠ -1 := zf d
      exact absurd a2 d
/-- closeBracket -/
theorem P43 (hF : 500 ≤ F) (N : kN m0 b n) (h : kC m0 n p bg 0 out wait (cl : Int) (k : Int) (tdp wait : Int) (tbr wait : Int) ((3 : Nat) : Int) (wh : Int) m) (i1 : out.length + wait.length ≤ p) (i2 : k ≤ 60) (i3 : cl ≤ 12) (i4 : ∀ w ∈ wait, 0 ≤ w ∧ w ≤ (13 : Int)) (hb : tbr wait ≠ 0) : xP (D43_6 F m) (fun _ m' => kR m0 n (.inr (p, k, (tSe 1 wait out).1, (tSe 1 wait out).2.1.tail, cl, 3, 3)) m') := by
  have n4 := N.2.1
  have pn : p ≤ n := h.2.2.1.2
  have d1 := tdp_len wait
  have sl := tSe_len 1 wait out
  have sd := tSe_dp (o := 1) (by decide) wait out
  have ss := tSe_sub 1 wait out
  have sh := tSe_hd 1 wait out
  have o1 : (1 : Int32).toInt = 1 := rfl
  unfold D43_6 D43_6_22
  refine xP_b (P46 (o := 1) hF h (by omega) (by omega) (by omega)) (fun _ m1 q => ?_)
  rw [o1, show ((tdp wait : Nat) : Int) - (((tSe 1 wait out).2.2 : Nat) : Int) = ((tdp (tSe 1 wait out).2.1 : Nat) : Int) by omega, sd.2] at q
  generalize hS : tSe 1 wait out = S at *
  obtain ⟨o2, w2, c2⟩ := S
  dsimp only at *
  cases w2 with
  | nil => exact absurd sd.2 hb
  | cons w ws =>
    have hw := sh w ws rfl
    have iw := i4 w (ss w List.mem_cons_self)
    have w0 : w = 0 := by
      have t1 : tcl 1 = 1 := rfl
      unfold tcl at hw t1
      split at hw
      · rw [t1] at hw
        omega
      · split at hw
        · rw [t1] at hw
          omega
        · split at hw <;> (rw [t1] at hw; omega)
    subst w0
    have h7 := q.2.2.2.2.2.2.1.1
    rw [List.length_cons] at h7 sl
    have s1 : ((m1.1 6 3) - 1).toInt = (ws.length : Int) := (xs1 (by show _ ≤ _ - (1 : Int); omega) (by show _ - (1 : Int) ≤ _; omega)).trans (by show _ - (1 : Int) = _; omega)
    obtain ⟨hp, -⟩ := kC_pop (v := (m1.1 6 3) - 1) q s1
    have e1 : tdp (0 :: ws) = 1 + tdp ws := rfl
    have e2 : tbr (0 :: ws) = 1 + tbr ws := rfl
    have z1 := tdp_len ws
    have z2 := tbr_len ws
    rw [e1, e2] at hp
    have h10 := hp.2.2.2.2.2.2.2.2.2.1
    have h11 := hp.2.2.2.2.2.2.2.2.2.2.1
    refine xP_i (fun c => ?_) (fun _ => xP_r ?_)
    · have c : (m1.1 6 3).toInt ≤ 0 := zt c
      omega
    · have k1 := kC_br (v := (xu m1 6 3 ((m1.1 6 3) - 1)).1 6 7 - 1) (x := ((tbr ws : Nat) : Int)) hp ((xs1 (by show _ ≤ _ - (1 : Int); omega) (by show _ - (1 : Int) ≤ _; omega)).trans (by rw [h11]; show (((1 + tbr ws : Nat) : Int) - 1) = _; omega))
      have h10b := k1.2.2.2.2.2.2.2.2.2.1
      have k2 := kC_dp (v := (xu (xu m1 6 3 ((m1.1 6 3) - 1)) 6 7 ((xu m1 6 3 ((m1.1 6 3) - 1)).1 6 7 - 1)).1 6 6 - 1) (x := ((tdp ws : Nat) : Int)) k1 ((xs1 (by show _ ≤ _ - (1 : Int); omega) (by show _ - (1 : Int) ≤ _; omega)).trans (by rw [h10b]; show (((1 + tdp ws : Nat) : Int) - 1) = _; omega))
      exact ⟨⟨_, kC_wh (x := ((3 : Nat) : Int)) k2 rfl⟩, by show o2.length + ws.length + 1 ≤ p; omega, i2, i3, fun w hw => i4 w (ss w (List.mem_cons_of_mem _ hw))⟩
/-- a join, as a step -/
theorem P45s {o : Int32} {ex : Int} (hF : 500 ≤ F) (ho : 1 ≤ tcl o.toInt) (ho2 : 0 ≤ o.toInt ∧ o.toInt ≤ 13) (h : kC m0 n p bg 0 out wait (cl : Int) (k : Int) (tdp wait : Int) (tbr wait : Int) ex (wh : Int) m) (hn : n ≤ 400) (i1 : out.length + wait.length + 2 ≤ p) (i4 : ∀ w ∈ wait, 0 ≤ w ∧ w ≤ (13 : Int)) : xP (D45_6 F o m) (fun _ m' => kC m0 n p bg 0 (tSe o.toInt wait out).1 (o.toInt :: (tSe o.toInt wait out).2.1) (cl : Int) (k : Int) (tdp (o.toInt :: (tSe o.toInt wait out).2.1) : Int) (tbr (o.toInt :: (tSe o.toInt wait out).2.1) : Int) ex (wh : Int) m' ∧ (tSe o.toInt wait out).1.length + (o.toInt :: (tSe o.toInt wait out).2.1).length + 1 ≤ p ∧ ∀ w ∈ o.toInt :: (tSe o.toInt wait out).2.1, 0 ≤ w ∧ w ≤ (13 : Int)) ∨ o.toInt = 0 ∨ o.toInt = 3 := by
  by_cases z : o.toInt = 0 ∨ o.toInt = 3
  · exact Or.inr z
  · refine Or.inl ?_
    have pn : p ≤ n := h.2.2.1.2
    have d1 := tdp_len wait
    have sl := tSe_len o.toInt wait out
    have sd := tSe_dp (o := o.toInt) ho wait out
    have ss := tSe_sub o.toInt wait out
    refine xP_m (P45 (o := o) hF h (by omega) (by omega) (by omega)) (fun _ m1 q => ⟨?_, ?_, fun w hw => ?_⟩)
    · have e1 : tdp (o.toInt :: (tSe o.toInt wait out).2.1) = tdp (tSe o.toInt wait out).2.1 := by
        show (if o.toInt = 0 ∨ o.toInt = 3 then 1 else 0) + tdp _ = _
        rw [if_neg z, Nat.zero_add]
      have e2 : tbr (o.toInt :: (tSe o.toInt wait out).2.1) = tbr (tSe o.toInt wait out).2.1 := by
        show (if o.toInt = 0 then 1 else 0) + tbr _ = _
        rw [if_neg (fun y => z (Or.inl y)), Nat.zero_add]
      rw [e1, e2, ← sd.2]
      rw [show ((tdp wait : Nat) : Int) - (((tSe o.toInt wait out).2.2 : Nat) : Int) = ((tdp (tSe o.toInt wait out).2.1 : Nat) : Int) by omega] at q
      exact q
    · rw [List.length_cons]
      omega
    · rcases List.mem_cons.mp hw with rfl | hw
      · exact ho2
      · exact i4 w (ss w hw)
end KJN
end
section
/-! The class's reader of rules: readSign, endFact, readJoint. -/
theorem xbe_t {x c : Int32} (h : (x == c) = true) : x = c := eq_of_beq h
theorem xbe_f {x c : Int32} (h : (x == c) = false) : x.toInt ≠ c.toInt := fun z => by
  rw [Int32.toInt_inj.mp z, beq_self_eq_true] at h
  cases h
theorem tena_id (b : Nat → Int) (n p k : Nat) (out wait : List Int) (cl wh : Nat) : tena b n (tS tbl b n p) k out wait cl wh = tena b n p k out wait cl wh := by
  unfold tena twd tle
  simp only [tS_id, tendc_id]
theorem tsig_id (b : Nat → Int) (n p k : Nat) (out wait : List Int) (cl : Nat) : tsig b n (tS tbl b n p) k out wait cl = tsig b n p k out wait cl := by
  unfold tsig tsk
  simp only [tS_id]
theorem tenf_id (b : Nat → Int) (n p k : Nat) (out wait : List Int) (cl wh : Nat) : tenf b n (tS tbl b n p) k out wait cl wh = tenf b n p k out wait cl wh := by
  unfold tenf twd tle tsk
  simp only [tS_id, tendc_id]
section KJ2
variable {m0 m : xS} {b : Nat → Int} {n p bg k cl wh : Nat} {out wait : List Int} {F : Nat}
theorem P45g {o : Int32} {ft cc kk ex ww : Int} (hF : 500 ≤ F) (ho : 1 ≤ tcl o.toInt) (ho2 : 0 ≤ o.toInt ∧ o.toInt ≤ 13) (ho3 : ¬ (o.toInt = 0 ∨ o.toInt = 3)) (h : kC m0 n p bg ft out wait cc kk (tdp wait : Int) (tbr wait : Int) ex ww m) (hn : n ≤ 400) (i1 : out.length + wait.length + 2 ≤ p) (i4 : ∀ w ∈ wait, 0 ≤ w ∧ w ≤ (13 : Int)) : xP (D45_6 F o m) (fun _ m' => kC m0 n p bg ft (tSe o.toInt wait out).1 (o.toInt :: (tSe o.toInt wait out).2.1) cc kk (tdp (o.toInt :: (tSe o.toInt wait out).2.1) : Int) (tbr (o.toInt :: (tSe o.toInt wait out).2.1) : Int) ex ww m' ∧ (tSe o.toInt wait out).1.length + (o.toInt :: (tSe o.toInt wait out).2.1).length + 1 ≤ p ∧ ∀ w ∈ o.toInt :: (tSe o.toInt wait out).2.1, 0 ≤ w ∧ w ≤ (13 : Int)) := by
  have pn : p ≤ n := h.2.2.1.2
  have d1 := tdp_len wait
  have sl := tSe_len o.toInt wait out
  have sd := tSe_dp (o := o.toInt) ho wait out
  have ss := tSe_sub o.toInt wait out
  refine xP_m (P45 (o := o) hF h (by omega) (by omega) (by omega)) (fun _ m1 q => ⟨?_, ?_, fun w hw => ?_⟩)
  · have e1 : tdp (o.toInt :: (tSe o.toInt wait out).2.1) = tdp (tSe o.toInt wait out).2.1 := by
      show (if o.toInt = 0 ∨ o.toInt = 3 then 1 else 0) + tdp _ = _
      rw [if_neg ho3, Nat.zero_add]
    have e2 : tbr (o.toInt :: (tSe o.toInt wait out).2.1) = tbr (tSe o.toInt wait out).2.1 := by
      show (if o.toInt = 0 then 1 else 0) + tbr _ = _
      rw [if_neg (fun y => ho3 (Or.inl y)), Nat.zero_add]
    rw [e1, e2, ← sd.2]
    rw [show ((tdp wait : Nat) : Int) - (((tSe o.toInt wait out).2.2 : Nat) : Int) = ((tdp (tSe o.toInt wait out).2.1 : Nat) : Int) by omega] at q
    exact q
  · rw [List.length_cons]
    omega
  · rcases List.mem_cons.mp hw with rfl | hw
    · exact ho2
    · exact i4 w (ss w hw)
theorem P39 {v : Int32} : xP (D39 F v m) (fun r m' => m' = m ∧ r.toInt = topr v.toInt) := by
  unfold D39
  refine xP_i (fun c => xP_r ⟨rfl, by rw [xbe_t c]; decide⟩) (fun c37 => ?_)
  refine xP_i (fun c => xP_r ⟨rfl, by rw [xbe_t c]; decide⟩) (fun _ => ?_)
  refine xP_i (fun c => xP_r ⟨rfl, by rw [xbe_t c]; decide⟩) (fun _ => ?_)
  refine xP_i (fun c => xP_r ⟨rfl, by rw [xbe_t c]; decide⟩) (fun _ => ?_)
  refine xP_i (fun c => xP_r ⟨rfl, by rw [xbe_t c]; decide⟩) (fun _ => ?_)
  refine xP_i (fun c => xP_r ⟨rfl, by rw [xbe_t c]; decide⟩) (fun c42 => ?_)
  refine xP_i (fun c => xP_r ⟨rfl, by rw [xbe_t c]; decide⟩) (fun c43 => ?_)
  refine xP_i (fun c => xP_r ⟨rfl, by rw [xbe_t c]; decide⟩) (fun _ => ?_)
  refine xP_i (fun c => xP_r ⟨rfl, by rw [xbe_t c]; decide⟩) (fun c45 => ?_)
  refine xP_i (fun c => xP_r ⟨rfl, by rw [xbe_t c]; decide⟩) (fun _ => ?_)
  refine xP_i (fun c => xP_r ⟨rfl, by rw [xbe_t c]; decide⟩) (fun c47 => xP_r ⟨rfl, ?_⟩)
  have c37 : v.toInt ≠ 37 := xbe_f c37
  have c42 : v.toInt ≠ 42 := xbe_f c42
  have c43 : v.toInt ≠ 43 := xbe_f c43
  have c45 : v.toInt ≠ 45 := xbe_f c45
  have c47 : v.toInt ≠ 47 := xbe_f c47
  unfold topr
  rw [if_neg c43, if_neg c45, if_neg c42, if_neg c47, if_neg c37]
  decide
/-- passHere -/
theorem P55 {ft cc kk dp br ex ww : Int} {c : Int32} (N : kN m0 b n) (hc : c.toInt ≠ -1) (h : kC m0 n p bg ft out wait cc kk dp br ex ww m) : xP (D55_2 F c m) (fun r m' => (tsg b n p = c.toInt ∧ r = 1 ∧ kC m0 n (p + 1) bg ft out wait cc kk dp br ex ww m') ∨ (tsg b n p ≠ c.toInt ∧ r = 0 ∧ kC m0 n p bg ft out wait cc kk dp br ex ww m')) := by
  obtain ⟨k1, k2⟩ := kC_n N h
  have h3 := h.2.2.1
  have n4 := N.2.1
  unfold D55_2 D55_2_24 tsg
  refine xP_i (fun d => xP_r (Or.inr ⟨?_, rfl, h⟩)) (fun d => ?_)
  · have d : (m.1 2 1).toInt ≤ (m.1 2 2).toInt := zt d
    rw [if_neg (by omega)]
    exact fun z => hc z.symm
  · have d : ¬ (m.1 2 1).toInt ≤ (m.1 2 2).toInt := zf d
    refine xP_g (xib_t (by omega) (by omega)) ?_
    rw [kC_i h, if_pos (show p < n by omega), ← k2 p (by omega)]
    refine xP_i (fun e => xP_r (Or.inl ⟨zt e, rfl, ?_⟩)) (fun e => xP_r (Or.inr ⟨zf e, rfl, h⟩))
    exact kC_p h ((xa1 (by show _ ≤ _ + (1 : Int); omega) (by show _ + (1 : Int) ≤ _; omega)).trans (by rw [h3.1]; rfl)) N.2.1 (by omega)
/-- readSign -/
theorem P41 (hF : 500 ≤ F) (N : kN m0 b n) (h : kC m0 n p bg 0 out wait (cl : Int) (k : Int) (tdp wait : Int) (tbr wait : Int) ((3 : Nat) : Int) (wh : Int) m) (i1 : out.length + wait.length + 1 ≤ p) (i2 : k ≤ 60) (i3 : cl ≤ 12) (i4 : ∀ w ∈ wait, 0 ≤ w ∧ w ≤ (13 : Int)) : xP (D41_6_2 F m) (fun _ m' => kR m0 n (tsig b n p k out wait cl) m') := by
  have n4 := N.2.1
  have pn : p ≤ n := h.2.2.1.2
  have g1 : p ≤ tS tbl b n p := tS_ge p
  have d1 := tdp_len wait
  -- behind the sign: join, then a value
  have fin : ∀ {o : Int32} {p' bg' : Nat} {ft : Int} {v2 v3 : Int32} {m : xS}, 4 ≤ o.toInt → o.toInt ≤ 8 → kC m0 n p' bg' ft out wait (cl : Int) ((k + 1 : Nat) : Int) (tdp wait : Int) (tbr wait : Int) ((3 : Nat) : Int) (wh : Int) m → tS tbl b n p + 1 ≤ p' → (ft ≠ 0 ∨ (ft = 0 ∧ k < 60)) → xP ((D45_6 F o m).bind fun q => D41_6_2_104 F v2 v3 q.2) (fun _ m' => kR m0 n (if ft = 0 then .inr (p', k + 1, (tSe o.toInt wait out).1, o.toInt :: (tSe o.toInt wait out).2.1, cl, 2, 2) else .inl ft) m') := by
    intro o p' bg' ft v2 v3 m o1 o2 h lp hf
    have tc : tcl o.toInt = 4 := by
      unfold tcl
      rw [if_neg (by omega), if_pos (by omega)]
    refine xP_b (P45g hF (by rw [tc]; decide) ⟨by omega, by omega⟩ (by omega) h n4 (by omega) i4) (fun _ m1 q => ?_)
    obtain ⟨q1, q2, q3⟩ := q
    unfold D41_6_2_104
    refine xP_r ?_
    have z := kC_ex (v := 2) (x := ((2 : Nat) : Int)) (kC_wh (v := 2) (x := ((2 : Nat) : Int)) q1 rfl) rfl
    rcases hf with hf | ⟨hf, hk⟩
    · rw [if_neg hf]
      exact ⟨hf, _, _, _, _, _, _, _, _, _, _, z⟩
    · subst hf
      rw [if_pos rfl]
      exact ⟨⟨_, z⟩, q2, by show k + 1 ≤ 60; omega, i3, q3⟩
  have mid : ∀ {v2 v3 : Int32} {m : xS}, kC m0 n (tS tbl b n p) bg 0 out wait (cl : Int) (k : Int) (tdp wait : Int) (tbr wait : Int) ((3 : Nat) : Int) (wh : Int) m → v2.toInt = tsg b n (tS tbl b n p) → v3.toInt = (tS tbl b n p : Int) → (tsg b n (tsk b n p) = 60 ∨ tsg b n (tsk b n p) = 61 ∨ tsg b n (tsk b n p) = 62) → xP (D41_6_2_35 F v2 v3 m) (fun _ m' => kR m0 n (tsig b n p k out wait cl) m') := by
    intro v2 v3 m h e2 e3 cs
    have ln : tS tbl b n p < n := by
      rcases cs with c | c | c
      · exact (tsg_lt c (by decide)).1
      · exact (tsg_lt c (by decide)).1
      · exact (tsg_lt c (by decide)).1
    unfold D41_6_2_35 D41_6_2_82 D41_6_2_101
    refine xP_b (P37 (a := v3) h (by omega) (by omega) (by omega) (by omega)) (fun _ m1 q => ?_)
    rw [e3] at q
    have ef : (if (60 : Int) ≤ (k : Int) then trf 0 (1 + 8 * ((tS tbl b n p : Nat) : Int) + 3) else 0) = (if 60 ≤ k then 1 + 8 * ((tS tbl b n p : Nat) : Int) + 3 else 0) := by
      by_cases z : 60 ≤ k
      · rw [if_pos z, if_pos (by omega)]
        exact if_pos rfl
      · rw [if_neg z, if_neg (by omega)]
    rw [ef] at q
    refine xP_b (P54 N q ln) (fun _ m2 q2 => ?_)
    have hf : (if 60 ≤ k then 1 + 8 * ((tS tbl b n p : Nat) : Int) + 3 else 0) ≠ 0 ∨ ((if 60 ≤ k then 1 + 8 * ((tS tbl b n p : Nat) : Int) + 3 else 0) = 0 ∧ k < 60) := by
      by_cases z : 60 ≤ k
      · rw [if_pos z]
        exact Or.inl (by omega)
      · rw [if_neg z]
        exact Or.inr ⟨rfl, by omega⟩
    have tg : ∀ {x : tSt}, kR m0 n (if (if 60 ≤ k then 1 + 8 * ((tS tbl b n p : Nat) : Int) + 3 else 0) = 0 then .inr x else .inl (if 60 ≤ k then 1 + 8 * ((tS tbl b n p : Nat) : Int) + 3 else 0)) = kR m0 n (if 60 ≤ k then .inl (1 + 8 * ((tS tbl b n p : Nat) : Int) + 3) else .inr x) := fun {x} => by
      by_cases z : 60 ≤ k
      · rw [if_pos z, if_pos z, if_neg (by omega)]
      · rw [if_neg z, if_neg z, if_pos rfl]
    have tf : tsig b n p k out wait cl = (if 60 ≤ k then .inl (1 + 8 * (tsk b n p : Int) + 3)
      else if tsg b n (tsk b n p) = 61 then .inr (tsk b n p + 1, k + 1, (tSe 6 wait out).1, 6 :: (tSe 6 wait out).2.1, cl, 2, 2)
      else if tsg b n (tsk b n p + 1) = 61 then .inr (tsk b n p + 2, k + 1, (tSe (if tsg b n (tsk b n p) = 60 then 5 else 7) wait out).1, (if tsg b n (tsk b n p) = 60 then 5 else 7) :: (tSe (if tsg b n (tsk b n p) = 60 then 5 else 7) wait out).2.1, cl, 2, 2)
      else .inr (tsk b n p + 1, k + 1, (tSe (if tsg b n (tsk b n p) = 60 then 4 else 8) wait out).1, (if tsg b n (tsk b n p) = 60 then 4 else 8) :: (tSe (if tsg b n (tsk b n p) = 60 then 4 else 8) wait out).2.1, cl, 2, 2)) := by
      unfold tsig
      rw [if_pos cs]
    dsimp only
    refine xP_i (fun c => ?_) (fun c => ?_)
    · have c : v2.toInt ≠ 61 := zt c
      have c1 : ¬ tsg b n (tsk b n p) = 61 := fun z => c (e2.trans z)
      refine xP_b (P55 (c := 61) N (by decide) q2) (fun r m3 q3 => ?_)
      dsimp only
      rcases q3 with ⟨c2, rfl, q3⟩ | ⟨c2, rfl, q3⟩
      · have c2 : tsg b n (tsk b n p + 1) = 61 := c2
        rw [tf, if_neg c1, if_pos c2]
        refine xP_i (fun d => absurd d (by decide)) (fun _ => ?_)
        refine xP_i (fun d => ?_) (fun d => ?_)
        · have d : v2.toInt ≠ 60 := zt d
          have d1 : ¬ tsg b n (tsk b n p) = 60 := fun z => d (e2.trans z)
          rw [if_neg d1]
          refine xP_m (fin (o := 7) (by decide) (by decide) q3 (by omega) hf) (fun _ m4 q4 => ?_)
          rw [tg] at q4
          exact q4
        · have d : v2.toInt = 60 := Decidable.not_not.mp (zf d)
          have d1 : tsg b n (tsk b n p) = 60 := e2.symm.trans d
          rw [if_pos d1]
          refine xP_m (fin (o := 5) (by decide) (by decide) q3 (by omega) hf) (fun _ m4 q4 => ?_)
          rw [tg] at q4
          exact q4
      · have c2 : ¬ tsg b n (tsk b n p + 1) = 61 := c2
        rw [tf, if_neg c1, if_neg c2]
        refine xP_i (fun _ => ?_) (fun d => absurd d (by decide))
        refine xP_i (fun d => ?_) (fun d => ?_)
        · have d : v2.toInt ≠ 60 := zt d
          have d1 : ¬ tsg b n (tsk b n p) = 60 := fun z => d (e2.trans z)
          rw [if_neg d1]
          refine xP_m (fin (o := 8) (by decide) (by decide) q3 (by omega) hf) (fun _ m4 q4 => ?_)
          rw [tg] at q4
          exact q4
        · have d : v2.toInt = 60 := Decidable.not_not.mp (zf d)
          have d1 : tsg b n (tsk b n p) = 60 := e2.symm.trans d
          rw [if_pos d1]
          refine xP_m (fin (o := 4) (by decide) (by decide) q3 (by omega) hf) (fun _ m4 q4 => ?_)
          rw [tg] at q4
          exact q4
    · have c : v2.toInt = 61 := Decidable.not_not.mp (zf c)
      have c1 : tsg b n (tsk b n p) = 61 := e2.symm.trans c
      rw [tf, if_pos c1]
      refine xP_m (fin (o := 6) (by decide) (by decide) q2 (by omega) hf) (fun _ m4 q4 => ?_)
      rw [tg] at q4
      exact q4
  unfold D41_6_2
  refine xP_b (P53 hF N h) (fun v m1 q => ?_)
  obtain ⟨q, qv⟩ := q
  have h3 := q.2.2.1.1
  dsimp only
  refine xP_i (fun c => mid q qv h3 (Or.inl (qv.symm.trans (zt c)))) (fun c => ?_)
  refine xP_i (fun d => mid q qv h3 (Or.inr (Or.inl (qv.symm.trans (zt d))))) (fun d => ?_)
  refine xP_i (fun e => mid q qv h3 (Or.inr (Or.inr (qv.symm.trans (zt e))))) (fun e => ?_)
  have c : v.toInt ≠ 60 := zf c
  have d : v.toInt ≠ 61 := zf d
  have e : v.toInt ≠ 62 := zf e
  have tf : tsig b n p k out wait cl = .inl (1 + 8 * (tsk b n p : Int)) := by
    unfold tsig
    rw [if_neg (fun z => z.elim (fun z => c (qv.trans z)) (fun z => z.elim (fun z => d (qv.trans z)) (fun z => e (qv.trans z))))]
  rw [tf]
  refine xP_b (P52 q (by omega) (by have := q.2.2.1.2; omega) (by decide) (by decide)) (fun _ m2 q2 => xP_r ?_)
  rw [h3, show trf 0 (1 + 8 * ((tS tbl b n p : Nat) : Int) + (0 : Int32).toInt) = 1 + 8 * ((tS tbl b n p : Nat) : Int) from (if_pos rfl).trans (Int.add_zero _)] at q2
  exact ⟨by show 1 + 8 * ((tS tbl b n p : Nat) : Int) ≠ 0; omega, _, _, _, _, _, _, _, _, _, _, q2⟩
end KJ2
end
section
/-! The class's reader of rules: endFact, readJoint. -/
section KJ3
variable {m0 m : xS} {b : Nat → Int} {n p bg k cl wh : Nat} {out wait : List Int} {F : Nat}
/-- endFact -/
theorem P42 (hF : 500 ≤ F) (N : kN m0 b n) (h : kC m0 n p bg 0 out wait (cl : Int) (k : Int) (tdp wait : Int) (tbr wait : Int) ((3 : Nat) : Int) (wh : Int) m) (i1 : out.length + wait.length + 1 ≤ p) (i2 : k ≤ 60) (i3 : cl ≤ 12) (i4 : ∀ w ∈ wait, 0 ≤ w ∧ w ≤ (13 : Int)) : xP (D42_6_2 F m) (fun _ m' => kR m0 n (tenf b n p k out wait cl wh) m') := by
  have n4 := N.2.1
  have pn : p ≤ n := h.2.2.1.2
  have g1 : p ≤ tS tbl b n p := tS_ge p
  have jn : ∀ {o : Int32} {v2 : Int32} {p' bg' : Nat} {m : xS}, (o.toInt = 1 ∨ o.toInt = 2) → kC m0 n p' bg' 0 out wait (cl : Int) (k : Int) (tdp wait : Int) (tbr wait : Int) ((3 : Nat) : Int) (wh : Int) m → p + 1 ≤ p' → xP (D42_6_2_22 F v2 o m) (fun _ m' => kR m0 n (.inr (p', k, (tSe o.toInt wait out).1, o.toInt :: (tSe o.toInt wait out).2.1, cl, 1, wh)) m') := by
    intro o v2 p' bg' m ho h lp
    have tc : 1 ≤ tcl o.toInt := by
      unfold tcl
      rw [if_pos (by omega)]
      omega
    unfold D42_6_2_22
    refine xP_b (P45g hF tc ⟨by omega, by omega⟩ (by omega) h n4 (by omega) i4) (fun _ m1 q => xP_r ?_)
    obtain ⟨q1, q2, q3⟩ := q
    exact ⟨⟨_, kC_ex (x := ((1 : Nat) : Int)) q1 rfl⟩, q2, i2, i3, q3⟩
  unfold D42_6_2
  refine xP_b (P59_1006 hF N h) (fun r m1 q => ?_)
  dsimp only
  unfold tenf
  rcases q with ⟨u, a1, a2, a3⟩ | ⟨a1, a2, a3⟩
  · have e4 : 2 ≤ tS tlt b n (tS tbl b n p) - tS tbl b n p := by
      rcases tix2 a1 with z | z
      · have := tw_eq z.1
        have : (tAnd : List Int).length = 3 := rfl
        omega
      · have := tw_eq z.1
        have : (tOr : List Int).length = 2 := rfl
        omega
    have u2 : u = 0 ∨ u = 1 := by
      rcases tix2 a1 with z | z
      · exact Or.inl z.2
      · exact Or.inr z.2
    have a1 : tix (twd b n p) tw1006 = some u := a1
    rw [a1]
    refine xP_i (fun d => ?_) (fun _ => ?_)
    · have d : r.toInt = -1 := zt d
      omega
    · refine xP_i (fun d => ?_) (fun d => ?_)
      · have d : r.toInt ≠ 0 := zt d
        dsimp only
        rw [if_neg (by omega)]
        exact jn (o := 1) (Or.inl rfl) a3 (by show p + 1 ≤ tS tlt b n (tS tbl b n p); omega)
      · have d : r.toInt = 0 := Decidable.not_not.mp (zf d)
        dsimp only
        rw [if_pos (by omega)]
        exact jn (o := 2) (Or.inr rfl) a3 (by show p + 1 ≤ tS tlt b n (tS tbl b n p); omega)
  · have a1 : tix (twd b n p) tw1006 = none := a1
    have h11 := a3.2.2.2.2.2.2.2.2.2.2.1
    rw [a1]
    dsimp only
    refine xP_i (fun _ => ?_) (fun d => ?_)
    · refine xP_i (fun c => ?_) (fun c => ?_)
      · have c : (m1.1 6 7).toInt ≠ 0 := zt c
        have c0 : tbr wait ≠ 0 := fun z => c (by rw [h11, z]; rfl)
        rw [if_neg c0]
        refine xP_b (P53 hF N a3) (fun v m2 q2 => ?_)
        rw [tS_id] at q2
        obtain ⟨q2, qv⟩ := q2
        have h3 := q2.2.2.1
        dsimp only
        refine xP_i (fun d => ?_) (fun d => ?_)
        · have d : v.toInt ≠ 93 := zt d
          rw [if_neg (fun z => d (qv.trans z))]
          refine xP_b (P52 q2 (by omega) (by omega) (by decide) (by decide)) (fun _ m3 q3 => xP_r ?_)
          rw [h3.1, show trf 0 (1 + 8 * ((tS tbl b n p : Nat) : Int) + (0 : Int32).toInt) = 1 + 8 * ((tS tbl b n p : Nat) : Int) from (if_pos rfl).trans (Int.add_zero _)] at q3
          exact ⟨by show 1 + 8 * ((tS tbl b n p : Nat) : Int) ≠ 0; omega, _, _, _, _, _, _, _, _, _, _, q3⟩
        · have d : v.toInt = 93 := Decidable.not_not.mp (zf d)
          obtain ⟨ln, -⟩ := tsg_lt (qv.symm.trans d) (by decide)
          rw [if_pos (qv.symm.trans d)]
          refine xP_b (P54 N q2 ln) (fun _ m3 q3 => ?_)
          exact xP_b (P43 hF N q3 (by omega) i2 i3 i4 c0) (fun _ m4 q4 => xP_r q4)
      · have c : (m1.1 6 7).toInt = 0 := Decidable.not_not.mp (zf c)
        have c0 : tbr wait = 0 := by omega
        rw [if_pos c0]
        have z := P44 (F := F) (a := 15) hF N a3 (by omega) i2 i3 i4
        rw [show (15 : Int32).toInt = 15 from rfl, tendc_id] at z
        exact xP_b z (fun _ m2 q2 => xP_r q2)
    · have d : r.toInt ≠ -1 := zf d
      exact absurd a2 d
/-- readJoint -/
theorem P38 (hF : 500 ≤ F) (N : kN m0 b n) (h : kC m0 n p bg 0 out wait (cl : Int) (k : Int) (tdp wait : Int) (tbr wait : Int) ((3 : Nat) : Int) (wh : Int) m) (I : kI (p, k, out, wait, cl, 3, wh)) : xP (D38_6_2 F m) (fun _ m' => kR m0 n (tjnt b n p k out wait cl wh) m') := by
  obtain ⟨i1, i2, i3, i4⟩ := I
  have i1 : out.length + wait.length + 1 ≤ p := i1
  have i2 : k ≤ 60 := i2
  have i3 : cl ≤ 12 := i3
  have i4 : ∀ w ∈ wait, 0 ≤ w ∧ w ≤ (13 : Int) := i4
  have n4 := N.2.1
  have pn : p ≤ n := h.2.2.1.2
  have g1 : p ≤ tS tbl b n p := tS_ge p
  have h13 := h.2.2.2.2.2.2.2.2.2.2.2.2
  unfold D38_6_2 D38_6_2_19
  refine xP_i (fun c => ?_) (fun c => ?_)
  · have c : (m.1 6 9).toInt ≠ 3 := zt c
    have w3 : wh ≠ 3 := fun z => c (by rw [h13, z]; rfl)
    refine xP_b (P53 hF N h) (fun v m1 q => ?_)
    obtain ⟨q, qv⟩ := q
    refine xP_b P39 (fun r mx q1 => ?_)
    obtain ⟨rfl, q1⟩ := q1
    dsimp only at q1 ⊢
    rw [qv] at q1
    have h13 := q.2.2.2.2.2.2.2.2.2.2.2.2
    refine xP_i (fun d => ?_) (fun d => ?_)
    · have d : r.toInt = -1 := zt d
      have tf : tjnt b n p k out wait cl wh = (if wh = 0 then tena b n p k out wait cl wh else if wh = 1 then tsig b n p k out wait cl else tenf b n p k out wait cl wh) := by
        unfold tjnt
        rw [if_neg (fun z => z.2 (q1.symm.trans d))]
      rw [tf]
      refine xP_i (fun e => ?_) (fun e => ?_)
      · have e : (mx.1 6 9).toInt ≠ 0 := zt e
        rw [if_neg (show ¬ wh = 0 from fun z => e (by rw [h13, z]; rfl))]
        refine xP_i (fun g => ?_) (fun g => ?_)
        · have g : (mx.1 6 9).toInt ≠ 1 := zt g
          rw [if_neg (show ¬ wh = 1 from fun z => g (by rw [h13, z]; rfl))]
          have z := P42 (F := F) hF N q (by omega) i2 i3 i4
          rw [tenf_id] at z
          exact xP_b z (fun _ m2 q2 => xP_r q2)
        · have g : (mx.1 6 9).toInt = 1 := Decidable.not_not.mp (zf g)
          rw [if_pos (show wh = 1 by omega)]
          have z := P41 (F := F) hF N q (by omega) i2 i3 i4
          rw [tsig_id] at z
          exact xP_b z (fun _ m2 q2 => xP_r q2)
      · have e : (mx.1 6 9).toInt = 0 := Decidable.not_not.mp (zf e)
        rw [if_pos (show wh = 0 by omega)]
        have z := P40 (F := F) hF N q (by omega) i2 i3 i4
        rw [tena_id] at z
        exact xP_b z (fun _ m2 q2 => xP_r q2)
    · have d : r.toInt ≠ -1 := zf d
      have tn : topr (tsg b n (tS tbl b n p)) ≠ -1 := fun z => d (q1.trans z)
      have ln : tS tbl b n p < n := by
        by_cases z : tS tbl b n p < n
        · exact z
        · refine absurd ?_ tn
          unfold tsg
          rw [if_neg z]
          decide
      have tr : r.toInt = 9 ∨ r.toInt = 10 ∨ r.toInt = 11 ∨ r.toInt = 12 ∨ r.toInt = 13 := by
        rw [q1]
        unfold topr at tn ⊢
        split
        · exact Or.inl rfl
        · split
          · exact Or.inr (Or.inl rfl)
          · split
            · exact Or.inr (Or.inr (Or.inl rfl))
            · split
              · exact Or.inr (Or.inr (Or.inr (Or.inl rfl)))
              · split
                · exact Or.inr (Or.inr (Or.inr (Or.inr rfl)))
                · next a1 a2 a3 a4 a5 => exact absurd (by rw [if_neg a1, if_neg a2, if_neg a3, if_neg a4, if_neg a5]) tn
      have tc : 1 ≤ tcl r.toInt := by rcases tr with z | z | z | z | z <;> (rw [z]; decide)
      have tf : tjnt b n p k out wait cl wh = .inr (tsk b n p + 1, k, (tSe r.toInt wait out).1, r.toInt :: (tSe r.toInt wait out).2.1, cl, 2, wh) := by
        unfold tjnt
        rw [if_pos ⟨w3, tn⟩, q1]
      rw [tf]
      refine xP_b (P54 N q ln) (fun _ m2 q2 => ?_)
      refine xP_b (P45g hF tc ⟨by omega, by omega⟩ (by omega) q2 n4 (by omega) i4) (fun _ m3 q3 => xP_r ?_)
      obtain ⟨q3, q4, q5⟩ := q3
      exact ⟨⟨_, kC_ex (x := ((2 : Nat) : Int)) q3 rfl⟩, q4, i2, i3, q5⟩
  · have c : (m.1 6 9).toInt = 3 := Decidable.not_not.mp (zf c)
    have w3 : wh = 3 := by omega
    have tf : tjnt b n p k out wait cl wh = tenf b n p k out wait cl wh := by
      unfold tjnt
      rw [if_neg (fun z => z.1 w3), if_neg (by omega), if_neg (by omega)]
    rw [tf]
    refine xP_i (fun _ => ?_) (fun d => absurd d (by decide))
    refine xP_i (fun _ => ?_) (fun e => ?_)
    · refine xP_i (fun _ => ?_) (fun e => ?_)
      · exact xP_b (P42 hF N h i1 i2 i3 i4) (fun _ m2 q2 => xP_r q2)
      · have e : (m.1 6 9).toInt = 1 := Decidable.not_not.mp (zf e)
        omega
    · have e : (m.1 6 9).toInt = 0 := Decidable.not_not.mp (zf e)
      omega
end KJ3
/-- what is expected is one of five -/
theorem tstp_ex {b : Nat → Int} {n : Nat} {s s' : tSt} (h : tstp b n s = .inr s') : s'.2.2.2.2.2.1 ≤ 4 := by
  have hv : ∀ {p k : Nat} {out wait : List Int} {cl wh : Nat}, tvs b n p k out wait cl wh = .inr s' → s'.2.2.2.2.2.1 ≤ 4 := fun {p k out wait cl wh} h => by
    unfold tvs at h
    split at h
    · cases h
    · cases h
      exact (by decide : (3 : Nat) ≤ 4)
  have hc : ∀ {a : Int} {p k : Nat} {out wait : List Int} {cl wh : Nat}, tendc b n a p k out wait cl wh = .inr s' → s'.2.2.2.2.2.1 ≤ 4 := fun {a p k out wait cl wh} h => by
    unfold tendc at h
    split at h
    · cases h
      exact Nat.zero_le _
    · split at h
      · cases h
        exact Nat.le_refl _
      · cases h
  unfold tstp at h
  split at h
  · unfold tlnd at h
    split at h
    · cases h
    · split at h
      · cases h
      · cases h
        exact (by decide : (2 : Nat) ≤ 4)
  · split at h
    · unfold tfac at h
      split at h
      · split at h
        · cases h
        · cases h
          exact (by decide : (1 : Nat) ≤ 4)
      · split at h
        · split at h
          · cases h
          · cases h
            exact (by decide : (1 : Nat) ≤ 4)
        · exact hv h
    · split at h
      · exact hv h
      · split at h
        · unfold tjnt at h
          split at h
          · cases h
            exact (by decide : (2 : Nat) ≤ 4)
          · split at h
            · unfold tena at h
              split at h
              · cases h
                exact (by decide : (1 : Nat) ≤ 4)
              · exact hc h
            · split at h
              · unfold tsig at h
                split at h
                · split at h
                  · cases h
                  · split at h
                    · cases h
                      exact (by decide : (2 : Nat) ≤ 4)
                    · split at h
                      · cases h
                        exact (by decide : (2 : Nat) ≤ 4)
                      · cases h
                        exact (by decide : (2 : Nat) ≤ 4)
                · cases h
              · unfold tenf at h
                split at h
                · cases h
                  exact (by decide : (1 : Nat) ≤ 4)
                · split at h
                  · exact hc h
                  · split at h
                    · cases h
                      exact (by decide : (3 : Nat) ≤ 4)
                    · cases h
        · cases h
end
section
/-! The class's readRule: its loop runs the machine. -/
section YTL
variable {hp hp0 hp' : zHp} {ev : zEv} {d nL : Nat} {rt : Option FieldType} {cd : List (Option zEn)} {r : zRe} {pc : Nat} {lv : List (Nat × Value)}
theorem h_tail2 (hd : 8 ≤ d) (H : yH0 hp) (hN : hp.1 + 3 ≤ zSC) (l0 : zld lv 0 = some (.ref 6)) (l1 : zld lv 1 = some (.ref 2)) : ∃ x : zRe, zR none d 3 yRT zc33 (117, lv, []) hp x ∧ hp.1 ≤ x.2.1 ∧ ((x = (some .null, hp) ∧ (xof hp).1 2 4 ≠ 0) ∨ ∃ hp5, x = (some (.ref hp.1), hp5) ∧ yNw hp hp5 ∧ (xof hp).1 2 4 = 0) := by
  have head : ∀ {r : zRe}, zR none d 3 yRT zc33 (121, lv, [.int (if (xof hp).1 2 4 = 0 then 1 else 0)]) hp r → zR none d 3 yRT zc33 (117, lv, []) hp r := by
    intro r K
    refine q_lr (k := 1) (i := 1) (q := (.aload_n 1, 1, 0, 0, .null)) rfl (fun _ => rfl) l1 ?_
    exact r_call (ix := 2) (as := []) (rest := []) (rv := some (.int (if (xof hp).1 2 4 = 0 then 1 else 0))) (hp' := hp) (pc := 118) rfl xr51 rfl rfl rfl (h_kd H (by decide)) (Nat.le_of_ble_eq_true rfl) (h_snd H (by omega)) (Nat.le_refl _) K
  by_cases c3 : (xof hp).1 2 4 = 0
  · rw [if_pos c3] at head
    obtain ⟨i1, i2, -, f7, h7⟩ := xta_ok H (show xta 7 0 400 = true by decide)
    have n7 : ¬ 7 = hp.1 := by omega
    obtain ⟨j1, j2, fs6, x6, h6, k6⟩ := xti_ok H (show xti 6 5 1 = true by decide)
    obtain ⟨-, -, fs6b, h6b, k6b⟩ := xtr_ok H (show xtr 6 5 0 7 = true by decide)
    have n6 : ¬ 6 = hp.1 := by omega
    have b6 := xT_of H 6 1 (0, 400) rfl
    have e6 : (xof hp).1 6 1 = x6 := by
      unfold xof
      dsimp only
      rw [h6]
      dsimp only
      rw [k6]
    rw [e6] at b6
    have b61 : (0 : Int) ≤ x6.toInt := b6.1
    have b62 : x6.toInt ≤ 400 := b6.2
    have hN1 : hp.1 < zSC := by omega
    obtain ⟨n, g, hn, z⟩ := h_cpy (d := d) (hp := (hp.1 + 1, zup hp.2 hp.1 (.inr (4, [.null, .null])))) (f := f7) (L := x6) ((zupo n7).trans h7) (by show 7 < hp.1 + 1; omega) (by show hp.1 + 1 < zSC; omega) ⟨b61, b62⟩ (by omega)
    have e7 : (xof hp).1 7 = f7 := by
      funext j
      unfold xof
      dsimp only
      rw [h7]
    have hn : n ≤ 400 ∧ (n = ((xof hp).1 6 1).toInt.toNat ∧ ∀ j, j < n → g j = (xof hp).1 7 j) := ⟨hn.1, by rw [e6]; exact hn.2.1, fun j hj => by rw [e7]; exact hn.2.2 j hj⟩
    have z2 := h_ini (d := d) (hp := (hp.1 + 2, zup (zup hp.2 hp.1 (.inr (4, [.null, .null]))) (hp.1 + 1) (.inl (0, n, .inl g)))) (a := hp.1) (b := hp.1 + 1) (by show hp.1 < hp.1 + 2; omega) ((zupo (by omega)).trans zups) (by show hp.1 + 2 < zSC; omega) (by omega)
    refine ⟨(some (.ref hp.1), (hp.1 + 3, zup (zup (zup (zup hp.2 hp.1 (.inr (4, [.null, .null]))) (hp.1 + 1) (.inl (0, n, .inl g))) (hp.1 + 2) (.inl (3, 64, .inr (.inl (fun _ => 0))))) hp.1 (.inr (4, [.ref (hp.1 + 1), .ref (hp.1 + 2)])))), head (r_if (len := 3) (a := 145) (b := 0) (v0 := .null) (cn := .eq) (off := 24) rfl (fun c => absurd (zeq c) (by decide)) (fun _ => ?_)), Nat.le_add_right _ 3, Or.inr ⟨_, rfl, ⟨n, g, fun _ => 0, hn, rfl, zups, ((zupo (by omega)).trans (zupo (by omega))).trans zups, (zupo (by omega)).trans zups, fun i a1 a2 a3 => (((zupo a1).trans (zupo a3)).trans (zupo a2)).trans (zupo a1)⟩, c3⟩⟩
    · refine r_s (fr' := (127, lv, [.ref hp.1])) (hp' := (hp.1 + 1, zup hp.2 hp.1 (.inr (4, [.null, .null])))) (q := (.new 59, 3, 4, 0, .null)) rfl (fun call => ?_) (Nat.le_succ _) ?_
      · show zNew 4 zdf4 (124, lv, []) hp = _
        unfold zNew
        rw [if_pos hN1]
        rfl
      refine r_s (fr' := (128, lv, [.ref hp.1, .ref hp.1])) (hp' := (hp.1 + 1, zup hp.2 hp.1 (.inr (4, [.null, .null])))) (q := (.dup, 1, 0, 0, .null)) rfl (fun _ => rfl) (Nat.le_refl _) ?_
      refine q_lr (k := 1) (i := 0) (q := (.aload_n 0, 1, 0, 0, .null)) rfl (fun _ => rfl) l0 ?_
      refine r_get (pc := 129) (ix := 6) (fs := fs6b) rfl (by decide) ⟨by show 6 < hp.1 + 1; omega, j2⟩ ((zupo n6).trans h6b) k6b ?_
      refine q_lr (k := 1) (i := 0) (q := (.aload_n 0, 1, 0, 0, .null)) rfl (fun _ => rfl) l0 ?_
      refine r_get (pc := 133) (ix := 6) (fs := fs6) rfl (by decide) ⟨by show 6 < hp.1 + 1; omega, j2⟩ ((zupo n6).trans h6) k6 ?_
      refine r_callS (as := [.ref 7, .int x6]) (rest := [.ref hp.1, .ref hp.1]) (rv := some (.ref (hp.1 + 1))) (pc := 136) rfl xr292 rfl rfl rfl (Nat.le_of_ble_eq_true rfl) z (Nat.le_succ _) ?_
      refine r_callI (ix := hp.1) (as := [.ref (hp.1 + 1)]) (rest := [.ref hp.1]) (rv := none) (pc := 139) rfl xr25 rfl rfl rfl hN1 (Nat.le_of_ble_eq_true rfl) z2 (Nat.le_succ _) ?_
      refine r_s (fr' := (146, lv, [.ref hp.1])) (q := (.goto 4, 3, 146, 0, .null)) rfl (fun _ => rfl) (Nat.le_refl _) ?_
      exact r_ret (q := (.areturn, 1, 0, 0, .null)) rfl rfl (fun _ => rfl)
  · rw [if_neg c3] at head
    refine ⟨(some .null, hp), head (r_if (len := 3) (a := 145) (b := 0) (v0 := .null) (cn := .eq) (off := 24) rfl (fun _ => ?_) (fun c => absurd rfl (zneq c))), Nat.le_refl _, Or.inl ⟨rfl, c3⟩⟩
    refine r_s (fr' := (146, lv, [.null])) (hp' := hp) (q := (.aconst_null, 1, 0, 0, .null)) rfl (fun _ => rfl) (Nat.le_refl _) ?_
    exact r_ret (q := (.areturn, 1, 0, 0, .null)) rfl rfl (fun _ => rfl)
end YTL
theorem xof_f {B : zHp} (H : yH0 B) {m : xS} {ix a b : Nat} (ht : xti ix a b = true) : (xof (xW B m)).1 ix b = m.1 ix b := by
  obtain ⟨-, -, fs, x, h3, h4⟩ := xti_ok H ht
  unfold xof
  dsimp only
  rw [xW_o h3]
  dsimp only
  rw [xf_i h4]
def trun (b : Nat → Int) (n : Nat) : Nat → tSt → Int ⊕ tSt
  | 0, s => .inr s
  | f + 1, s => if s.2.2.2.2.2.1 = 4 then .inr s else match tstp b n s with
    | .inl x => .inl x
    | .inr s' => trun b n f s'
def kL (m0 : xS) (n : Nat) (s : tSt) (m : xS) : Prop := (∃ (bg : Nat) (ww : Int), kC m0 n s.1 bg 0 s.2.2.1 s.2.2.2.1 (s.2.2.2.2.1 : Int) (s.2.1 : Int) (tdp s.2.2.2.1 : Int) (tbr s.2.2.2.1 : Int) (s.2.2.2.2.2.1 : Int) ww m ∧ (s.2.2.2.2.2.1 ≠ 0 → ww = (s.2.2.2.2.2.2 : Int))) ∧ kI s ∧ s.2.2.2.2.2.1 ≤ 4
def kE (m0 : xS) (n : Nat) (r : Int ⊕ tSt) (m : xS) : Prop := match r with
  | .inl f => f ≠ 0 ∧ kF m0 n f m
  | .inr s => kL m0 n s m
section KRR
variable {B : zHp} {m0 : xS} {b : Nat → Int} {n d : Nat}
theorem kgt {i : Int32} : zcmp .gt i 400 = true ∨ zcmp .gt i 400 = false := by
  cases zcmp .gt i 400 with
  | true => exact Or.inl rfl
  | false => exact Or.inr rfl
theorem kX (H : yH0 B) (X : yTx B) (hd : 8 ≤ d) {f : Int} {m : xS} {lv : List (Nat × Value)} {i : Int32} (h : kF m0 n f m) (hf : f ≠ 0) (l0 : zld lv 0 = some (.ref 6)) (l1 : zld lv 1 = some (.ref 2)) (l2 : zld lv 2 = some (.int i)) {r : zRe} (K : zR none d 3 yRT zc33 (117, lv, []) (xW B m) r) : zR none d 3 yRT zc33 (37, lv, []) (xW B m) r := by
  obtain ⟨p, bg, out, wait, cl, k, dp, br, ex, wh, h⟩ := h
  have h5 := h.2.2.2.2.1
  refine q_li (k := 1) (i := 2) (q := (.iload_n 2, 1, 0, 0, .null)) rfl (fun _ => rfl) l2 ?_
  refine r_s (fr' := (41, lv, [.int 400, .int i])) (hp' := xW B m) (q := (.sipush 400, 3, 0, 0, .null)) rfl (fun _ => rfl) (Nat.le_refl _) ?_
  refine r_ifc (len := 3) (a := 117) (b := 0) (v0 := .null) (cn := .gt) (off := 76) rfl (fun _ => K) (fun _ => ?_)
  refine q_lr (k := 1) (i := 0) (q := (.aload_n 0, 1, 0, 0, .null)) rfl (fun _ => rfl) l0 ?_
  refine r_gi (v := m.1 6 8) H (pc := 45) (i := _) rfl (by decide) (by decide) rfl ?_
  refine r_s (fr' := (49, lv, [.int 4, .int (m.1 6 8)])) (hp' := xW B m) (q := (.iconst 4, 1, 0, 0, .null)) rfl (fun _ => rfl) (Nat.le_refl _) ?_
  refine r_ifc (len := 3) (a := 117) (b := 0) (v0 := .null) (cn := .eq) (off := 68) rfl (fun _ => K) (fun _ => ?_)
  refine q_lr (k := 1) (i := 1) (q := (.aload_n 1, 1, 0, 0, .null)) rfl (fun _ => rfl) l1 ?_
  have e : D51_2 500 m = some (0, m) := by
    unfold D51_2
    rw [if_pos]
    exact (yhl_cmp .ne (m.1 2 4) 0).mpr (by show (m.1 2 4).toInt ≠ 0; rw [h5]; exact hf)
  refine r_call (ix := 2) (as := []) (rest := []) (rv := some (.int 0)) (hp' := xW B m) (pc := 53) rfl xr51 rfl rfl rfl (xkd H (by decide)) (Nat.le_of_ble_eq_true rfl) (Z51_2 H X e (by omega)) (Nat.le_refl _) ?_
  exact r_if (len := 3) (a := 117) (b := 0) (v0 := .null) (cn := .eq) (off := 61) rfl (fun _ => K) (fun c => absurd c (by decide))
theorem krr (H : yH0 B) (X : yTx B) (hd : 10 ≤ d) (N : kN m0 b n) : ∀ (f : Nat) {s : tSt} {m : xS} {lv : List (Nat × Value)} {i : Int32}, kL m0 n s m → i.toInt + (f : Int) = 401 → 0 ≤ i.toInt → zld lv 0 = some (.ref 6) → zld lv 1 = some (.ref 2) → zld lv 2 = some (.int i) → ∃ m' lv', kE m0 n (trun b n f s) m' ∧ zld lv' 0 = some (.ref 6) ∧ zld lv' 1 = some (.ref 2) ∧ ∀ r, zR none d 3 yRT zc33 (117, lv', []) (xW B m') r → zR none d 3 yRT zc33 (37, lv, []) (xW B m) r := by
  intro f
  induction f with
  | zero =>
    intro s m lv i h hi i0 l0 l1 l2
    refine ⟨m, lv, h, l0, l1, fun r K => ?_⟩
    refine q_li (k := 1) (i := 2) (q := (.iload_n 2, 1, 0, 0, .null)) rfl (fun _ => rfl) l2 ?_
    refine r_s (fr' := (41, lv, [.int 400, .int i])) (hp' := xW B m) (q := (.sipush 400, 3, 0, 0, .null)) rfl (fun _ => rfl) (Nat.le_refl _) ?_
    refine r_ifc (len := 3) (a := 117) (b := 0) (v0 := .null) (cn := .gt) (off := 76) rfl (fun _ => K) (fun c => ?_)
    have c : ¬ (400 : Int) < i.toInt := zf c
    omega
  | succ f ih =>
    intro s m lv i h hi i0 l0 l1 l2
    obtain ⟨⟨bg, ww, hC, hw⟩, hI, hx⟩ := h
    have h5 := hC.2.2.2.2.1
    have h12 := hC.2.2.2.2.2.2.2.2.2.2.2.1
    have head : ∀ {r : zRe}, zR none d 3 yRT zc33 (49, lv, [.int 4, .int (m.1 6 8)]) (xW B m) r → zR none d 3 yRT zc33 (37, lv, []) (xW B m) r := by
      intro r K
      refine q_li (k := 1) (i := 2) (q := (.iload_n 2, 1, 0, 0, .null)) rfl (fun _ => rfl) l2 ?_
      refine r_s (fr' := (41, lv, [.int 400, .int i])) (hp' := xW B m) (q := (.sipush 400, 3, 0, 0, .null)) rfl (fun _ => rfl) (Nat.le_refl _) ?_
      refine r_ifc (len := 3) (a := 117) (b := 0) (v0 := .null) (cn := .gt) (off := 76) rfl (fun c => ?_) (fun _ => ?_)
      · have c : (400 : Int) < i.toInt := zt c
        omega
      refine q_lr (k := 1) (i := 0) (q := (.aload_n 0, 1, 0, 0, .null)) rfl (fun _ => rfl) l0 ?_
      refine r_gi (v := m.1 6 8) H (pc := 45) (i := _) rfl (by decide) (by decide) rfl ?_
      exact r_s (fr' := (49, lv, [.int 4, .int (m.1 6 8)])) (hp' := xW B m) (q := (.iconst 4, 1, 0, 0, .null)) rfl (fun _ => rfl) (Nat.le_refl _) K
    by_cases x4 : s.2.2.2.2.2.1 = 4
    · refine ⟨m, lv, ?_, l0, l1, fun r K => head (r_ifc (len := 3) (a := 117) (b := 0) (v0 := .null) (cn := .eq) (off := 68) rfl (fun _ => K) (fun c => ?_))⟩
      · unfold trun
        rw [if_pos x4]
        exact ⟨⟨bg, ww, hC, hw⟩, hI, hx⟩
      · have c : ¬ (m.1 6 8).toInt = 4 := zf c
        exact absurd (h12.trans (by rw [x4]; rfl)) c
    · have head2 : ∀ {r : zRe}, zR none d 3 yRT zc33 (59, lv, []) (xW B m) r → zR none d 3 yRT zc33 (37, lv, []) (xW B m) r := by
        intro r K
        refine head (r_ifc (len := 3) (a := 117) (b := 0) (v0 := .null) (cn := .eq) (off := 68) rfl (fun c => ?_) (fun _ => ?_))
        · have c : (m.1 6 8).toInt = 4 := zt c
          omega
        refine q_lr (k := 1) (i := 1) (q := (.aload_n 1, 1, 0, 0, .null)) rfl (fun _ => rfl) l1 ?_
        have e : D51_2 500 m = some (1, m) := by
          unfold D51_2
          rw [if_neg]
          intro z
          exact ((yhl_cmp .ne (m.1 2 4) 0).mp z : (m.1 2 4).toInt ≠ 0) h5
        refine r_call (ix := 2) (as := []) (rest := []) (rv := some (.int 1)) (hp' := xW B m) (pc := 53) rfl xr51 rfl rfl rfl (xkd H (by decide)) (Nat.le_of_ble_eq_true rfl) (Z51_2 H X e (by omega)) (Nat.le_refl _) ?_
        exact r_if (len := 3) (a := 117) (b := 0) (v0 := .null) (cn := .eq) (off := 61) rfl (fun c => absurd c (by decide)) (fun _ => K)
      -- a turn
      have turn : ∃ m2 : xS, kR m0 n (tstp b n s) m2 ∧ ∀ r, zR none d 3 yRT zc33 (111, lv, []) (xW B m2) r → zR none d 3 yRT zc33 (59, lv, []) (xW B m) r := by
        obtain ⟨p, k, out, wait, cl, ex, wh⟩ := s
        dsimp only at hC hw hx x4 h12
        have rd : ∀ {r : zRe} {pc : Nat} {rest : List Value} {ix len : Nat}, zg zc33 pc = some (.getfield ix, len, 5, 8, .null) → zR none d 3 yRT zc33 (pc + 3, lv, .int (m.1 6 8) :: rest) (xW B m) r → zR none d 3 yRT zc33 (pc, lv, .ref 6 :: rest) (xW B m) r := fun {r pc rest ix len} hq K => r_gi (v := m.1 6 8) H hq (by decide) (by decide) rfl K
        by_cases d0 : ex = 0
        · subst d0
          obtain ⟨x, e, hq⟩ := P34 (F := 500) (Nat.le_refl _) N hC hI
          refine ⟨x.2, hq, fun r K => ?_⟩
          refine q_lr (k := 1) (i := 0) (q := (.aload_n 0, 1, 0, 0, .null)) rfl (fun _ => rfl) l0 ?_
          refine rd (pc := 60) rfl ?_
          refine r_if (len := 3) (a := 74) (b := 0) (v0 := .null) (cn := .ne) (off := 11) rfl (fun c => absurd h12 (zt c)) (fun _ => ?_)
          refine q_lr (k := 1) (i := 0) (q := (.aload_n 0, 1, 0, 0, .null)) rfl (fun _ => rfl) l0 ?_
          refine q_lr (k := 1) (i := 1) (q := (.aload_n 1, 1, 0, 0, .null)) rfl (fun _ => rfl) l1 ?_
          refine r_call (ix := 6) (as := [.ref 2]) (rest := []) (rv := none) (hp' := xW B x.2) (pc := 68) rfl xr34 rfl rfl rfl (xkd H (by decide)) (Nat.le_of_ble_eq_true rfl) (Z34_6_2 H X e (by omega)) (Nat.le_refl _) ?_
          exact r_s (fr' := (111, lv, [])) (hp' := xW B x.2) (q := (.goto 40, 3, 111, 0, .null)) rfl (fun _ => rfl) (Nat.le_refl _) K
        · have hw := hw d0
          rw [hw] at hC
          have h74 : ∀ {r : zRe}, zR none d 3 yRT zc33 (74, lv, []) (xW B m) r → zR none d 3 yRT zc33 (59, lv, []) (xW B m) r := by
            intro r K
            refine q_lr (k := 1) (i := 0) (q := (.aload_n 0, 1, 0, 0, .null)) rfl (fun _ => rfl) l0 ?_
            refine rd (pc := 60) rfl ?_
            refine r_if (len := 3) (a := 74) (b := 0) (v0 := .null) (cn := .ne) (off := 11) rfl (fun _ => K) (fun c => ?_)
            have c : (m.1 6 8).toInt = 0 := Decidable.not_not.mp (zf c)
            omega
          by_cases d1 : ex = 1
          · subst d1
            obtain ⟨x, e, hq⟩ := P35 (F := 500) (Nat.le_refl _) N hC hI
            refine ⟨x.2, hq, fun r K => h74 ?_⟩
            refine q_lr (k := 1) (i := 0) (q := (.aload_n 0, 1, 0, 0, .null)) rfl (fun _ => rfl) l0 ?_
            refine rd (pc := 75) rfl ?_
            refine r_s (fr' := (79, lv, [.int 1, .int (m.1 6 8)])) (hp' := xW B m) (q := (.iconst 1, 1, 0, 0, .null)) rfl (fun _ => rfl) (Nat.le_refl _) ?_
            refine r_ifc (len := 3) (a := 90) (b := 0) (v0 := .null) (cn := .ne) (off := 11) rfl (fun c => absurd h12 (zt c)) (fun _ => ?_)
            refine q_lr (k := 1) (i := 0) (q := (.aload_n 0, 1, 0, 0, .null)) rfl (fun _ => rfl) l0 ?_
            refine q_lr (k := 1) (i := 1) (q := (.aload_n 1, 1, 0, 0, .null)) rfl (fun _ => rfl) l1 ?_
            refine r_call (ix := 6) (as := [.ref 2]) (rest := []) (rv := none) (hp' := xW B x.2) (pc := 84) rfl xr35 rfl rfl rfl (xkd H (by decide)) (Nat.le_of_ble_eq_true rfl) (Z35_6_2 H X e (by omega)) (Nat.le_refl _) ?_
            exact r_s (fr' := (111, lv, [])) (hp' := xW B x.2) (q := (.goto 24, 3, 111, 0, .null)) rfl (fun _ => rfl) (Nat.le_refl _) K
          · have h90 : ∀ {r : zRe}, zR none d 3 yRT zc33 (90, lv, []) (xW B m) r → zR none d 3 yRT zc33 (59, lv, []) (xW B m) r := by
              intro r K
              refine h74 ?_
              refine q_lr (k := 1) (i := 0) (q := (.aload_n 0, 1, 0, 0, .null)) rfl (fun _ => rfl) l0 ?_
              refine rd (pc := 75) rfl ?_
              refine r_s (fr' := (79, lv, [.int 1, .int (m.1 6 8)])) (hp' := xW B m) (q := (.iconst 1, 1, 0, 0, .null)) rfl (fun _ => rfl) (Nat.le_refl _) ?_
              refine r_ifc (len := 3) (a := 90) (b := 0) (v0 := .null) (cn := .ne) (off := 11) rfl (fun _ => K) (fun c => ?_)
              have c : (m.1 6 8).toInt = 1 := Decidable.not_not.mp (zf c)
              omega
            by_cases d2 : ex = 2
            · subst d2
              have hI2 := hI
              obtain ⟨i1, i2, i3, i4⟩ := hI2
              obtain ⟨x, e, hq⟩ := P36s (F := 500) (Nat.le_refl _) N hC i1 i2 i3 i4
              refine ⟨x.2, hq, fun r K => h90 ?_⟩
              refine q_lr (k := 1) (i := 0) (q := (.aload_n 0, 1, 0, 0, .null)) rfl (fun _ => rfl) l0 ?_
              refine rd (pc := 91) rfl ?_
              refine r_s (fr' := (95, lv, [.int 2, .int (m.1 6 8)])) (hp' := xW B m) (q := (.iconst 2, 1, 0, 0, .null)) rfl (fun _ => rfl) (Nat.le_refl _) ?_
              refine r_ifc (len := 3) (a := 106) (b := 0) (v0 := .null) (cn := .ne) (off := 11) rfl (fun c => absurd h12 (zt c)) (fun _ => ?_)
              refine q_lr (k := 1) (i := 0) (q := (.aload_n 0, 1, 0, 0, .null)) rfl (fun _ => rfl) l0 ?_
              refine q_lr (k := 1) (i := 1) (q := (.aload_n 1, 1, 0, 0, .null)) rfl (fun _ => rfl) l1 ?_
              refine r_call (ix := 6) (as := [.ref 2]) (rest := []) (rv := none) (hp' := xW B x.2) (pc := 100) rfl xr36 rfl rfl rfl (xkd H (by decide)) (Nat.le_of_ble_eq_true rfl) (Z36_6_2 H X e (by omega)) (Nat.le_refl _) ?_
              exact r_s (fr' := (111, lv, [])) (hp' := xW B x.2) (q := (.goto 8, 3, 111, 0, .null)) rfl (fun _ => rfl) (Nat.le_refl _) K
            · have d3 : ex = 3 := by omega
              subst d3
              obtain ⟨x, e, hq⟩ := P38 (F := 500) (Nat.le_refl _) N hC hI
              refine ⟨x.2, hq, fun r K => h90 ?_⟩
              refine q_lr (k := 1) (i := 0) (q := (.aload_n 0, 1, 0, 0, .null)) rfl (fun _ => rfl) l0 ?_
              refine rd (pc := 91) rfl ?_
              refine r_s (fr' := (95, lv, [.int 2, .int (m.1 6 8)])) (hp' := xW B m) (q := (.iconst 2, 1, 0, 0, .null)) rfl (fun _ => rfl) (Nat.le_refl _) ?_
              refine r_ifc (len := 3) (a := 106) (b := 0) (v0 := .null) (cn := .ne) (off := 11) rfl (fun _ => ?_) (fun c => ?_)
              · refine q_lr (k := 1) (i := 0) (q := (.aload_n 0, 1, 0, 0, .null)) rfl (fun _ => rfl) l0 ?_
                refine q_lr (k := 1) (i := 1) (q := (.aload_n 1, 1, 0, 0, .null)) rfl (fun _ => rfl) l1 ?_
                exact r_call (ix := 6) (as := [.ref 2]) (rest := []) (rv := none) (hp' := xW B x.2) (pc := 108) rfl xr38 rfl rfl rfl (xkd H (by decide)) (Nat.le_of_ble_eq_true rfl) (Z38_6_2 H X e (by omega)) (Nat.le_refl _) K
              · have c : (m.1 6 8).toInt = 2 := Decidable.not_not.mp (zf c)
                omega
      obtain ⟨m2, hR, tr⟩ := turn
      have e1 : (i + Int32.ofInt 1).toInt = i.toInt + 1 := xa1 (by show _ ≤ _ + (1 : Int); omega) (by show _ + (1 : Int) ≤ _; omega)
      have k0 : zld (zs1 lv 2 (.int (i + Int32.ofInt 1))) 0 = some (.ref 6) := x_o1 l0 rfl rfl
      have k1 : zld (zs1 lv 2 (.int (i + Int32.ofInt 1))) 1 = some (.ref 2) := x_o1 l1 rfl rfl
      have k2 : zld (zs1 lv 2 (.int (i + Int32.ofInt 1))) 2 = some (.int (i + Int32.ofInt 1)) := zs1_ld _ _ _
      have back : ∀ {r : zRe}, zR none d 3 yRT zc33 (37, zs1 lv 2 (.int (i + Int32.ofInt 1)), []) (xW B m2) r → zR none d 3 yRT zc33 (37, lv, []) (xW B m) r := by
        intro r K
        refine head2 (tr r ?_)
        refine q_inc (i := 2) (n := 1) (q := (.iinc 2 1, 3, 0, 0, .null)) rfl (fun _ => rfl) l2 (by decide) ?_
        exact r_s (fr' := (37, zs1 lv 2 (.int (i + Int32.ofInt 1)), [])) (hp' := xW B m2) (q := (.goto (-77), 3, 37, 0, .null)) rfl (fun _ => rfl) (Nat.le_refl _) K
      have tu : trun b n (f + 1) s = (match tstp b n s with
        | .inl x => .inl x
        | .inr s' => trun b n f s') := by
        show (if s.2.2.2.2.2.1 = 4 then _ else _) = _
        rw [if_neg x4]
      rw [tu]
      cases hs : tstp b n s with
      | inl x =>
        rw [hs] at hR
        exact ⟨m2, _, hR, k0, k1, fun r K => back (kX H X (by omega) hR.2 hR.1 k0 k1 k2 K)⟩
      | inr s' =>
        rw [hs] at hR
        obtain ⟨⟨bg', hC'⟩, hI'⟩ := hR
        obtain ⟨m3, lv3, a1, a2, a3, a4⟩ := ih (s := s') (m := m2) ⟨⟨bg', _, hC', fun _ => rfl⟩, hI', tstp_ex hs⟩ (by rw [e1]; omega) (by rw [e1]; omega) k0 k1 k2
        exact ⟨m3, lv3, a1, a2, a3, fun r K => back (a4 r K)⟩
end KRR
end
section
/-! The reference's text: what its methods come to. -/
abbrev rM3 : yM := [(70, 70, 8), (70, 70, 9), (70, 70, 10)]
def rN (m0 : xS) (b : Nat → Int) (n : Nat) : Prop := (m0.1 70 1).toInt = (n : Int) ∧ n ≤ 400 ∧ ∀ j, j < n → (0 ≤ b j ∧ b j ≤ 255) ∧ (m0.1 71 j).toInt = (if b j < 128 then b j else b j - 256)
def rT (m0 : xS) (n p : Nat) (ft nu : Int) (m : xS) : Prop := xT m ∧ xfr rM3 m0 m ∧ ((m.1 70 8).toInt = (p : Int) ∧ p ≤ n) ∧ (m.1 70 9).toInt = ft ∧ (m.1 70 10).toInt = nu
theorem x255 {x : Int32} {c : Int} (h0 : 0 ≤ c) (h1 : c ≤ 255) (h : x.toInt = (if c < 128 then c else c - 256)) : (x &&& 255).toInt = c := by
  have e1 : (x &&& 255).toBitVec = x.toBitVec &&& 255#32 := rfl
  have e2 : (x &&& 255).toInt = (x &&& 255).toBitVec.toInt := rfl
  have e3 : (x.toBitVec &&& 255#32).toNat = x.toBitVec.toNat % 256 := by
    rw [BitVec.toNat_and]
    exact Nat.and_two_pow_sub_one_eq_mod x.toBitVec.toNat 8
  have e4 : x.toInt = x.toBitVec.toInt := rfl
  rw [e2, e1]
  have l1 : x.toBitVec.toNat % 256 < 256 := Nat.mod_lt _ (by decide)
  have e5 : (x.toBitVec &&& 255#32).toInt = ((x.toBitVec &&& 255#32).toNat : Int) := BitVec.toInt_eq_toNat_of_lt (by rw [e3]; omega)
  rw [e5, e3]
  have l2 := x.toBitVec.isLt
  have e6 := BitVec.toInt_eq_toNat_cond x.toBitVec
  rw [e4, e6] at h
  split at h <;> split at h <;> omega
section RT
variable {m0 m : xS} {b : Nat → Int} {n p : Nat} {ft nu : Int} {F : Nat}
theorem rT_p {v : Int32} {x : Nat} (h : rT m0 n p ft nu m) (e : v.toInt = (x : Int)) (hn : n ≤ 400) (l : x ≤ n) : rT m0 n x ft nu (xu m 70 8 v) := by
  obtain ⟨h1, h2, h3, h4, h5⟩ := h
  exact ⟨xT_c h1 (i := 70) (j := 8) rfl (by omega) (by omega), xfr_t h2 (xfr_u rfl), ⟨(congrArg Int32.toInt (xu_s _ _ _ _)).trans e, l⟩, (congrArg Int32.toInt (xu_o (by decide))).trans h4, (congrArg Int32.toInt (xu_o (by decide))).trans h5⟩
theorem rT_ft {v : Int32} {x : Int} (h : rT m0 n p ft nu m) (e : v.toInt = x) (l1 : 0 ≤ x) (l2 : x ≤ 4000) : rT m0 n p x nu (xu m 70 9 v) := by
  obtain ⟨h1, h2, h3, h4, h5⟩ := h
  exact ⟨xT_c h1 (i := 70) (j := 9) rfl (by omega) (by omega), xfr_t h2 (xfr_u rfl), ⟨(congrArg Int32.toInt (xu_o (by decide))).trans h3.1, h3.2⟩, (congrArg Int32.toInt (xu_s _ _ _ _)).trans e, (congrArg Int32.toInt (xu_o (by decide))).trans h5⟩
theorem rT_nu {v : Int32} {x : Int} (h : rT m0 n p ft nu m) (e : v.toInt = x) (l1 : 0 ≤ x) (l2 : x ≤ 99999) : rT m0 n p ft x (xu m 70 10 v) := by
  obtain ⟨h1, h2, h3, h4, h5⟩ := h
  exact ⟨xT_c h1 (i := 70) (j := 10) rfl (by omega) (by omega), xfr_t h2 (xfr_u rfl), ⟨(congrArg Int32.toInt (xu_o (by decide))).trans h3.1, h3.2⟩, (congrArg Int32.toInt (xu_o (by decide))).trans h4, (congrArg Int32.toInt (xu_s _ _ _ _)).trans e⟩
theorem rT_n (N : rN m0 b n) (h : rT m0 n p ft nu m) : (m.1 70 1).toInt = (n : Int) ∧ ∀ j, j < n → (0 ≤ b j ∧ b j ≤ 255) ∧ (m.1 71 j).toInt = (if b j < 128 then b j else b j - 256) := by
  have f := h.2.1
  refine ⟨(congrArg Int32.toInt (f.2 70 1 rfl)).trans N.1, fun j hj => ⟨(N.2.2 j hj).1, (congrArg Int32.toInt (f.2 71 j ?_)).trans (N.2.2 j hj).2⟩⟩
  unfold yinM
  rfl
theorem rT_i (h : rT m0 n p ft nu m) : (m.1 70 8).toNatClampNeg = p := by
  have := h.2.2.1.1
  show (m.1 70 8).toInt.toNat = p
  omega
/-- fails -/
theorem R163 {a c : Int32} (h : rT m0 n p ft nu m) (a1 : 0 ≤ a.toInt) (a2 : a.toInt ≤ 400) (c1 : 0 ≤ c.toInt) (c2 : c.toInt ≤ 4) : xP (D163 F c a m) (fun v m' => v = 0 ∧ rT m0 n p (trf ft (1 + 8 * a.toInt + c.toInt)) nu m') := by
  have h5 := h.2.2.2.1
  unfold D163 D163_19 trf
  refine xP_i (fun q => xP_r ⟨rfl, ?_⟩) (fun q => xP_r ⟨rfl, ?_⟩)
  · have q : (m.1 70 9).toInt ≠ 0 := zt q
    rw [if_neg (by omega)]
    exact h
  · have q : (m.1 70 9).toInt = 0 := Decidable.not_not.mp (zf q)
    rw [if_pos (by omega)]
    exact rT_ft h (kft a1 a2 c1 c2) (by omega) (by omega)
/-- see -/
theorem R164_38 (N : rN m0 b n) (h : rT m0 n p ft nu m) : xP (D164_38 F m) (fun v m' => m' = m ∧ v.toInt = tsg b n p) := by
  obtain ⟨k1, k2⟩ := rT_n N h
  have h3 := h.2.2.1
  have n4 := N.2.1
  unfold D164_38 tsg
  refine xP_i (fun c => xP_r ⟨rfl, ?_⟩) (fun c => xP_g ?_ (xP_r ⟨rfl, ?_⟩))
  · have c : (m.1 70 1).toInt ≤ (m.1 70 8).toInt := zt c
    rw [if_neg (by omega)]
    rfl
  · have c : ¬ (m.1 70 1).toInt ≤ (m.1 70 8).toInt := zf c
    exact xib_t (by omega) (by omega)
  · have c : ¬ (m.1 70 1).toInt ≤ (m.1 70 8).toInt := zf c
    obtain ⟨⟨z1, z2⟩, z3⟩ := k2 p (by omega)
    rw [rT_i h, if_pos (by omega)]
    exact x255 z1 z2 z3
theorem R164_0 (N : rN m0 b n) : ∀ (f : Nat) {p : Nat} {m : xS}, rT m0 n p ft nu m → n - p < f → xP (D164_0 F f m) (fun v m' => rT m0 n (tS tbl b n p) ft nu m' ∧ v.toInt = tsg b n (tS tbl b n p)) := by
  intro f
  induction f with
  | zero => intro p m _ l; omega
  | succ f ih =>
    intro p m h l
    obtain ⟨k1, k2⟩ := rT_n N h
    have h3 := h.2.2.1
    have n4 := N.2.1
    unfold D164_0
    refine xP_i (fun c => ?_) (fun c => ?_)
    · have c : (m.1 70 1).toInt ≤ (m.1 70 8).toInt := zt c
      rw [tS_f (fun z => by omega)]
      exact xP_m (R164_38 N h) (fun v m' q => by obtain ⟨rfl, q⟩ := q; exact ⟨h, q⟩)
    · have c : ¬ (m.1 70 1).toInt ≤ (m.1 70 8).toInt := zf c
      obtain ⟨⟨z1, z2⟩, z3⟩ := k2 p (by omega)
      refine xP_g (xib_t (by omega) (by omega)) (xP_i (fun d => ?_) (fun d => ?_))
      · rw [rT_i h] at d
        have d : (m.1 71 p).toInt ≠ 32 := zt d
        have d1 : b p ≠ 32 := fun z => d (by rw [z3, z]; decide)
        rw [tS_f (P := tbl) (b := b) (n := n) (p := p) (fun z => d1 (eq_of_beq (show (b p == 32) = true from z.2)))]
        exact xP_m (R164_38 N h) (fun v m' q => by obtain ⟨rfl, q⟩ := q; exact ⟨h, q⟩)
      · rw [rT_i h] at d
        have d : (m.1 71 p).toInt = 32 := Decidable.not_not.mp (zf d)
        have d1 : b p = 32 := by
          rw [z3] at d
          split at d <;> omega
        rw [tS_t (P := tbl) (show p < n by omega) (by unfold tbl; rw [d1]; rfl)]
        exact ih (rT_p h ((xa1 (by show _ ≤ _ + (1 : Int); omega) (by show _ + (1 : Int) ≤ _; omega)).trans (by rw [h3.1]; rfl)) N.2.1 (by omega)) (by omega)
theorem R164 (hF : 500 ≤ F) (N : rN m0 b n) (h : rT m0 n p ft nu m) : xP (D164 F m) (fun v m' => rT m0 n (tS tbl b n p) ft nu m' ∧ v.toInt = tsg b n (tS tbl b n p)) := R164_0 N F h (by have := N.2.1; omega)
/-- isDigit, isLetter at a place -/
theorem R165 {v : Int32} {q : Nat} (N : rN m0 b n) (h : rT m0 n p ft nu m) (hv : v.toInt = (q : Int)) : xP (D165 F v m) (fun r m' => m' = m ∧ ((r = 1 ∧ q < n ∧ tdg (b q) = true) ∨ (r = 0 ∧ ¬ (q < n ∧ tdg (b q) = true)))) := by
  obtain ⟨k1, k2⟩ := rT_n N h
  have n4 := N.2.1
  have ei : v.toNatClampNeg = q := by show v.toInt.toNat = q; omega
  unfold D165 D165_34 tdg
  refine xP_i (fun c => xP_r ⟨rfl, Or.inr ⟨rfl, fun z => ?_⟩⟩) (fun c => ?_)
  · have c : (m.1 70 1).toInt ≤ v.toInt := zt c
    omega
  · have c : ¬ (m.1 70 1).toInt ≤ v.toInt := zf c
    obtain ⟨⟨z1, z2⟩, z3⟩ := k2 q (by omega)
    rw [ei]
    simp only [Bool.and_eq_true, decide_eq_true_eq]
    refine xP_g (xib_t (by omega) (by omega)) (xP_i (fun d => xP_r ⟨rfl, Or.inr ⟨rfl, fun z => ?_⟩⟩) (fun d => xP_g (xib_t (by omega) (by omega)) (xP_i (fun e => xP_r ⟨rfl, Or.inr ⟨rfl, fun z => ?_⟩⟩) (fun e => xP_r ⟨rfl, Or.inl ⟨rfl, ?_⟩⟩))))
    · have d : (m.1 71 q).toInt < 48 := zt d
      rw [z3] at d
      split at d <;> omega
    · have e : (57 : Int) < (m.1 71 q).toInt := zt e
      rw [z3] at e
      split at e <;> omega
    · have d : ¬ (m.1 71 q).toInt < 48 := zf d
      have e : ¬ (57 : Int) < (m.1 71 q).toInt := zf e
      rw [z3] at d e
      split at d <;> omega
theorem R166 {v : Int32} {q : Nat} (N : rN m0 b n) (h : rT m0 n p ft nu m) (hv : v.toInt = (q : Int)) : xP (D166 F v m) (fun r m' => m' = m ∧ ((r = 1 ∧ q < n ∧ tlt (b q) = true) ∨ (r = 0 ∧ ¬ (q < n ∧ tlt (b q) = true)))) := by
  obtain ⟨k1, k2⟩ := rT_n N h
  have n4 := N.2.1
  have ei : v.toNatClampNeg = q := by show v.toInt.toNat = q; omega
  unfold D166 D166_34 tlt
  refine xP_i (fun c => xP_r ⟨rfl, Or.inr ⟨rfl, fun z => ?_⟩⟩) (fun c => ?_)
  · have c : (m.1 70 1).toInt ≤ v.toInt := zt c
    omega
  · have c : ¬ (m.1 70 1).toInt ≤ v.toInt := zf c
    obtain ⟨⟨z1, z2⟩, z3⟩ := k2 q (by omega)
    rw [ei]
    simp only [Bool.and_eq_true, decide_eq_true_eq]
    refine xP_g (xib_t (by omega) (by omega)) (xP_i (fun d => xP_r ⟨rfl, Or.inr ⟨rfl, fun z => ?_⟩⟩) (fun d => xP_g (xib_t (by omega) (by omega)) (xP_i (fun e => xP_r ⟨rfl, Or.inr ⟨rfl, fun z => ?_⟩⟩) (fun e => xP_r ⟨rfl, Or.inl ⟨rfl, ?_⟩⟩))))
    · have d : (m.1 71 q).toInt < 97 := zt d
      rw [z3] at d
      split at d <;> omega
    · have e : (122 : Int) < (m.1 71 q).toInt := zt e
      rw [z3] at e
      split at e <;> omega
    · have d : ¬ (m.1 71 q).toInt < 97 := zf d
      have e : ¬ (122 : Int) < (m.1 71 q).toInt := zf e
      rw [z3] at d e
      split at d <;> omega
/-- passWord -/
theorem R168_0 (N : rN m0 b n) : ∀ (f : Nat) {p : Nat} {m : xS}, rT m0 n p ft nu m → n - p < f → xP (D168_0 F f m) (fun _ m' => rT m0 n (tS tlt b n p) ft nu m') := by
  intro f
  induction f with
  | zero => intro p m _ l; omega
  | succ f ih =>
    intro p m h l
    have h3 := h.2.2.1
    have n4 := N.2.1
    unfold D168_0
    refine xP_b (R166 N h h3.1) (fun r mx q => ?_)
    obtain ⟨rfl, q⟩ := q
    dsimp only
    refine xP_i (fun c => xP_r ?_) (fun c => ?_)
    · have q : ¬ (p < n ∧ tlt (b p) = true) := by
        rcases q with q | q
        · rw [q.1] at c
          cases c
        · exact q.2
      rw [tS_f q]
      exact h
    · have q : p < n ∧ tlt (b p) = true := by
        rcases q with q | q
        · exact q.2
        · rw [q.1] at c
          cases c
      rw [tS_t q.1 q.2]
      exact ih (rT_p h ((xa1 (by show _ ≤ _ + (1 : Int); omega) (by show _ + (1 : Int) ≤ _; omega)).trans (by rw [h3.1]; rfl)) N.2.1 q.1) (by omega)
theorem R168 (hF : 500 ≤ F) (N : rN m0 b n) (h : rT m0 n p ft nu m) : xP (D168 F m) (fun _ m' => rT m0 n (tS tlt b n p) ft nu m') := R168_0 N F h (by have := N.2.1; omega)
end RT
end
section
/-! The reference's numbers and words. -/
def tpk (l : List Int) : Int := l.foldl (fun a c => 256 * a + c) 0
def tpr : List Int → Int
  | [] => 0
  | c :: l => 256 * tpr l + c
theorem tpk_snoc (l : List Int) (c : Int) : tpk (l ++ [c]) = 256 * tpk l + c := by
  unfold tpk
  rw [List.foldl_append]
  rfl
theorem tpk_tpr : ∀ l : List Int, tpk l.reverse = tpr l := by
  intro l
  induction l with
  | nil => rfl
  | cons c l ih =>
    rw [List.reverse_cons, tpk_snoc, ih]
    rfl
theorem tpr_ge : ∀ l : List Int, (∀ c ∈ l, 1 ≤ c ∧ c ≤ (255 : Int)) → 0 ≤ tpr l := by
  intro l
  induction l with
  | nil => intro _; exact Int.le_refl _
  | cons c l ih =>
    intro h
    have := ih (fun c hc => h c (List.mem_cons_of_mem _ hc))
    have h1 := h c List.mem_cons_self
    show 0 ≤ 256 * tpr l + c
    omega
theorem tpr_inj : ∀ l k : List Int, (∀ c ∈ l, 1 ≤ c ∧ c ≤ (255 : Int)) → (∀ c ∈ k, 1 ≤ c ∧ c ≤ (255 : Int)) → tpr l = tpr k → l = k := by
  intro l
  induction l with
  | nil =>
    intro k _ hk e
    cases k with
    | nil => rfl
    | cons c k =>
      have h1 := hk c List.mem_cons_self
      have h2 := tpr_ge k (fun c hc => hk c (List.mem_cons_of_mem _ hc))
      have e : (0 : Int) = 256 * tpr k + c := e
      omega
  | cons a l ih =>
    intro k hl hk e
    have a1 := hl a List.mem_cons_self
    have a2 := tpr_ge l (fun c hc => hl c (List.mem_cons_of_mem _ hc))
    cases k with
    | nil =>
      have e : 256 * tpr l + a = 0 := e
      omega
    | cons c k =>
      have h1 := hk c List.mem_cons_self
      have e : 256 * tpr l + a = 256 * tpr k + c := e
      have e1 : a = c := by omega
      rw [e1, ih k (fun c hc => hl c (List.mem_cons_of_mem _ hc)) (fun c hc => hk c (List.mem_cons_of_mem _ hc)) (by omega)]
theorem tpk_inj {l k : List Int} (hl : ∀ c ∈ l, 1 ≤ c ∧ c ≤ (255 : Int)) (hk : ∀ c ∈ k, 1 ≤ c ∧ c ≤ (255 : Int)) (e : tpk l = tpk k) : l = k := by
  have e1 := tpk_tpr l.reverse
  have e2 := tpk_tpr k.reverse
  rw [List.reverse_reverse] at e1 e2
  have := tpr_inj l.reverse k.reverse (fun c hc => hl c (List.mem_reverse.mp hc)) (fun c hc => hk c (List.mem_reverse.mp hc)) (by rw [← e1, ← e2, e])
  exact List.reverse_inj.mp this
theorem x64 {v : Int64} {c : Int32} {a x : Int} (hv : v.toInt = a) (h0 : 0 ≤ a) (h1 : a < 281474976710656) (hc : c.toInt = x) (x0 : 0 ≤ x) (x1 : x ≤ 127) : ((v <<< ((8 : Int32).toInt64 &&& 63)) ||| c.toInt64).toInt = 256 * a + x := by
  have e1 : ((v <<< ((8 : Int32).toInt64 &&& 63)) ||| c.toInt64).toBitVec = (v.toBitVec <<< 8) ||| c.toInt64.toBitVec := by
    have : ((8 : Int32).toInt64 &&& 63) = (8 : Int64) := by decide
    rw [this]
    rfl
  have e2 : v.toInt = v.toBitVec.toInt := rfl
  have n1 : (v.toBitVec.toNat : Int) = a := by
    have e := BitVec.toInt_eq_toNat_cond v.toBitVec
    rw [← e2, hv] at e
    have l := v.toBitVec.isLt
    split at e <;> omega
  have c2 : c.toInt64.toInt = x := (Int32.toInt_toInt64 c).trans hc
  have c3 : c.toInt64.toInt = c.toInt64.toBitVec.toInt := rfl
  have n2 : (c.toInt64.toBitVec.toNat : Int) = x := by
    have e := BitVec.toInt_eq_toNat_cond c.toInt64.toBitVec
    rw [← c3, c2] at e
    have l := c.toInt64.toBitVec.isLt
    split at e <;> omega
  have n3 : ((v.toBitVec <<< 8) ||| c.toInt64.toBitVec).toNat = 256 * v.toBitVec.toNat + c.toInt64.toBitVec.toNat := by
    rw [BitVec.toNat_or, BitVec.toNat_shiftLeft]
    have s1 : v.toBitVec.toNat <<< 8 = v.toBitVec.toNat * 256 := Nat.shiftLeft_eq _ _
    rw [s1, Nat.mod_eq_of_lt (by omega), ← s1, ← Nat.shiftLeft_add_eq_or_of_lt (show c.toInt64.toBitVec.toNat < 2 ^ 8 by omega), s1]
    omega
  show ((v <<< ((8 : Int32).toInt64 &&& 63)) ||| c.toInt64).toBitVec.toInt = _
  rw [e1, BitVec.toInt_eq_toNat_of_lt (by rw [n3]; omega), n3]
  omega
section RW
variable {m0 m : xS} {b : Nat → Int} {n p : Nat} {ft nu : Int} {F : Nat}
theorem R158 {x lo hi : Int32} : xP (D158 F x.toInt64 lo.toInt64 hi.toInt64 m) (fun r m' => m' = m ∧ ((r = 1 ∧ ¬ (x.toInt < lo.toInt ∨ hi.toInt < x.toInt)) ∨ (r = 0 ∧ (x.toInt < lo.toInt ∨ hi.toInt < x.toInt)))) := by
  have k1 := ylcmp x.toInt64 lo.toInt64
  have k2 := ylcmp x.toInt64 hi.toInt64
  rw [Int32.toInt_toInt64, Int32.toInt_toInt64] at k1 k2
  unfold D158 D158_17
  refine xP_i (fun c => xP_r ⟨rfl, Or.inr ⟨rfl, ?_⟩⟩) (fun c => xP_i (fun d => xP_r ⟨rfl, Or.inr ⟨rfl, ?_⟩⟩) (fun d => xP_r ⟨rfl, Or.inl ⟨rfl, ?_⟩⟩))
  · have c : (lg_cmp x.toInt64 lo.toInt64).toInt < 0 := zt c
    omega
  · have d : 0 < (lg_cmp x.toInt64 hi.toInt64).toInt := zt d
    omega
  · have c : ¬ (lg_cmp x.toInt64 lo.toInt64).toInt < 0 := zf c
    have d : ¬ 0 < (lg_cmp x.toInt64 hi.toInt64).toInt := zf d
    omega
theorem R170_34 {lo hi v3 : Int32} {bg : Nat} (N : rN m0 b n) (h3b : v3.toInt = (bg : Int)) : ∀ (f : Nat) {p : Nat} {nu : Int} {v : Int32} {m : xS}, rT m0 n p ft nu m → bg ≤ p → n - p < f → (∀ j, bg ≤ j → j < p → tdg (b j) = true) → v.toInt = tv b bg (min (p - bg) 5) → xP (D170_34 F f lo hi v3 v m) (fun r m' => ((5 < tS tdg b n p - bg ∨ tv b bg (min (tS tdg b n p - bg) 5) < lo.toInt ∨ hi.toInt < tv b bg (min (tS tdg b n p - bg) 5)) ∧ r = 0 ∧ rT m0 n (tS tdg b n p) (trf ft (1 + 8 * (bg : Int) + 1)) (tv b bg (min (tS tdg b n p - bg) 5)) m') ∨ (¬ (5 < tS tdg b n p - bg ∨ tv b bg (min (tS tdg b n p - bg) 5) < lo.toInt ∨ hi.toInt < tv b bg (min (tS tdg b n p - bg) 5)) ∧ r = 1 ∧ rT m0 n (tS tdg b n p) ft (tv b bg (min (tS tdg b n p - bg) 5)) m')) := by
  have n4 := N.2.1
  intro f
  induction f with
  | zero => intro p nu v m _ _ l; omega
  | succ f ih =>
    intro p nu v m h l0 l dg hv
    obtain ⟨k1, k2⟩ := rT_n N h
    have h3 := h.2.2.1
    have sb : ((m.1 70 8) - v3).toInt = (p : Int) - (bg : Int) := (xs1 (by omega) (by omega)).trans (by omega)
    have dgn : ∀ j, bg ≤ j → j < p → 48 ≤ b j ∧ b j ≤ 57 := fun j j1 j2 => by
      have := dg j j1 j2
      unfold tdg at this
      simp only [Bool.and_eq_true, decide_eq_true_eq] at this
      exact this
    have tb := tv_b (b := b) (p := bg) (n := p - bg) (fun j j1 j2 j3 => dgn j j1 (by omega)) (min (p - bg) 5) (Nat.min_le_right _ _) (Nat.min_le_left _ _)
    have tb2 : tv b bg (min (p - bg) 5) < 100000 := by
      refine Int.lt_of_lt_of_le tb.2 ?_
      have : min (p - bg) 5 = 0 ∨ min (p - bg) 5 = 1 ∨ min (p - bg) 5 = 2 ∨ min (p - bg) 5 = 3 ∨ min (p - bg) 5 = 4 ∨ min (p - bg) 5 = 5 := by omega
      rcases this with z | z | z | z | z | z <;> (rw [z]; decide)
    unfold D170_34
    refine xP_b (R165 N h h3.1) (fun r mx q => ?_)
    obtain ⟨rfl, q⟩ := q
    dsimp only
    refine xP_i (fun c => ?_) (fun c => ?_)
    · have q : ¬ (p < n ∧ tdg (b p) = true) := by
        rcases q with q | q
        · rw [q.1] at c
          cases c
        · exact q.2
      rw [tS_f q, ← hv]
      have hnu := rT_nu (v := v) (x := v.toInt) h rfl (by omega) (by omega)
      have bad : ∀ {m2 : xS}, m2 = xu mx 70 10 v → (5 < p - bg ∨ v.toInt < lo.toInt ∨ hi.toInt < v.toInt) → xP (D170_117 F lo hi v3 v m2) (fun r m' => ((5 < p - bg ∨ v.toInt < lo.toInt ∨ hi.toInt < v.toInt) ∧ r = 0 ∧ rT m0 n p (trf ft (1 + 8 * (bg : Int) + 1)) v.toInt m') ∨ (¬ (5 < p - bg ∨ v.toInt < lo.toInt ∨ hi.toInt < v.toInt) ∧ r = 1 ∧ rT m0 n p ft v.toInt m')) := fun e z => by
        subst e
        unfold D170_117
        refine xP_b (R163 hnu (by omega) (by omega) (by decide) (by decide)) (fun r2 m2 q2 => ?_)
        obtain ⟨rfl, q2⟩ := q2
        refine xP_i (fun _ => xP_r (Or.inl ⟨z, rfl, ?_⟩)) (fun d => absurd (show zcmp .eq (0 : Int32) 0 = false from d) (by decide))
        rw [h3b] at q2
        exact q2
      refine xP_i (fun d => ?_) (fun d => ?_)
      · have d : (5 : Int) < ((mx.1 70 8) - v3).toInt := zt d
        exact bad rfl (Or.inl (by omega))
      · have d : ¬ (5 : Int) < ((mx.1 70 8) - v3).toInt := zf d
        refine xP_b R158 (fun r2 m2 q2 => ?_)
        obtain ⟨e2, q2⟩ := q2
        dsimp only
        refine xP_i (fun g => ?_) (fun g => ?_)
        · unfold D170_126
          rcases q2 with ⟨-, q2⟩ | ⟨q2, -⟩
          · rw [e2]
            exact xP_r (Or.inr ⟨fun z => z.elim (fun z => by omega) q2, rfl, hnu⟩)
          · rw [q2] at g
            cases g
        · rcases q2 with ⟨q2, -⟩ | ⟨-, q2⟩
          · rw [q2] at g
            cases g
          · exact bad e2 (Or.inr q2)
    · have q : p < n ∧ tdg (b p) = true := by
        rcases q with q | q
        · exact q.2
        · rw [q.1] at c
          cases c
      have dg2 : ∀ j, bg ≤ j → j < p + 1 → tdg (b j) = true := fun j j1 j2 => by
        by_cases e : j = p
        · rw [e]
          exact q.2
        · exact dg j j1 (by omega)
      have bp : 48 ≤ b p ∧ b p ≤ 57 := by
        have := q.2
        unfold tdg at this
        simp only [Bool.and_eq_true, decide_eq_true_eq] at this
        exact this
      have hC := rT_p (v := mx.1 70 8 + 1) (x := p + 1) h ((xa1 (by show _ ≤ _ + (1 : Int); omega) (by show _ + (1 : Int) ≤ _; omega)).trans (by rw [h3.1]; rfl)) N.2.1 q.1
      rw [tS_t q.1 q.2]
      unfold D170_75
      refine xP_i (fun e => ?_) (fun e => ?_)
      · have e : (5 : Int) ≤ ((mx.1 70 8) - v3).toInt := zt e
        exact ih hC (by omega) (by omega) dg2 (by rw [show min (p + 1 - bg) 5 = min (p - bg) 5 by omega]; exact hv)
      · have e : ¬ (5 : Int) ≤ ((mx.1 70 8) - v3).toInt := zf e
        refine xP_g (xib_t (by omega) (by omega)) ?_
        refine ih hC (by omega) (by omega) dg2 ?_
        obtain ⟨-, z3⟩ := k2 p q.1
        rw [if_pos (by omega)] at z3
        rw [rT_i h, show min (p + 1 - bg) 5 = (p - bg) + 1 by omega]
        rw [show min (p - bg) 5 = p - bg by omega] at hv tb tb2
        show _ = 10 * tv b bg (p - bg) + b (bg + (p - bg)) - 48
        rw [show bg + (p - bg) = p by omega]
        have e1 : (10 * v).toInt = 10 * v.toInt := xm1 (by show _ ≤ (10 : Int) * _; omega) (by show (10 : Int) * _ ≤ _; omega)
        have e2 : (10 * v + mx.1 71 p).toInt = 10 * v.toInt + b p := (xa1 (by omega) (by omega)).trans (by rw [e1, z3])
        have e3 : (10 * v + mx.1 71 p - 48).toInt = 10 * v.toInt + b p - 48 := (xs1 (by show _ ≤ _ - (48 : Int); omega) (by show _ - (48 : Int) ≤ _; omega)).trans (by rw [e2]; rfl)
        rw [e3, hv]
/-- numberHere -/
theorem R170 {lo hi : Int32} (hF : 500 ≤ F) (N : rN m0 b n) (h : rT m0 n p ft nu m) : xP (D170 F lo hi m) (fun r m' => (¬ (tsk b n p < n ∧ tdg (b (tsk b n p)) = true) ∧ r = 0 ∧ rT m0 n (tsk b n p) (trf ft (1 + 8 * (tsk b n p : Int))) nu m') ∨ ((tsk b n p < n ∧ tdg (b (tsk b n p)) = true) ∧ (((5 < tde b n p - tsk b n p ∨ tv b (tsk b n p) (min (tde b n p - tsk b n p) 5) < lo.toInt ∨ hi.toInt < tv b (tsk b n p) (min (tde b n p - tsk b n p) 5)) ∧ r = 0 ∧ rT m0 n (tde b n p) (trf ft (1 + 8 * (tsk b n p : Int) + 1)) (tv b (tsk b n p) (min (tde b n p - tsk b n p) 5)) m') ∨ (¬ (5 < tde b n p - tsk b n p ∨ tv b (tsk b n p) (min (tde b n p - tsk b n p) 5) < lo.toInt ∨ hi.toInt < tv b (tsk b n p) (min (tde b n p - tsk b n p) 5)) ∧ r = 1 ∧ rT m0 n (tde b n p) ft (tv b (tsk b n p) (min (tde b n p - tsk b n p) 5)) m')))) := by
  have n4 := N.2.1
  unfold D170
  refine xP_b (R164 hF N h) (fun v m1 q => ?_)
  obtain ⟨q, -⟩ := q
  have h3 := q.2.2.1
  refine xP_b (R165 N q h3.1) (fun r mx q1 => ?_)
  obtain ⟨rfl, q1⟩ := q1
  dsimp only
  refine xP_i (fun c => ?_) (fun c => ?_)
  · have q1 : tS tbl b n p < n ∧ tdg (b (tS tbl b n p)) = true := by
      rcases q1 with q1 | q1
      · exact q1.2
      · rw [q1.1] at c
        cases c
    exact xP_m (R170_34 N h3.1 F q (Nat.le_refl _) (by omega) (fun j j1 j2 => by omega) (by rw [Nat.sub_self]; rfl)) (fun r2 m2 q2 => Or.inr ⟨q1, q2⟩)
  · have q1 : ¬ (tS tbl b n p < n ∧ tdg (b (tS tbl b n p)) = true) := by
      rcases q1 with q1 | q1
      · rw [q1.1] at c
        cases c
      · exact q1.2
    refine xP_b (R163 q (by omega) (by omega) (by decide) (by decide)) (fun r2 m2 q2 => ?_)
    obtain ⟨rfl, q2⟩ := q2
    refine xP_g (show xbo (0 : Int32) = true by decide) (xP_r (Or.inl ⟨q1, rfl, ?_⟩))
    rw [h3.1, show (1 + 8 * ((tS tbl b n p : Nat) : Int) + (0 : Int32).toInt) = 1 + 8 * ((tS tbl b n p : Nat) : Int) from Int.add_zero _] at q2
    exact q2
theorem tpk_b {l : List Int} (h : ∀ c ∈ l, 97 ≤ c ∧ c ≤ (122 : Int)) : ∀ k, l.length = k → k ≤ 6 → 0 ≤ tpk l ∧ tpk l < 281474976710656 := by
  have key : ∀ (l : List Int), (∀ c ∈ l, 97 ≤ c ∧ c ≤ (122 : Int)) → 0 ≤ tpr l ∧ tpr l < 256 ^ l.length := by
    intro l
    induction l with
    | nil => intro _; exact ⟨Int.le_refl _, by decide⟩
    | cons c l ih =>
      intro h
      obtain ⟨a1, a2⟩ := ih (fun c hc => h c (List.mem_cons_of_mem _ hc))
      have h1 := h c List.mem_cons_self
      rw [List.length_cons, Int.pow_succ]
      show 0 ≤ 256 * tpr l + c ∧ 256 * tpr l + c < _
      omega
  intro k hk k6
  have e := tpk_tpr l.reverse
  rw [List.reverse_reverse] at e
  obtain ⟨a1, a2⟩ := key l.reverse (fun c hc => h c (List.mem_reverse.mp hc))
  rw [List.length_reverse, hk] at a2
  rw [e]
  refine ⟨a1, Int.lt_of_lt_of_le a2 ?_⟩
  have : k = 0 ∨ k = 1 ∨ k = 2 ∨ k = 3 ∨ k = 4 ∨ k = 5 ∨ k = 6 := by omega
  rcases this with rfl | rfl | rfl | rfl | rfl | rfl | rfl <;> decide
theorem R167_10 {w : Int64} (N : rN m0 b n) (h : rT m0 n p ft nu m) : ∀ (f : Nat) {i : Nat} {v3 : Int64} {v5 : Int32}, p + i ≤ n → (∀ j, p ≤ j → j < p + i → tlt (b j) = true) → v5.toInt = (i : Int) → (i ≤ 7 → v3.toInt = tpk (tw b p (p + i))) → n - (p + i) < f → xP (D167_10 F f w v3 v5 m) (fun r m' => m' = m ∧ ((r = 1 ∧ 0 < tS tlt b n (p + i) - p ∧ tS tlt b n (p + i) - p < 8 ∧ tpk (tw b p (tS tlt b n (p + i))) = w.toInt) ∨ (r = 0 ∧ ¬ (0 < tS tlt b n (p + i) - p ∧ tS tlt b n (p + i) - p < 8 ∧ tpk (tw b p (tS tlt b n (p + i))) = w.toInt)))) := by
  have n4 := N.2.1
  obtain ⟨k1, k2⟩ := rT_n N h
  have h3 := h.2.2.1
  intro f
  induction f with
  | zero => intro i v3 v5 _ _ _ _ l; omega
  | succ f ih =>
    intro i v3 v5 l1 lt h5 hv l
    have ea : ((m.1 70 8) + v5).toInt = ((p + i : Nat) : Int) := (xa1 (by omega) (by omega)).trans (by omega)
    have ei : ((m.1 70 8) + v5).toNatClampNeg = p + i := by show ((m.1 70 8) + v5).toInt.toNat = _; omega
    unfold D167_10 D167_78
    refine xP_b (R166 N h ea) (fun r mx q => ?_)
    obtain ⟨rfl, q⟩ := q
    dsimp only
    refine xP_i (fun c => ?_) (fun c => ?_)
    · have q : ¬ (p + i < n ∧ tlt (b (p + i)) = true) := by
        rcases q with q | q
        · rw [q.1] at c
          cases c
        · exact q.2
      rw [tS_f q, show p + i - p = i by omega]
      have lc := ylcmp v3 w
      refine xP_i (fun d => xP_r ⟨rfl, Or.inr ⟨rfl, fun z => ?_⟩⟩) (fun d => xP_i (fun e => xP_r ⟨rfl, Or.inr ⟨rfl, fun z => ?_⟩⟩) (fun e => xP_i (fun g => xP_r ⟨rfl, Or.inr ⟨rfl, fun z => ?_⟩⟩) (fun g => xP_r ⟨rfl, Or.inl ⟨rfl, ?_⟩⟩)))
      · have d : v5.toInt ≤ 0 := zt d
        omega
      · have e : (8 : Int) ≤ v5.toInt := zt e
        omega
      · have g : (lg_cmp v3 w).toInt ≠ 0 := zt g
        have := hv (by omega)
        omega
      · have d : ¬ v5.toInt ≤ 0 := zf d
        have e : ¬ (8 : Int) ≤ v5.toInt := zf e
        have g : (lg_cmp v3 w).toInt = 0 := Decidable.not_not.mp (zf g)
        have := hv (by omega)
        exact ⟨by omega, by omega, by omega⟩
    · have q : p + i < n ∧ tlt (b (p + i)) = true := by
        rcases q with q | q
        · exact q.2
        · rw [q.1] at c
          cases c
      have lt2 : ∀ j, p ≤ j → j < p + (i + 1) → tlt (b j) = true := fun j j1 j2 => by
        by_cases e : j = p + i
        · rw [e]
          exact q.2
        · exact lt j j1 (by omega)
      have i5 : (v5 + Int32.ofInt 1).toInt = ((i + 1 : Nat) : Int) := xinc h5 (by omega)
      rw [tS_t q.1 q.2, show p + i + 1 = p + (i + 1) by omega]
      unfold D167_50
      refine xP_i (fun d => ?_) (fun d => ?_)
      · have d : (8 : Int) ≤ v5.toInt := zt d
        exact ih (by omega) lt2 i5 (fun z => by omega) (by omega)
      · have d : ¬ (8 : Int) ≤ v5.toInt := zf d
        refine xP_g (xib_t (by omega) (by omega)) ?_
        refine ih (by omega) lt2 i5 (fun z => ?_) (by omega)
        have hv := hv (by omega)
        have lb : ∀ c ∈ tw b p (p + i), 97 ≤ c ∧ c ≤ (122 : Int) := fun c hc => by
          unfold tw at hc
          obtain ⟨j, j1, rfl⟩ := List.mem_map.mp hc
          have := lt (p + j) (by omega) (by have := List.mem_range.mp j1; omega)
          unfold tlt at this
          simp only [Bool.and_eq_true, decide_eq_true_eq] at this
          exact this
        obtain ⟨a1, a2⟩ := tpk_b lb i (by rw [tw_len]; omega) (by omega)
        have bp : 97 ≤ b (p + i) ∧ b (p + i) ≤ 122 := by
          have := q.2
          unfold tlt at this
          simp only [Bool.and_eq_true, decide_eq_true_eq] at this
          exact this
        obtain ⟨-, z3⟩ := k2 (p + i) q.1
        rw [if_pos (by omega)] at z3
        rw [ei, x64 hv a1 a2 z3 (by omega) (by omega), show p + (i + 1) = p + i + 1 by omega, tw_snoc (by omega), tpk_snoc]
/-- isWord -/
theorem R167 {w : Int64} {W : List Int} (hF : 500 ≤ F) (N : rN m0 b n) (h : rT m0 n p ft nu m) (hw : tpk W = w.toInt) (hl : 0 < W.length ∧ W.length < 8) (hc : ∀ c ∈ W, 1 ≤ c ∧ c ≤ (255 : Int)) : xP (D167 F w m) (fun r m' => rT m0 n (tsk b n p) ft nu m' ∧ ((r = 1 ∧ twd b n p = W) ∨ (r = 0 ∧ twd b n p ≠ W))) := by
  have n4 := N.2.1
  unfold D167
  refine xP_b (R164 hF N h) (fun v m1 q => ?_)
  obtain ⟨q, -⟩ := q
  have l1 : tS tbl b n p ≤ n := q.2.2.1.2
  have g3 : tS tbl b n p ≤ tS tlt b n (tS tbl b n p) := tS_ge _
  have hb : ∀ c ∈ twd b n p, 1 ≤ c ∧ c ≤ (255 : Int) := fun c hc => by
    unfold twd tw at hc
    obtain ⟨j, j1, rfl⟩ := List.mem_map.mp hc
    have := (tS_in (P := tlt) (b := b) (n := n) (tS tbl b n p) (tS tbl b n p + j) (by omega) (by have := List.mem_range.mp j1; omega)).2
    unfold tlt at this
    simp only [Bool.and_eq_true, decide_eq_true_eq] at this
    omega
  have z := R167_10 (F := F) (w := w) N q F (i := 0) (v3 := 0) (v5 := 0) (by omega) (fun j j1 j2 => by omega) rfl (fun _ => by rw [Nat.add_zero, tw_nil]; rfl) (by omega)
  rw [Nat.add_zero] at z
  refine xP_m z (fun r m' q2 => ?_)
  obtain ⟨rfl, q2⟩ := q2
  refine ⟨q, ?_⟩
  rcases q2 with ⟨r1, a1, a2, a3⟩ | ⟨r0, a1⟩
  · exact Or.inl ⟨r1, tpk_inj hb hc (a3.trans hw.symm)⟩
  · refine Or.inr ⟨r0, fun e => a1 ?_⟩
    have len : tS tlt b n (tS tbl b n p) - tS tbl b n p = W.length := by rw [← e, tw_len]
    exact ⟨by omega, by omega, by rw [show tw b (tS tbl b n p) (tS tlt b n (tS tbl b n p)) = W from e, hw]⟩
end RW
end
section
/-! The reference's reader of rules: what its cells hold. -/
def tq (f : Nat → Int32) (o : Nat) : Nat → List (Int × Int × Int × Int)
  | 0 => []
  | c + 1 => ((f (o + 4 * c)).toInt, (f (o + 4 * c + 1)).toInt, (f (o + 4 * c + 2)).toInt, (f (o + 4 * c + 3)).toInt) :: tq f o c
theorem tq_c {f g : Nat → Int32} {o : Nat} : ∀ n, (∀ j, o ≤ j → j < o + 4 * n → f j = g j) → tq f o n = tq g o n := by
  intro n
  induction n with
  | zero => intro _; rfl
  | succ n ih =>
    intro h
    show (_, _, _, _) :: tq f o n = (_, _, _, _) :: tq g o n
    rw [h (o + 4 * n) (by omega) (by omega), h (o + 4 * n + 1) (by omega) (by omega), h (o + 4 * n + 2) (by omega) (by omega), h (o + 4 * n + 3) (by omega) (by omega), ih (fun j j1 j2 => h j j1 (by omega))]
abbrev rM : yM := [(70, 70, 8), (70, 70, 9), (70, 70, 10), (70, 70, 12), (70, 70, 13), (70, 70, 14), (70, 70, 16), (72, 72, 1000), (73, 73, 1000), (74, 74, 1000), (75, 75, 1000), (77, 77, 1000)]
/-- the other rules stay -/
def rO (m0 : xS) (t : Nat) (m : xS) : Prop := (∀ j, (j < 400 * t ∨ 400 * t + 400 ≤ j) → m.1 72 j = m0.1 72 j) ∧ (∀ j, j ≠ t → m.1 73 j = m0.1 73 j ∧ m.1 75 j = m0.1 75 j) ∧ (∀ j, (j < 48 * t ∨ 48 * t + 48 ≤ j) → m.1 74 j = m0.1 74 j)
def rC (m0 : xS) (n t p : Nat) (ft nu k : Int) (rc : List Int) (cs : List (Int × Int × Int × Int)) (op : List Int) (dp ln : Int) (m : xS) : Prop :=
  xT m ∧ xfr rM m0 m ∧ ((m.1 70 8).toInt = (p : Int) ∧ p ≤ n) ∧ (m.1 70 9).toInt = ft ∧ (m.1 70 10).toInt = nu ∧ (m.1 70 12).toInt = k ∧ ((m.1 73 t).toInt = (rc.length : Int) ∧ tk (fun j => m.1 72 (400 * t + j)) rc.length = rc) ∧ ((m.1 75 t).toInt = (cs.length : Int) ∧ tq (m.1 74) (48 * t) cs.length = cs) ∧ ((m.1 70 16).toInt = (op.length : Int) ∧ tk (m.1 77) op.length = op) ∧ (m.1 70 13).toInt = dp ∧ (m.1 70 14).toInt = ln ∧ rO m0 t m
section RC
variable {m0 m : xS} {b : Nat → Int} {n t p : Nat} {ft nu k : Int} {rc : List Int} {cs : List (Int × Int × Int × Int)} {op : List Int} {dp ln : Int} {F : Nat}
theorem rC_k {v : Int32} {x : Int} (h : rC m0 n t p ft nu k rc cs op dp ln m) (e : v.toInt = x) (l1 : 0 ≤ x) (l2 : x ≤ 60) : rC m0 n t p ft nu x rc cs op dp ln (xu m 70 12 v) := by
  obtain ⟨h1, h2, h3, h4, h5, h6, h7, h8, h9, h10, h11, h12⟩ := h
  refine ⟨xT_c h1 (i := 70) (j := 12) rfl (by omega) (by omega), xfr_t h2 (xfr_u rfl), ?_⟩
  exact ⟨⟨(congrArg Int32.toInt (xu_o (by decide))).trans h3.1, h3.2⟩, (congrArg Int32.toInt (xu_o (by decide))).trans h4, (congrArg Int32.toInt (xu_o (by decide))).trans h5, (congrArg Int32.toInt (xu_s _ _ _ _)).trans e, ⟨(congrArg Int32.toInt (xu_o (fun z => absurd z.1 (by decide)))).trans h7.1, (tk_c _ (fun j _ => (xu_o (fun z => absurd z.1 (by decide))))).trans h7.2⟩, ⟨(congrArg Int32.toInt (xu_o (fun z => absurd z.1 (by decide)))).trans h8.1, (tq_c _ (fun j _ _ => (xu_o (fun z => absurd z.1 (by decide))))).trans h8.2⟩, ⟨(congrArg Int32.toInt (xu_o (by decide))).trans h9.1, (tk_c _ (fun j _ => (xu_o (fun z => absurd z.1 (by decide))))).trans h9.2⟩, (congrArg Int32.toInt (xu_o (by decide))).trans h10, (congrArg Int32.toInt (xu_o (by decide))).trans h11, ⟨fun j hj => ((xu_o (fun z => absurd z.1 (by decide)))).trans (h12.1 j hj), fun j hj => ⟨((xu_o (fun z => absurd z.1 (by decide)))).trans (h12.2.1 j hj).1, ((xu_o (fun z => absurd z.1 (by decide)))).trans (h12.2.1 j hj).2⟩, fun j hj => ((xu_o (fun z => absurd z.1 (by decide)))).trans (h12.2.2 j hj)⟩⟩
theorem rC_dp {v : Int32} {x : Int} (h : rC m0 n t p ft nu k rc cs op dp ln m) (e : v.toInt = x) : rC m0 n t p ft nu k rc cs op x ln (xu m 70 13 v) := by
  obtain ⟨h1, h2, h3, h4, h5, h6, h7, h8, h9, h10, h11, h12⟩ := h
  refine ⟨xT_c h1 (i := 70) (j := 13) rfl (y32 v).1 (by have := (y32 v).2; omega), xfr_t h2 (xfr_u rfl), ?_⟩
  exact ⟨⟨(congrArg Int32.toInt (xu_o (by decide))).trans h3.1, h3.2⟩, (congrArg Int32.toInt (xu_o (by decide))).trans h4, (congrArg Int32.toInt (xu_o (by decide))).trans h5, (congrArg Int32.toInt (xu_o (by decide))).trans h6, ⟨(congrArg Int32.toInt (xu_o (fun z => absurd z.1 (by decide)))).trans h7.1, (tk_c _ (fun j _ => (xu_o (fun z => absurd z.1 (by decide))))).trans h7.2⟩, ⟨(congrArg Int32.toInt (xu_o (fun z => absurd z.1 (by decide)))).trans h8.1, (tq_c _ (fun j _ _ => (xu_o (fun z => absurd z.1 (by decide))))).trans h8.2⟩, ⟨(congrArg Int32.toInt (xu_o (by decide))).trans h9.1, (tk_c _ (fun j _ => (xu_o (fun z => absurd z.1 (by decide))))).trans h9.2⟩, (congrArg Int32.toInt (xu_s _ _ _ _)).trans e, (congrArg Int32.toInt (xu_o (by decide))).trans h11, ⟨fun j hj => ((xu_o (fun z => absurd z.1 (by decide)))).trans (h12.1 j hj), fun j hj => ⟨((xu_o (fun z => absurd z.1 (by decide)))).trans (h12.2.1 j hj).1, ((xu_o (fun z => absurd z.1 (by decide)))).trans (h12.2.1 j hj).2⟩, fun j hj => ((xu_o (fun z => absurd z.1 (by decide)))).trans (h12.2.2 j hj)⟩⟩
theorem rC_ln {v : Int32} {x : Int} (h : rC m0 n t p ft nu k rc cs op dp ln m) (e : v.toInt = x) (l1 : 0 ≤ x) (l2 : x ≤ 40) : rC m0 n t p ft nu k rc cs op dp x (xu m 70 14 v) := by
  obtain ⟨h1, h2, h3, h4, h5, h6, h7, h8, h9, h10, h11, h12⟩ := h
  refine ⟨xT_c h1 (i := 70) (j := 14) rfl (by omega) (by omega), xfr_t h2 (xfr_u rfl), ?_⟩
  exact ⟨⟨(congrArg Int32.toInt (xu_o (by decide))).trans h3.1, h3.2⟩, (congrArg Int32.toInt (xu_o (by decide))).trans h4, (congrArg Int32.toInt (xu_o (by decide))).trans h5, (congrArg Int32.toInt (xu_o (by decide))).trans h6, ⟨(congrArg Int32.toInt (xu_o (fun z => absurd z.1 (by decide)))).trans h7.1, (tk_c _ (fun j _ => (xu_o (fun z => absurd z.1 (by decide))))).trans h7.2⟩, ⟨(congrArg Int32.toInt (xu_o (fun z => absurd z.1 (by decide)))).trans h8.1, (tq_c _ (fun j _ _ => (xu_o (fun z => absurd z.1 (by decide))))).trans h8.2⟩, ⟨(congrArg Int32.toInt (xu_o (by decide))).trans h9.1, (tk_c _ (fun j _ => (xu_o (fun z => absurd z.1 (by decide))))).trans h9.2⟩, (congrArg Int32.toInt (xu_o (by decide))).trans h10, (congrArg Int32.toInt (xu_s _ _ _ _)).trans e, ⟨fun j hj => ((xu_o (fun z => absurd z.1 (by decide)))).trans (h12.1 j hj), fun j hj => ⟨((xu_o (fun z => absurd z.1 (by decide)))).trans (h12.2.1 j hj).1, ((xu_o (fun z => absurd z.1 (by decide)))).trans (h12.2.1 j hj).2⟩, fun j hj => ((xu_o (fun z => absurd z.1 (by decide)))).trans (h12.2.2 j hj)⟩⟩
theorem rC_t (h : rC m0 n t p ft nu k rc cs op dp ln m) : rT m n p ft nu m := ⟨h.1, xfr_r _ _, h.2.2.1, h.2.2.2.1, h.2.2.2.2.1⟩
theorem rN_t (N : rN m0 b n) (h : rC m0 n t p ft nu k rc cs op dp ln m) : rN m b n := by
  have f := h.2.1
  refine ⟨(congrArg Int32.toInt (f.2 70 1 rfl)).trans N.1, N.2.1, fun j hj => ⟨(N.2.2 j hj).1, (congrArg Int32.toInt (f.2 71 j ?_)).trans (N.2.2 j hj).2⟩⟩
  unfold yinM
  rfl
theorem rC_T {m' : xS} {p' : Nat} {ft' nu' : Int} (h : rC m0 n t p ft nu k rc cs op dp ln m) (g : rT m n p' ft' nu' m') : rC m0 n t p' ft' nu' k rc cs op dp ln m' := by
  obtain ⟨h1, h2, h3, h4, h5, h6, h7, h8, h9, h10, h11, h12⟩ := h
  obtain ⟨g1, g2, g3, g4, g5⟩ := g
  have e2 : ∀ j, m'.1 72 j = m.1 72 j := fun j => g2.2 72 j (by unfold yinM; rfl)
  have e3 : ∀ j, m'.1 73 j = m.1 73 j := fun j => g2.2 73 j (by unfold yinM; rfl)
  have e4 : ∀ j, m'.1 74 j = m.1 74 j := fun j => g2.2 74 j (by unfold yinM; rfl)
  have e5 : ∀ j, m'.1 75 j = m.1 75 j := fun j => g2.2 75 j (by unfold yinM; rfl)
  have e7 : ∀ j, m'.1 77 j = m.1 77 j := fun j => g2.2 77 j (by unfold yinM; rfl)
  refine ⟨g1, xfr_t h2 (xfr_l (by decide) g2), g3, g4, g5, ?_⟩
  exact ⟨(congrArg Int32.toInt (g2.2 70 12 rfl)).trans h6, ⟨(congrArg Int32.toInt (e3 t)).trans h7.1, (tk_c _ (fun j _ => e2 _)).trans h7.2⟩, ⟨(congrArg Int32.toInt (e5 t)).trans h8.1, (tq_c _ (fun j _ _ => e4 j)).trans h8.2⟩, ⟨(congrArg Int32.toInt (g2.2 70 16 rfl)).trans h9.1, (tk_c _ (fun j _ => e7 j)).trans h9.2⟩, (congrArg Int32.toInt (g2.2 70 13 rfl)).trans h10, (congrArg Int32.toInt (g2.2 70 14 rfl)).trans h11, ⟨fun j hj => (e2 j).trans (h12.1 j hj), fun j hj => ⟨(e3 j).trans (h12.2.1 j hj).1, (e5 j).trans (h12.2.1 j hj).2⟩, fun j hj => (e4 j).trans (h12.2.2 j hj)⟩⟩
theorem rC_m {Q : Int32 → xS → Prop} {R : Int32 → xS → Prop} {D : Option (Int32 × xS)} (z : xP D Q) (k : ∀ v m', Q v m' → R v m') : xP D R := xP_m z k
theorem rb73 (ht : t < 6) : xbn 73 t = some (0, 400) := by
  have : t = 0 ∨ t = 1 ∨ t = 2 ∨ t = 3 ∨ t = 4 ∨ t = 5 := by omega
  rcases this with rfl | rfl | rfl | rfl | rfl | rfl <;> rfl
theorem rb75 (ht : t < 6) : xbn 75 t = some (0, 12) := by
  have : t = 0 ∨ t = 1 ∨ t = 2 ∨ t = 3 ∨ t = 4 ∨ t = 5 := by omega
  rcases this with rfl | rfl | rfl | rfl | rfl | rfl <;> rfl
theorem rC_put {v u : Int32} (ht : t < 6) (h : rC m0 n t p ft nu k rc cs op dp ln m) (l : rc.length < 400) (e : u.toInt = rc.length + 1) : rC m0 n t p ft nu k (v.toInt :: rc) cs op dp ln (xu (xu m 72 (400 * t + rc.length) v) 73 t u) := by
  obtain ⟨h1, h2, h3, h4, h5, h6, h7, h8, h9, h10, h11, h12⟩ := h
  have b0 : xbn 72 (400 * t + rc.length) = some (-2147483648, 2147483647) := xbn_a (k := 0) (n := 2400) (ec := 0) (by decide) rfl (by decide) (by omega)
  have q : ∀ {i j : Nat}, i ≠ 72 → ¬ (i = 73 ∧ j = t) → (xu (xu m 72 (400 * t + rc.length) v) 73 t u).1 i j = m.1 i j := fun z1 z2 => (xu_o z2).trans (xu_o (fun z => z1 z.1))
  have q2 : ∀ {j : Nat}, j ≠ 400 * t + rc.length → (xu (xu m 72 (400 * t + rc.length) v) 73 t u).1 72 j = m.1 72 j := fun z1 => (xu_o (fun z => absurd z.1 (by decide))).trans (xu_o (fun z => z1 z.2))
  refine ⟨xT_c (xT_c h1 b0 (y32 v).1 (by have := (y32 v).2; omega)) (rb73 ht) (by omega) (by omega), xfr_t h2 (xfr_t (xfr_u (by unfold yinM; rfl)) (xfr_u (by unfold yinM; rfl))), ⟨(congrArg Int32.toInt (q (by decide) (fun z => absurd z.1 (by decide)))).trans h3.1, h3.2⟩, (congrArg Int32.toInt (q (by decide) (fun z => absurd z.1 (by decide)))).trans h4, (congrArg Int32.toInt (q (by decide) (fun z => absurd z.1 (by decide)))).trans h5, (congrArg Int32.toInt (q (by decide) (fun z => absurd z.1 (by decide)))).trans h6, ⟨(congrArg Int32.toInt (xu_s _ _ _ _)).trans (e.trans (by rw [List.length_cons]; omega)), ?_⟩, ⟨(congrArg Int32.toInt (q (by decide) (fun z => absurd z.1 (by decide)))).trans h8.1, (tq_c _ (fun j _ _ => q (by decide) (fun z => absurd z.1 (by decide)))).trans h8.2⟩, ⟨(congrArg Int32.toInt (q (by decide) (fun z => absurd z.1 (by decide)))).trans h9.1, (tk_c _ (fun j _ => q (by decide) (fun z => absurd z.1 (by decide)))).trans h9.2⟩, (congrArg Int32.toInt (q (by decide) (fun z => absurd z.1 (by decide)))).trans h10, (congrArg Int32.toInt (q (by decide) (fun z => absurd z.1 (by decide)))).trans h11, ⟨fun j hj => (q2 (by omega)).trans (h12.1 j hj), fun j hj => ⟨(q (by decide) (fun z => hj z.2)).trans (h12.2.1 j hj).1, (q (by decide) (fun z => absurd z.1 (by decide))).trans (h12.2.1 j hj).2⟩, fun j hj => (q (by decide) (fun z => absurd z.1 (by decide))).trans (h12.2.2 j hj)⟩⟩
  show ((xu (xu m 72 (400 * t + rc.length) v) 73 t u).1 72 (400 * t + rc.length)).toInt :: tk _ rc.length = _
  rw [(xu_o (fun z => absurd z.1 (by decide))).trans (xu_s _ _ _ _), tk_c (g := fun j => m.1 72 (400 * t + j)) _ (fun j hj => q2 (by omega)), h7.2]
theorem rC_push {v u : Int32} (h : rC m0 n t p ft nu k rc cs op dp ln m) (l : op.length < 400) (e : u.toInt = op.length + 1) : rC m0 n t p ft nu k rc cs (v.toInt :: op) dp ln (xu (xu m 77 op.length v) 70 16 u) := by
  obtain ⟨h1, h2, h3, h4, h5, h6, h7, h8, h9, h10, h11, h12⟩ := h
  have b0 : xbn 77 op.length = some (-2147483648, 2147483647) := xbn_a (k := 0) (n := 400) (ec := 0) (by decide) rfl (by decide) l
  have q : ∀ {i j : Nat}, i ≠ 77 → ¬ (i = 70 ∧ j = 16) → (xu (xu m 77 op.length v) 70 16 u).1 i j = m.1 i j := fun z1 z2 => (xu_o z2).trans (xu_o (fun z => z1 z.1))
  refine ⟨xT_c (xT_c h1 b0 (y32 v).1 (by have := (y32 v).2; omega)) (i := 70) (j := 16) rfl (by omega) (by omega), xfr_t h2 (xfr_t (xfr_u (by unfold yinM; rfl)) (xfr_u rfl)), ⟨(congrArg Int32.toInt (q (by decide) (by decide))).trans h3.1, h3.2⟩, (congrArg Int32.toInt (q (by decide) (by decide))).trans h4, (congrArg Int32.toInt (q (by decide) (by decide))).trans h5, (congrArg Int32.toInt (q (by decide) (by decide))).trans h6, ⟨(congrArg Int32.toInt (q (by decide) (fun z => absurd z.1 (by decide)))).trans h7.1, (tk_c _ (fun j _ => q (by decide) (fun z => absurd z.1 (by decide)))).trans h7.2⟩, ⟨(congrArg Int32.toInt (q (by decide) (fun z => absurd z.1 (by decide)))).trans h8.1, (tq_c _ (fun j _ _ => q (by decide) (fun z => absurd z.1 (by decide)))).trans h8.2⟩, ⟨(congrArg Int32.toInt (xu_s _ _ _ _)).trans (e.trans (by rw [List.length_cons]; omega)), ?_⟩, (congrArg Int32.toInt (q (by decide) (by decide))).trans h10, (congrArg Int32.toInt (q (by decide) (by decide))).trans h11, ⟨fun j hj => (q (by decide) (fun z => absurd z.1 (by decide))).trans (h12.1 j hj), fun j hj => ⟨(q (by decide) (fun z => absurd z.1 (by decide))).trans (h12.2.1 j hj).1, (q (by decide) (fun z => absurd z.1 (by decide))).trans (h12.2.1 j hj).2⟩, fun j hj => (q (by decide) (fun z => absurd z.1 (by decide))).trans (h12.2.2 j hj)⟩⟩
  show ((xu (xu m 77 op.length v) 70 16 u).1 77 op.length).toInt :: tk _ op.length = _
  rw [(xu_o (fun z => absurd z.1 (by decide))).trans (xu_s _ _ _ _), tk_c (g := m.1 77) _ (fun j hj => (xu_o (fun z => absurd z.1 (by decide))).trans (xu_o (fun z => by omega))), h9.2]
theorem rC_len {v : Int32} {os : List Int} (h : rC m0 n t p ft nu k rc cs op dp ln m) (e : v.toInt = (os.length : Int)) (ho : tk (m.1 77) os.length = os) (l : os.length ≤ 400) : rC m0 n t p ft nu k rc cs os dp ln (xu m 70 16 v) := by
  obtain ⟨h1, h2, h3, h4, h5, h6, h7, h8, h9, h10, h11, h12⟩ := h
  refine ⟨xT_c h1 (i := 70) (j := 16) rfl (by omega) (by omega), xfr_t h2 (xfr_u rfl), ?_⟩
  exact ⟨⟨(congrArg Int32.toInt (xu_o (by decide))).trans h3.1, h3.2⟩, (congrArg Int32.toInt (xu_o (by decide))).trans h4, (congrArg Int32.toInt (xu_o (by decide))).trans h5, (congrArg Int32.toInt (xu_o (by decide))).trans h6, ⟨(congrArg Int32.toInt (xu_o (fun z => absurd z.1 (by decide)))).trans h7.1, (tk_c _ (fun j _ => (xu_o (fun z => absurd z.1 (by decide))))).trans h7.2⟩, ⟨(congrArg Int32.toInt (xu_o (fun z => absurd z.1 (by decide)))).trans h8.1, (tq_c _ (fun j _ _ => (xu_o (fun z => absurd z.1 (by decide))))).trans h8.2⟩, ⟨(congrArg Int32.toInt (xu_s _ _ _ _)).trans e, (tk_c _ (fun j _ => xu_o (fun z => absurd z.1 (by decide)))).trans ho⟩, (congrArg Int32.toInt (xu_o (by decide))).trans h10, (congrArg Int32.toInt (xu_o (by decide))).trans h11, ⟨fun j hj => ((xu_o (fun z => absurd z.1 (by decide)))).trans (h12.1 j hj), fun j hj => ⟨((xu_o (fun z => absurd z.1 (by decide)))).trans (h12.2.1 j hj).1, ((xu_o (fun z => absurd z.1 (by decide)))).trans (h12.2.1 j hj).2⟩, fun j hj => ((xu_o (fun z => absurd z.1 (by decide)))).trans (h12.2.2 j hj)⟩⟩
theorem rC_pop {v : Int32} {o0 : Int} {os : List Int} (h : rC m0 n t p ft nu k rc cs (o0 :: os) dp ln m) (e : v.toInt = (os.length : Int)) : rC m0 n t p ft nu k rc cs os dp ln (xu m 70 16 v) ∧ (m.1 77 os.length).toInt = o0 := by
  have h9 := h.2.2.2.2.2.2.2.2.1
  have t7 : (m.1 77 os.length).toInt :: tk (m.1 77) os.length = o0 :: os := h9.2
  have b2 := h.1 70 16 (0, 400) rfl
  have b3 : (m.1 70 16).toInt ≤ 400 := b2.2
  have e9 := h9.1
  rw [List.length_cons] at e9
  exact ⟨rC_len h e (List.cons.inj t7).2 (by omega), (List.cons.inj t7).1⟩
theorem rC_i (h : rC m0 n t p ft nu k rc cs op dp ln m) : (m.1 70 8).toNatClampNeg = p := by
  have := h.2.2.1.1
  show (m.1 70 8).toInt.toNat = p
  omega
/-- a fault -/
def rF (m0 : xS) (f : Int) (m : xS) : Prop := ∃ (n t p : Nat) (nu k : Int) (rc : List Int) (cs : List (Int × Int × Int × Int)) (op : List Int) (dp ln : Int), (m0.1 70 11).toInt = (t : Int) ∧ rC m0 n t p f nu k rc cs op dp ln m
theorem R163c {a c : Int32} (h : rC m0 n t p 0 nu k rc cs op dp ln m) (a1 : 0 ≤ a.toInt) (a2 : a.toInt ≤ 400) (c1 : 0 ≤ c.toInt) (c2 : c.toInt ≤ 4) : xP (D163 F c a m) (fun v m' => v = 0 ∧ rC m0 n t p (1 + 8 * a.toInt + c.toInt) nu k rc cs op dp ln m') := xP_m (R163 (rC_t h) a1 a2 c1 c2) (fun v m' q => ⟨q.1, rC_T h (by
  have := q.2
  rw [show trf 0 (1 + 8 * a.toInt + c.toInt) = 1 + 8 * a.toInt + c.toInt from if_pos rfl] at this
  exact this)⟩)
/-- makes -/
theorem R173 {a : Int32} {kk : Nat} (h : rC m0 n t p 0 nu (kk : Int) rc cs op dp ln m) (hk : kk ≤ 60) (a1 : 0 ≤ a.toInt) (a2 : a.toInt ≤ 400) : xP (D173 F a m) (fun v m' => (60 ≤ kk ∧ v = 0 ∧ rC m0 n t p (1 + 8 * a.toInt + 3) nu (kk : Int) rc cs op dp ln m') ∨ (¬ 60 ≤ kk ∧ v = 1 ∧ rC m0 n t p 0 nu ((kk + 1 : Nat) : Int) rc cs op dp ln m')) := by
  have h6 := h.2.2.2.2.2.1
  unfold D173
  refine xP_i (fun c => xP_r (Or.inr ⟨?_, rfl, ?_⟩)) (fun c => ?_)
  · have c : (m.1 70 12).toInt ≠ 60 := zt c
    omega
  · have c : (m.1 70 12).toInt ≠ 60 := zt c
    exact rC_k h ((xa1 (by show _ ≤ _ + (1 : Int); omega) (by show _ + (1 : Int) ≤ _; omega)).trans (by rw [h6]; rfl)) (by omega) (by omega)
  · have c : (m.1 70 12).toInt = 60 := Decidable.not_not.mp (zf c)
    refine xP_b (R163c h a1 a2 (by decide) (by decide)) (fun v m1 q => ?_)
    obtain ⟨rfl, q⟩ := q
    exact xP_g (show xbo (0 : Int32) = true by decide) (xP_r (Or.inl ⟨by omega, rfl, q⟩))
/-- puts -/
theorem R172 {s v : Int32} {c : Int} (ht : t < 6) (hT : (m0.1 70 11).toInt = (t : Int)) (h : rC m0 n t p ft nu k rc cs op dp ln m) (l : rc.length < 400) (hc : (s + 16 * v).toInt = c) : xP (D172 F s v m) (fun _ m' => rC m0 n t p ft nu k (c :: rc) cs op dp ln m' ∧ m'.1 77 = m.1 77) := by
  have h7 := h.2.2.2.2.2.2.1.1
  have e11 : (m.1 70 11).toInt = (t : Int) := (congrArg Int32.toInt (h.2.1.2 70 11 rfl)).trans hT
  have et : (m.1 70 11).toNatClampNeg = t := by show (m.1 70 11).toInt.toNat = t; omega
  have e1 : (400 * m.1 70 11).toInt = 400 * (t : Int) := (xm1 (by show _ ≤ (400 : Int) * _; omega) (by show (400 : Int) * _ ≤ _; omega)).trans (by rw [e11]; rfl)
  have e2 : (400 * m.1 70 11 + m.1 73 t).toInt = 400 * (t : Int) + (rc.length : Int) := (xa1 (by omega) (by omega)).trans (by rw [e1, h7])
  have e3 : (400 * m.1 70 11 + m.1 73 t).toNatClampNeg = 400 * t + rc.length := by show (400 * m.1 70 11 + m.1 73 t).toInt.toNat = _; omega
  have e4 : (m.1 73 t + 1).toInt = rc.length + 1 := (xa1 (by show _ ≤ _ + (1 : Int); omega) (by show _ + (1 : Int) ≤ _; omega)).trans (by rw [h7]; rfl)
  have i7 : xib (m.1 70 11) 7 = true := xib_t (by omega) (by omega)
  unfold D172
  rw [et]
  refine xP_g i7 (xP_g (xib_t (by omega) (by omega)) (xP_g i7 (xP_g i7 (xP_r ?_))))
  rw [e3]
  have z := rC_put (v := s + 16 * v) ht h l e4
  rw [hc] at z
  exact ⟨z, (xu_row (by decide)).trans (xu_row (by decide))⟩
/-- opens -/
theorem R174 {v : Int32} {d0 : Nat} (h : rC m0 n t p 0 nu k rc cs op (d0 : Int) ln m) (hn : n ≤ 400) (l : op.length < 400) (hd : d0 ≤ 10) : xP (D174 F v m) (fun r m' => (10 ≤ d0 ∧ r = 0 ∧ rC m0 n t p (1 + 8 * (p : Int) + 2) nu k rc cs op (d0 : Int) ln m') ∨ (¬ 10 ≤ d0 ∧ r = 1 ∧ rC m0 n t p 0 nu k rc cs (v.toInt :: op) ((d0 + 1 : Nat) : Int) ln m')) := by
  have h9 := h.2.2.2.2.2.2.2.2.1.1
  have h10 := h.2.2.2.2.2.2.2.2.2.1
  have h3 := h.2.2.1
  have ei : (m.1 70 16).toNatClampNeg = op.length := by show (m.1 70 16).toInt.toNat = _; omega
  unfold D174
  refine xP_i (fun c => ?_) (fun c => ?_)
  · have c : (m.1 70 13).toInt ≠ 10 := zt c
    refine xP_g (xib_t (by omega) (by omega)) (xP_r (Or.inr ⟨by omega, rfl, ?_⟩))
    rw [ei]
    have z := rC_dp (v := m.1 70 13 + 1) (x := ((d0 + 1 : Nat) : Int)) h ((xa1 (by show _ ≤ _ + (1 : Int); omega) (by show _ + (1 : Int) ≤ _; omega)).trans (by rw [h10]; rfl))
    exact rC_push z l ((xa1 (by show _ ≤ _ + (1 : Int); omega) (by show _ + (1 : Int) ≤ _; omega)).trans (by rw [h9]; rfl))
  · have c : (m.1 70 13).toInt = 10 := Decidable.not_not.mp (zf c)
    refine xP_b (R163c h (by omega) (by omega) (by decide) (by decide)) (fun v m1 q => ?_)
    obtain ⟨rfl, q⟩ := q
    rw [h3.1] at q
    exact xP_g (show xbo (0 : Int32) = true by decide) (xP_r (Or.inl ⟨by omega, rfl, q⟩))
theorem R175 {v : Int32} : xP (D175 F v m) (fun r m' => m' = m ∧ r.toInt = (if v.toInt = 13 then 1 else if v.toInt = 12 then 2 else if v.toInt = 11 then 3 else 0)) := by
  unfold D175
  refine xP_i (fun c => xP_i (fun d => xP_i (fun e => xP_r ⟨rfl, ?_⟩) (fun e => xP_r ⟨rfl, ?_⟩)) (fun d => xP_r ⟨rfl, ?_⟩)) (fun c => xP_r ⟨rfl, ?_⟩)
  · have c : v.toInt ≠ 13 := zt c
    have d : v.toInt ≠ 12 := zt d
    have e : v.toInt ≠ 11 := zt e
    rw [if_neg c, if_neg d, if_neg e]
    rfl
  · have c : v.toInt ≠ 13 := zt c
    have d : v.toInt ≠ 12 := zt d
    have e : v.toInt = 11 := Decidable.not_not.mp (zf e)
    rw [if_neg c, if_neg d, if_pos e]
    rfl
  · have c : v.toInt ≠ 13 := zt c
    have d : v.toInt = 12 := Decidable.not_not.mp (zf d)
    rw [if_neg c, if_pos d]
    rfl
  · have c : v.toInt = 13 := Decidable.not_not.mp (zf c)
    rw [if_pos c]
    rfl
end RC
end
section
/-! The reference's reader of rules: words, values. -/
theorem twd_id (b : Nat → Int) (n p : Nat) : twd b n (tS tbl b n p) = twd b n p := by
  unfold twd
  rw [tS_id]
theorem tix_ne {w v : List Int} {vs : List (List Int)} (h : w ≠ v) : tix w (v :: vs) = (tix w vs).map (· + 1) := if_neg (fun z => h z.symm)
theorem tix_b : ∀ (ws : List (List Int)) (w : List Int) (u : Nat), tix w ws = some u → u < ws.length := by
  intro ws
  induction ws with
  | nil => intro w u z; cases z
  | cons y ys ih =>
    intro w u z
    unfold tix at z
    split at z
    · cases z
      exact Nat.succ_pos _
    · cases t : tix w ys with
      | none => rw [t] at z; cases z
      | some t2 =>
        rw [t] at z
        have := ih w t2 t
        have z : t2 + 1 = u := Option.some.inj z
        rw [List.length_cons]
        omega
/-- a step of the reference's code as one of the class's -/
def tenc (c : Int) : Int := if c % 16 = 0 then 40 + c / 16 else if c % 16 = 1 then 20 + c / 16 else if c % 16 = 14 then 13 else if 6 ≤ c % 16 ∧ c % 16 ≤ 10 then c % 16 - 2 else if c % 16 = 11 then 3 else if c % 16 = 12 then 2 else if c % 16 = 13 then 1 else c % 16 + 7
section RV
variable {m0 m : xS} {b : Nat → Int} {n t p : Nat} {ft nu : Int} {rc : List Int} {cs : List (Int × Int × Int × Int)} {op : List Int} {dp ln : Int} {F : Nat}
set_option maxRecDepth 4000 in
theorem R171 (hF : 500 ≤ F) (N : rN m0 b n) (h : rT m0 n p ft nu m) : xP (D171 F m) (fun r m' => rT m0 n (tsk b n p) ft nu m' ∧ ((∃ u : Nat, tix (twd b n p) tw1004 = some u ∧ r.toInt = (u : Int)) ∨ (tix (twd b n p) tw1004 = none ∧ r.toInt = -1))) := by
  unfold D171
  refine xP_b (R167 (W := [116, 111, 111, 108]) (w := 1953460076) hF N h (by decide) (by decide) (by decide)) (fun r0 m0 q0 => ?_)
  obtain ⟨h1, q0⟩ := q0
  dsimp only
  refine xP_i (fun c => ?_) (fun c => xP_r ⟨h1, Or.inl ⟨0, ?_, by decide⟩⟩)
  rotate_left
  · rcases q0 with ⟨-, q⟩ | ⟨q, -⟩
    · rw [q]
      decide
    · rw [q] at c
      cases c
  have n0 : twd b n p ≠ [116, 111, 111, 108] := by
    rcases q0 with ⟨q, -⟩ | ⟨-, q⟩
    · rw [q] at c
      cases c
    · exact q
  clear c q0
  refine xP_b (R167 (W := [107, 105, 110, 100]) (w := 1802071652) hF N h1 (by decide) (by decide) (by decide)) (fun r1 m1 q1 => ?_)
  obtain ⟨h2, q1⟩ := q1
  rw [show tsk b n (tsk b n p) = tsk b n p from tS_id p] at h2
  rw [show twd b n (tsk b n p) = twd b n p from twd_id b n p] at q1
  dsimp only
  refine xP_i (fun c => ?_) (fun c => xP_r ⟨h2, Or.inl ⟨1, ?_, by decide⟩⟩)
  rotate_left
  · rcases q1 with ⟨-, q⟩ | ⟨q, -⟩
    · rw [q]
      decide
    · rw [q] at c
      cases c
  have n1 : twd b n p ≠ [107, 105, 110, 100] := by
    rcases q1 with ⟨q, -⟩ | ⟨-, q⟩
    · rw [q] at c
      cases c
    · exact q
  clear c q1
  refine xP_b (R167 (W := [111, 119, 110, 101, 114]) (w := 478745093490) hF N h2 (by decide) (by decide) (by decide)) (fun r2 m2 q2 => ?_)
  obtain ⟨h3, q2⟩ := q2
  rw [show tsk b n (tsk b n p) = tsk b n p from tS_id p] at h3
  rw [show twd b n (tsk b n p) = twd b n p from twd_id b n p] at q2
  dsimp only
  refine xP_i (fun c => ?_) (fun c => xP_r ⟨h3, Or.inl ⟨2, ?_, by decide⟩⟩)
  rotate_left
  · rcases q2 with ⟨-, q⟩ | ⟨q, -⟩
    · rw [q]
      decide
    · rw [q] at c
      cases c
  have n2 : twd b n p ≠ [111, 119, 110, 101, 114] := by
    rcases q2 with ⟨q, -⟩ | ⟨-, q⟩
    · rw [q] at c
      cases c
    · exact q
  clear c q2
  refine xP_b (R167 (W := [104, 111, 108, 100, 101, 114]) (w := 114827769177458) hF N h3 (by decide) (by decide) (by decide)) (fun r3 m3 q3 => ?_)
  obtain ⟨h4, q3⟩ := q3
  rw [show tsk b n (tsk b n p) = tsk b n p from tS_id p] at h4
  rw [show twd b n (tsk b n p) = twd b n p from twd_id b n p] at q3
  dsimp only
  refine xP_i (fun c => ?_) (fun c => xP_r ⟨h4, Or.inl ⟨3, ?_, by decide⟩⟩)
  rotate_left
  · rcases q3 with ⟨-, q⟩ | ⟨q, -⟩
    · rw [q]
      decide
    · rw [q] at c
      cases c
  have n3 : twd b n p ≠ [104, 111, 108, 100, 101, 114] := by
    rcases q3 with ⟨q, -⟩ | ⟨-, q⟩
    · rw [q] at c
      cases c
    · exact q
  clear c q3
  refine xP_b (R167 (W := [116, 111]) (w := 29807) hF N h4 (by decide) (by decide) (by decide)) (fun r4 m4 q4 => ?_)
  obtain ⟨h5, q4⟩ := q4
  rw [show tsk b n (tsk b n p) = tsk b n p from tS_id p] at h5
  rw [show twd b n (tsk b n p) = twd b n p from twd_id b n p] at q4
  dsimp only
  refine xP_i (fun c => ?_) (fun c => xP_r ⟨h5, Or.inl ⟨4, ?_, by decide⟩⟩)
  rotate_left
  · rcases q4 with ⟨-, q⟩ | ⟨q, -⟩
    · rw [q]
      decide
    · rw [q] at c
      cases c
  have n4 : twd b n p ≠ [116, 111] := by
    rcases q4 with ⟨q, -⟩ | ⟨-, q⟩
    · rw [q] at c
      cases c
    · exact q
  clear c q4
  refine xP_b (R167 (W := [108, 101, 110, 116]) (w := 1818586740) hF N h5 (by decide) (by decide) (by decide)) (fun r5 m5 q5 => ?_)
  obtain ⟨h6, q5⟩ := q5
  rw [show tsk b n (tsk b n p) = tsk b n p from tS_id p] at h6
  rw [show twd b n (tsk b n p) = twd b n p from twd_id b n p] at q5
  dsimp only
  refine xP_i (fun c => ?_) (fun c => xP_r ⟨h6, Or.inl ⟨5, ?_, by decide⟩⟩)
  rotate_left
  · rcases q5 with ⟨-, q⟩ | ⟨q, -⟩
    · rw [q]
      decide
    · rw [q] at c
      cases c
  have n5 : twd b n p ≠ [108, 101, 110, 116] := by
    rcases q5 with ⟨q, -⟩ | ⟨-, q⟩
    · rw [q] at c
      cases c
    · exact q
  clear c q5
  refine xP_b (R167 (W := [115, 104, 97, 114, 112]) (w := 495672455792) hF N h6 (by decide) (by decide) (by decide)) (fun r6 m6 q6 => ?_)
  obtain ⟨h7, q6⟩ := q6
  rw [show tsk b n (tsk b n p) = tsk b n p from tS_id p] at h7
  rw [show twd b n (tsk b n p) = twd b n p from twd_id b n p] at q6
  dsimp only
  refine xP_i (fun c => ?_) (fun c => xP_r ⟨h7, Or.inl ⟨6, ?_, by decide⟩⟩)
  rotate_left
  · rcases q6 with ⟨-, q⟩ | ⟨q, -⟩
    · rw [q]
      decide
    · rw [q] at c
      cases c
  have n6 : twd b n p ≠ [115, 104, 97, 114, 112] := by
    rcases q6 with ⟨q, -⟩ | ⟨-, q⟩
    · rw [q] at c
      cases c
    · exact q
  clear c q6
  refine xP_b (R167 (W := [111, 117, 116]) (w := 7304564) hF N h7 (by decide) (by decide) (by decide)) (fun r7 m7 q7 => ?_)
  obtain ⟨h8, q7⟩ := q7
  rw [show tsk b n (tsk b n p) = tsk b n p from tS_id p] at h8
  rw [show twd b n (tsk b n p) = twd b n p from twd_id b n p] at q7
  dsimp only
  refine xP_i (fun c => ?_) (fun c => xP_r ⟨h8, Or.inl ⟨7, ?_, by decide⟩⟩)
  rotate_left
  · rcases q7 with ⟨-, q⟩ | ⟨q, -⟩
    · rw [q]
      decide
    · rw [q] at c
      cases c
  have n7 : twd b n p ≠ [111, 117, 116] := by
    rcases q7 with ⟨q, -⟩ | ⟨-, q⟩
    · rw [q] at c
      cases c
    · exact q
  clear c q7
  refine xP_b (R167 (W := [100, 97, 121]) (w := 6578553) hF N h8 (by decide) (by decide) (by decide)) (fun r8 m8 q8 => ?_)
  obtain ⟨h9, q8⟩ := q8
  rw [show tsk b n (tsk b n p) = tsk b n p from tS_id p] at h9
  rw [show twd b n (tsk b n p) = twd b n p from twd_id b n p] at q8
  dsimp only
  refine xP_i (fun c => ?_) (fun c => xP_r ⟨h9, Or.inl ⟨8, ?_, by decide⟩⟩)
  rotate_left
  · rcases q8 with ⟨-, q⟩ | ⟨q, -⟩
    · rw [q]
      decide
    · rw [q] at c
      cases c
  have n8 : twd b n p ≠ [100, 97, 121] := by
    rcases q8 with ⟨q, -⟩ | ⟨-, q⟩
    · rw [q] at c
      cases c
    · exact q
  clear c q8
  refine xP_b (R167 (W := [110, 101, 101, 100]) (w := 1852138852) hF N h9 (by decide) (by decide) (by decide)) (fun r9 m9 q9 => ?_)
  obtain ⟨h10, q9⟩ := q9
  rw [show tsk b n (tsk b n p) = tsk b n p from tS_id p] at h10
  rw [show twd b n (tsk b n p) = twd b n p from twd_id b n p] at q9
  dsimp only
  refine xP_i (fun c => ?_) (fun c => xP_r ⟨h10, Or.inl ⟨9, ?_, by decide⟩⟩)
  rotate_left
  · rcases q9 with ⟨-, q⟩ | ⟨q, -⟩
    · rw [q]
      decide
    · rw [q] at c
      cases c
  have n9 : twd b n p ≠ [110, 101, 101, 100] := by
    rcases q9 with ⟨q, -⟩ | ⟨-, q⟩
    · rw [q] at c
      cases c
    · exact q
  clear c q9
  refine xP_b (R167 (W := [112, 97, 121]) (w := 7364985) hF N h10 (by decide) (by decide) (by decide)) (fun r10 m10 q10 => ?_)
  obtain ⟨h11, q10⟩ := q10
  rw [show tsk b n (tsk b n p) = tsk b n p from tS_id p] at h11
  rw [show twd b n (tsk b n p) = twd b n p from twd_id b n p] at q10
  dsimp only
  refine xP_i (fun c => ?_) (fun c => xP_r ⟨h11, Or.inl ⟨10, ?_, by decide⟩⟩)
  rotate_left
  · rcases q10 with ⟨-, q⟩ | ⟨q, -⟩
    · rw [q]
      decide
    · rw [q] at c
      cases c
  have n10 : twd b n p ≠ [112, 97, 121] := by
    rcases q10 with ⟨q, -⟩ | ⟨-, q⟩
    · rw [q] at c
      cases c
    · exact q
  clear c q10
  refine xP_b (R167 (W := [111, 119, 101, 115]) (w := 1870095731) hF N h11 (by decide) (by decide) (by decide)) (fun r11 m11 q11 => ?_)
  obtain ⟨h12, q11⟩ := q11
  rw [show tsk b n (tsk b n p) = tsk b n p from tS_id p] at h12
  rw [show twd b n (tsk b n p) = twd b n p from twd_id b n p] at q11
  dsimp only
  refine xP_i (fun c => ?_) (fun c => xP_r ⟨h12, Or.inl ⟨11, ?_, by decide⟩⟩)
  rotate_left
  · rcases q11 with ⟨-, q⟩ | ⟨q, -⟩
    · rw [q]
      decide
    · rw [q] at c
      cases c
  have n11 : twd b n p ≠ [111, 119, 101, 115] := by
    rcases q11 with ⟨q, -⟩ | ⟨-, q⟩
    · rw [q] at c
      cases c
    · exact q
  clear c q11
  refine xP_b (R167 (W := [116, 114, 117, 115, 116, 115]) (w := 128034945594483) hF N h12 (by decide) (by decide) (by decide)) (fun r12 m12 q12 => ?_)
  obtain ⟨h13, q12⟩ := q12
  rw [show tsk b n (tsk b n p) = tsk b n p from tS_id p] at h13
  rw [show twd b n (tsk b n p) = twd b n p from twd_id b n p] at q12
  dsimp only
  refine xP_i (fun c => xP_r ⟨h13, Or.inr ⟨?_, by decide⟩⟩) (fun c => xP_r ⟨h13, Or.inl ⟨12, ?_, by decide⟩⟩)
  · have n12 : twd b n p ≠ [116, 114, 117, 115, 116, 115] := by
      rcases q12 with ⟨q, -⟩ | ⟨-, q⟩
      · rw [q] at c
        cases c
      · exact q
    show tix (twd b n p) [[116, 111, 111, 108], [107, 105, 110, 100], [111, 119, 110, 101, 114], [104, 111, 108, 100, 101, 114], [116, 111], [108, 101, 110, 116], [115, 104, 97, 114, 112], [111, 117, 116], [100, 97, 121], [110, 101, 101, 100], [112, 97, 121], [111, 119, 101, 115], [116, 114, 117, 115, 116, 115]] = none
    rw [tix_ne n0, tix_ne n1, tix_ne n2, tix_ne n3, tix_ne n4, tix_ne n5, tix_ne n6, tix_ne n7, tix_ne n8, tix_ne n9, tix_ne n10, tix_ne n11, tix_ne n12]
    rfl
  · rcases q12 with ⟨-, q⟩ | ⟨q, -⟩
    · rw [q]
      decide
    · rw [q] at c
      cases c
/-- value -/
theorem R177 {kk : Nat} (hF : 500 ≤ F) (N : rN m0 b n) (ht : t < 6) (hT : (m0.1 70 11).toInt = (t : Int)) (h : rC m0 n t p 0 nu (kk : Int) rc cs op dp ln m) (hk : kk ≤ 60) (l : rc.length < 400) : xP (D177 F m) (fun v m' => (∃ f, tval b n p kk = .inl f ∧ f ≠ 0 ∧ v = 0 ∧ rF m0 f m') ∨ (∃ x c nu', tval b n p kk = .inr x ∧ v = 1 ∧ tenc c = x.2 ∧ rC m0 n t x.1 0 nu' ((kk + 1 : Nat) : Int) (c :: rc) cs op dp ln m')) := by
  have n4 := N.2.1
  have pn : p ≤ n := h.2.2.1.2
  have l4 : tS tbl b n p ≤ n := tS_le p pn
  unfold D177 D177_39
  refine xP_b (R164 hF (rN_t N h) (rC_t h)) (fun v1 m1 q => ?_)
  obtain ⟨q, qv⟩ := q
  have c1 := rC_T h q
  have h3 := c1.2.2.1
  refine xP_b (R165 (rN_t N c1) (rC_t c1) h3.1) (fun r mx q1 => ?_)
  obtain ⟨rfl, q1⟩ := q1
  dsimp only
  refine xP_i (fun c => ?_) (fun c => ?_)
  · have nd : ¬ (tS tbl b n p < n ∧ tdg (b (tS tbl b n p)) = true) := by
      rcases q1 with ⟨q1, -⟩ | ⟨-, q1⟩
      · rw [q1] at c
        cases c
      · exact q1
    have dg : ¬ tdg (tsg b n (tsk b n p)) = true := by
      unfold tsg tsk
      split
      · next z => exact fun y => nd ⟨z, y⟩
      · decide
    have tv0 : tval b n p kk = (match tix (twd b n p) tw1004 with
      | none => .inl (1 + 8 * (tsk b n p : Int))
      | some u => if 60 ≤ kk then .inl (1 + 8 * (tsk b n p : Int) + 3) else .inr (tle b n p, 20 + (u : Int))) := by
      unfold tval
      rw [if_neg dg]
      cases tix (twd b n p) tw1004 <;> rfl
    rw [tv0]
    refine xP_b (R171 hF (rN_t N c1) (rC_t c1)) (fun r2 m2 q2 => ?_)
    obtain ⟨q2, q3⟩ := q2
    have c2 := rC_T c1 q2
    rw [show tsk b n (tS tbl b n p) = tS tbl b n p from tS_id p] at c2
    rw [twd_id] at q3
    have h32 := c2.2.2.1
    dsimp only
    refine xP_i (fun d => ?_) (fun d => ?_)
    · have d : (0 : Int) ≤ r2.toInt := zt d
      rcases q3 with ⟨u, q3, q4⟩ | ⟨-, q3⟩
      · have ub : u < 13 := tix_b _ _ _ q3
        rw [q3]
        refine xP_b (R173 (a := mx.1 70 8) c2 hk (by omega) (by omega)) (fun r3 m3 q5 => ?_)
        dsimp only
        rcases q5 with ⟨z, rfl, q5⟩ | ⟨z, rfl, q5⟩
        · refine xP_i (fun e => absurd e (by decide)) (fun _ => xP_r (Or.inl ⟨_, if_pos z, ?_, rfl, ?_⟩))
          · show 1 + 8 * ((tS tbl b n p : Nat) : Int) + 3 ≠ 0
            omega
          · rw [h3.1] at q5
            exact ⟨_, _, _, _, _, _, _, _, _, _, hT, q5⟩
        · refine xP_i (fun _ => ?_) (fun e => absurd e (by decide))
          refine xP_b (R168 hF (rN_t N q5) (rC_t q5)) (fun _ m4 q6 => ?_)
          have c4 := rC_T q5 q6
          have e16 : (1 + 16 * r2).toInt = 1 + 16 * (u : Int) := by
            have e1 : (16 * r2).toInt = 16 * r2.toInt := xm1 (by show _ ≤ (16 : Int) * _; omega) (by show (16 : Int) * _ ≤ _; omega)
            exact (xa1 (by show _ ≤ (1 : Int) + _; omega) (by show (1 : Int) + _ ≤ _; omega)).trans (by rw [e1, q4]; rfl)
          refine xP_b (R172 (s := 1) (v := r2) ht hT c4 l e16) (fun _ m5 q7 => xP_r (Or.inr ⟨_, _, _, if_neg z, rfl, ?_, q7.1⟩))
          show tenc (1 + 16 * (u : Int)) = 20 + (u : Int)
          unfold tenc
          rw [if_neg (by omega), if_pos (by omega)]
          omega
      · omega
    · have d : ¬ (0 : Int) ≤ r2.toInt := zf d
      rcases q3 with ⟨u, q3, q4⟩ | ⟨q3, -⟩
      · omega
      · rw [q3]
        refine xP_b (R163c c2 (by omega) (by omega) (by decide) (by decide)) (fun r3 m3 q5 => ?_)
        obtain ⟨rfl, q5⟩ := q5
        refine xP_g (show xbo (0 : Int32) = true by decide) (xP_r (Or.inl ⟨_, rfl, ?_, rfl, ?_⟩))
        · show 1 + 8 * ((tS tbl b n p : Nat) : Int) ≠ 0
          omega
        · rw [h3.1, show (1 + 8 * ((tS tbl b n p : Nat) : Int) + (0 : Int32).toInt) = 1 + 8 * ((tS tbl b n p : Nat) : Int) from Int.add_zero _] at q5
          exact ⟨_, _, _, _, _, _, _, _, _, _, hT, q5⟩
  · have nd : tS tbl b n p < n ∧ tdg (b (tS tbl b n p)) = true := by
      rcases q1 with ⟨-, q1⟩ | ⟨q1, -⟩
      · exact q1
      · rw [q1] at c
        cases c
    have dg : tdg (tsg b n (tsk b n p)) = true := by
      unfold tsg tsk
      rw [if_pos nd.1]
      exact nd.2
    have tv0 : tval b n p kk = (if 5 < tde b n p - tsk b n p then .inl (1 + 8 * (tsk b n p : Int) + 1) else if 60 ≤ kk then .inl (1 + 8 * (tsk b n p : Int) + 3) else .inr (tde b n p, 40 + tv b (tsk b n p) (tde b n p - tsk b n p))) := by
      unfold tval
      rw [if_pos dg]
    rw [tv0]
    have tb := tv_b (b := b) (p := tS tbl b n p) (n := tS tdg b n (tS tbl b n p) - tS tbl b n p) (fun j j1 j2 j3 => by
      have := (tS_in (P := tdg) (b := b) (n := n) (tS tbl b n p) j j1 (by omega)).2
      unfold tdg at this
      simp only [Bool.and_eq_true, decide_eq_true_eq] at this
      exact this) (min (tS tdg b n (tS tbl b n p) - tS tbl b n p) 5) (Nat.min_le_right _ _) (Nat.min_le_left _ _)
    have tb2 : tv b (tS tbl b n p) (min (tS tdg b n (tS tbl b n p) - tS tbl b n p) 5) < 100000 := by
      refine Int.lt_of_lt_of_le tb.2 ?_
      have : min (tS tdg b n (tS tbl b n p) - tS tbl b n p) 5 = 0 ∨ min (tS tdg b n (tS tbl b n p) - tS tbl b n p) 5 = 1 ∨ min (tS tdg b n (tS tbl b n p) - tS tbl b n p) 5 = 2 ∨ min (tS tdg b n (tS tbl b n p) - tS tbl b n p) 5 = 3 ∨ min (tS tdg b n (tS tbl b n p) - tS tbl b n p) 5 = 4 ∨ min (tS tdg b n (tS tbl b n p) - tS tbl b n p) 5 = 5 := by omega
      rcases this with z | z | z | z | z | z <;> (rw [z]; decide)
    refine xP_b (R170 (lo := 0) (hi := 99999) hF (rN_t N c1) (rC_t c1)) (fun r2 m2 q2 => ?_)
    simp only [tsk, tde, tS_id] at q2
    rw [show (0 : Int32).toInt = 0 from rfl, show (99999 : Int32).toInt = 99999 from rfl] at q2
    dsimp only
    rcases q2 with ⟨z, -⟩ | ⟨-, ⟨z, rfl, q2⟩ | ⟨z, rfl, q2⟩⟩
    · exact absurd nd z
    · have z5 : 5 < tS tdg b n (tS tbl b n p) - tS tbl b n p := by
        rcases z with z | z | z
        · exact z
        · omega
        · omega
      have c2 := rC_T c1 q2
      rw [show trf 0 (1 + 8 * ((tS tbl b n p : Nat) : Int) + 1) = 1 + 8 * ((tS tbl b n p : Nat) : Int) + 1 from if_pos rfl] at c2
      refine xP_i (fun _ => xP_r (Or.inl ⟨_, if_pos z5, ?_, rfl, ?_⟩)) (fun e => absurd e (by decide))
      · show 1 + 8 * ((tS tbl b n p : Nat) : Int) + 1 ≠ 0
        omega
      · exact ⟨_, _, _, _, _, _, _, _, _, _, hT, c2⟩
    · have z5 : ¬ 5 < tS tdg b n (tS tbl b n p) - tS tbl b n p := fun y => z (Or.inl y)
      have c2 := rC_T c1 q2
      rw [show min (tS tdg b n (tS tbl b n p) - tS tbl b n p) 5 = tS tdg b n (tS tbl b n p) - tS tbl b n p by omega] at c2 tb tb2
      refine xP_i (fun e => absurd e (by decide)) (fun _ => ?_)
      refine xP_b (R173 (a := mx.1 70 8) c2 hk (by omega) (by omega)) (fun r3 m3 q5 => ?_)
      dsimp only
      rcases q5 with ⟨z6, rfl, q5⟩ | ⟨z6, rfl, q5⟩
      · refine xP_i (fun e => absurd e (by decide)) (fun _ => xP_r (Or.inl ⟨_, (if_neg z5).trans (if_pos z6), ?_, rfl, ?_⟩))
        · show 1 + 8 * ((tS tbl b n p : Nat) : Int) + 3 ≠ 0
          omega
        · rw [h3.1] at q5
          exact ⟨_, _, _, _, _, _, _, _, _, _, hT, q5⟩
      · refine xP_i (fun _ => ?_) (fun e => absurd e (by decide))
        have h5 := q5.2.2.2.2.1
        have e16 : (0 + 16 * (m3.1 70 10)).toInt = 16 * tv b (tS tbl b n p) (tS tdg b n (tS tbl b n p) - tS tbl b n p) := by
          have e1 : (16 * (m3.1 70 10)).toInt = 16 * (m3.1 70 10).toInt := xm1 (by show _ ≤ (16 : Int) * _; omega) (by show (16 : Int) * _ ≤ _; omega)
          exact (xa1 (by show _ ≤ (0 : Int) + _; omega) (by show (0 : Int) + _ ≤ _; omega)).trans (by rw [e1, h5]; exact Int.zero_add _)
        refine xP_b (R172 (s := 0) (v := m3.1 70 10) ht hT q5 l e16) (fun _ m5 q7 => xP_r (Or.inr ⟨_, _, _, (if_neg z5).trans (if_neg z6), rfl, ?_, q7.1⟩))
        show tenc (16 * tv b (tS tbl b n p) (tS tdg b n (tS tbl b n p) - tS tbl b n p)) = 40 + tv b (tS tbl b n p) (tS tdg b n (tS tbl b n p) - tS tbl b n p)
        unfold tenc
        rw [if_pos (by omega)]
        omega
end RV
end
section
/-! The reference's terms and sums: the machine does the same. -/
def stn (b : Nat → Int) (n : Nat) : Nat → tSt → Int ⊕ tSt
  | 0, s => .inr s
  | j + 1, s => match tstp b n s with
    | .inl f => .inl f
    | .inr s' => stn b n j s'
theorem stn_add {b : Nat → Int} {n : Nat} {j : Nat} : ∀ (i : Nat) {s s' : tSt}, stn b n i s = .inr s' → stn b n (i + j) s = stn b n j s' := by
  intro i
  induction i with
  | zero =>
    intro s s' h
    have h : Sum.inr s = (Sum.inr s' : Int ⊕ tSt) := h
    rw [Nat.zero_add, Sum.inr.inj h]
  | succ i ih =>
    intro s s' h
    rw [show i + 1 + j = (i + j) + 1 by omega]
    have h : (match tstp b n s with
      | .inl f => (Sum.inl f : Int ⊕ tSt)
      | .inr s' => stn b n i s') = (Sum.inr s' : Int ⊕ tSt) := h
    show (match tstp b n s with
      | .inl f => (Sum.inl f : Int ⊕ tSt)
      | .inr s' => stn b n (i + j) s') = _
    cases e : tstp b n s with
    | inl f => rw [e] at h; cases h
    | inr s1 =>
      rw [e] at h
      exact ih h
theorem stn_1 {b : Nat → Int} {n : Nat} {s : tSt} {x : Int ⊕ tSt} (h : tstp b n s = x) : stn b n 1 s = x := by
  show (match tstp b n s with
    | .inl f => .inl f
    | .inr s' => .inr s') = x
  rw [h]
  cases x <;> rfl
theorem tSe_stop {o : Int} {ws out : List Int} (h : ∀ w vs, ws = w :: vs → tcl w < tcl o) : tSe o ws out = (out, ws, 0) := by
  cases ws with
  | nil => rfl
  | cons w vs =>
    have := h w vs rfl
    exact if_neg (by omega)
theorem tSe_app {o : Int} {ws : List Int} (h : ∀ w vs, ws = w :: vs → tcl w < tcl o) : ∀ (Z out : List Int), (∀ z ∈ Z, tcl o ≤ tcl z) → (tSe o (Z ++ ws) out).1 = Z.reverse ++ out ∧ (tSe o (Z ++ ws) out).2.1 = ws := by
  intro Z
  induction Z with
  | nil =>
    intro out _
    rw [List.nil_append, tSe_stop h]
    exact ⟨rfl, rfl⟩
  | cons z Z ih =>
    intro out hz
    have e : tSe o (z :: (Z ++ ws)) out = ((tSe o (Z ++ ws) (z :: out)).1, (tSe o (Z ++ ws) (z :: out)).2.1, (tSe o (Z ++ ws) (z :: out)).2.2 + (if z = 3 then 1 else 0)) := if_pos (hz z List.mem_cons_self)
    obtain ⟨a1, a2⟩ := ih (z :: out) (fun y hy => hz y (List.mem_cons_of_mem _ hy))
    rw [List.cons_append, e]
    refine ⟨?_, a2⟩
    show (tSe o (Z ++ ws) (z :: out)).1 = _
    rw [a1, List.reverse_cons, List.append_assoc]
    rfl
theorem tval_eq {b : Nat → Int} {n p q k : Nat} (h : tsk b n p = tsk b n q) : tval b n p k = tval b n q k := by
  have h : tS tbl b n p = tS tbl b n q := h
  unfold tval tsk tde twd tle
  rw [h]
theorem tval_lt {b : Nat → Int} {n p k : Nat} {x : Nat × Int} (pn : p ≤ n) (a1 : tval b n p k = .inr x) : tsk b n p < x.1 ∧ x.1 ≤ n ∧ k < 60 := by
  have l4 : tS tbl b n p ≤ n := tS_le p pn
  unfold tval at a1
  split at a1
  · next dg =>
    split at a1
    · cases a1
    · split at a1
      · cases a1
      · next z1 z2 =>
        have ln := tsg_lt (b := b) (n := n) (p := tsk b n p) rfl (fun z => by rw [z] at dg; cases dg)
        have ld : tS tbl b n p < tS tdg b n (tS tbl b n p) := tS_lt ln.1 (by rw [ln.2]; exact dg)
        have a1 := Sum.inr.inj a1
        rw [← a1]
        exact ⟨ld, tS_le _ l4, by omega⟩
  · split at a1
    · cases a1
    · next u hu =>
      split at a1
      · cases a1
      · next z2 =>
        have a1 := Sum.inr.inj a1
        rw [← a1]
        refine ⟨?_, tS_le _ l4, by omega⟩
        show tS tbl b n p < tS tlt b n (tS tbl b n p)
        have ne : twd b n p ≠ [] := fun z => by
          rw [z] at hu
          have : tix ([] : List Int) tw1004 = none := by decide
          rw [this] at hu
          cases hu
        have g3 : tS tbl b n p ≤ tS tlt b n (tS tbl b n p) := tS_ge _
        by_cases e : tS tlt b n (tS tbl b n p) = tS tbl b n p
        · exact absurd (show twd b n p = [] by show tw b (tS tbl b n p) (tS tlt b n (tS tbl b n p)) = []; rw [e, tw_nil]) ne
        · omega
section RS
variable {m0 m : xS} {b : Nat → Int} {n t : Nat} {cs : List (Int × Int × Int × Int)} {op : List Int} {dp ln : Int} {F : Nat} {s0 : tSt} {pm0 : Nat} {Wt : List Int} {cl wh : Nat} {rp ou : List Int}
/-- both stand behind a value; Z waits in the machine and stands in the code already -/
def rY (m0 : xS) (b : Nat → Int) (n t : Nat) (cs : List (Int × Int × Int × Int)) (op : List Int) (dp ln : Int) (rp ou : List Int) (s0 : tSt) (pm0 : Nat) (Wt : List Int) (cl wh : Nat) (lo : Int) (pr : Nat) (m : xS) : Prop := ∃ (j pm k : Nat) (nu : Int) (rc out Z : List Int), stn b n j s0 = .inr (pm, k, out ++ ou, Z ++ Wt, cl, 3, wh) ∧ pm0 + j ≤ pm ∧ pm ≤ pr ∧ tsk b n pr = tsk b n pm ∧ (∀ z ∈ Z, lo ≤ tcl z) ∧ rc.map tenc = Z.reverse ++ out ∧ (rp.length ≤ ou.length ∧ out.length + ou.length + Z.length + Wt.length + 1 ≤ pm) ∧ k ≤ 60 ∧ rC m0 n t pr 0 nu (k : Int) (rc ++ rp) cs op dp ln m
def rZ (m0 : xS) (b : Nat → Int) (n : Nat) (s0 : tSt) (pm0 : Nat) (m : xS) : Prop := ∃ (j : Nat) (g : Int), g ≠ 0 ∧ stn b n j s0 = .inl g ∧ pm0 + j ≤ n + 1 ∧ rF m0 g m
def rX (m0 : xS) (b : Nat → Int) (n t : Nat) (cs : List (Int × Int × Int × Int)) (op : List Int) (dp ln : Int) (rp ou : List Int) (s0 : tSt) (pm0 : Nat) (Wt : List Int) (cl wh : Nat) (lo : Int) (C : Int → Prop) (v : Int32) (m : xS) : Prop := (v = 0 ∧ rZ m0 b n s0 pm0 m) ∨ (v = 1 ∧ ∃ pr, C (tsg b n (tsk b n pr)) ∧ rY m0 b n t cs op dp ln rp ou s0 pm0 Wt cl wh lo pr m)
theorem rZ_tr {i : Nat} {s1 : tSt} {pm1 : Nat} (h : stn b n i s0 = .inr s1) (l : pm0 + i ≤ pm1) (z : rZ m0 b n s1 pm1 m) : rZ m0 b n s0 pm0 m := by
  obtain ⟨j, g, a1, a2, a3, a4⟩ := z
  exact ⟨i + j, g, a1, (stn_add i h).trans a2, by omega, a4⟩
theorem rY_tr {i : Nat} {s1 : tSt} {pm1 pr : Nat} {lo : Int} (h : stn b n i s0 = .inr s1) (l : pm0 + i ≤ pm1) (z : rY m0 b n t cs op dp ln rp ou s1 pm1 Wt cl wh lo pr m) : rY m0 b n t cs op dp ln rp ou s0 pm0 Wt cl wh lo pr m := by
  obtain ⟨j, pm, k, nu, rc, out, Z, a1, a2, a3⟩ := z
  exact ⟨i + j, pm, k, nu, rc, out, Z, (stn_add i h).trans a1, by omega, a3⟩
/-- a value: both read it -/
theorem R177s {pm pr k : Nat} {nu : Int} {rc out : List Int} (hF : 500 ≤ F) (N : rN m0 b n) (ht : t < 6) (hT : (m0.1 70 11).toInt = (t : Int)) (hs : tstp b n s0 = tvs b n pm k (out ++ ou) Wt cl wh) (l0 : pm0 ≤ pm) (l1 : pm ≤ pr) (e : tsk b n pr = tsk b n pm) (hr : rc.map tenc = out) (hl : rp.length ≤ ou.length ∧ out.length + ou.length + Wt.length + 1 ≤ pm) (hk : k ≤ 60) (h : rC m0 n t pr 0 nu (k : Int) (rc ++ rp) cs op dp ln m) : xP (D177 F m) (fun v m' => (v = 0 ∧ rZ m0 b n s0 pm0 m') ∨ (v = 1 ∧ ∃ (pr' : Nat) (nu' : Int) (rc' out' : List Int), stn b n 1 s0 = .inr (pr', k + 1, out' ++ ou, Wt, cl, 3, wh) ∧ pm0 + 1 ≤ pr' ∧ rc'.map tenc = out' ∧ (rp.length ≤ ou.length ∧ out'.length + ou.length + Wt.length + 1 ≤ pr') ∧ k + 1 ≤ 60 ∧ rC m0 n t pr' 0 nu' ((k + 1 : Nat) : Int) (rc' ++ rp) cs op dp ln m')) := by
  have n4 := N.2.1
  have prn : pr ≤ n := h.2.2.1.2
  have rl : rc.length = out.length := by rw [← hr, List.length_map]
  refine xP_m (R177 hF N ht hT h hk (by rw [List.length_append]; omega)) (fun v m' q => ?_)
  rcases q with ⟨f, a1, a2, a3, a4⟩ | ⟨x, c, nu', a1, a2, a3, a4⟩
  · refine Or.inl ⟨a3, 1, f, a2, ?_, by omega, a4⟩
    refine stn_1 (hs.trans ?_)
    unfold tvs
    rw [← tval_eq e, a1]
  · refine Or.inr ⟨a2, x.1, nu', c :: rc, x.2 :: out, ?_, ?_, ?_, ?_, ?_, a4⟩
    · refine stn_1 (hs.trans ?_)
      unfold tvs
      rw [← tval_eq e, a1]
      rfl
    · have := (tval_lt prn a1).1
      have g : pr ≤ tsk b n pr := tS_ge pr
      omega
    · rw [List.map_cons, hr, a3]
    · have := (tval_lt prn a1).1
      have g : pr ≤ tsk b n pr := tS_ge pr
      rw [List.length_cons]
      exact ⟨hl.1, by omega⟩
    · have := (tval_lt prn a1).2.2
      omega
abbrev cT (c : Int) : Prop := c ≠ 42 ∧ c ≠ 47 ∧ c ≠ 37
abbrev cS (c : Int) : Prop := topr c = -1
/-- behind an operation's sign: the machine joins, both read a value, the reference puts the operation -/
theorem R178_74 {o : Int} {w0 : Int32} {pr : Nat} {g : xS → Option (Int32 × xS)} (hF : 500 ≤ F) (N : rN m0 b n) (ht : t < 6) (hT : (m0.1 70 11).toInt = (t : Int)) (hw : wh ≠ 3) (hst : ∀ w vs, Wt = w :: vs → tcl w < 11) (h : rY m0 b n t cs op dp ln rp ou s0 pm0 Wt cl wh 11 pr m) (ps : tsk b n pr = pr) (ho : topr (tsg b n pr) = o) (o1 : tcl o = 11) (o2 : o ≠ -1) (lt : pr < n) (hc : tenc (w0 + 16 * 0 : Int32).toInt = o) (IH : ∀ m' pr', rY m0 b n t cs op dp ln rp ou s0 pm0 Wt cl wh 11 pr' m' → pr < pr' → xP (g m') (rX m0 b n t cs op dp ln rp ou s0 pm0 Wt cl wh 11 cT)) : xP (D178_74 F g w0 m) (rX m0 b n t cs op dp ln rp ou s0 pm0 Wt cl wh 11 cT) := by
  have n4 := N.2.1
  obtain ⟨j, pm, k, nu, rc, out, Z, a1, a2, a3, a4, a5, a6, a7, a8, a9⟩ := h
  have h3 := a9.2.2.1
  have hM := rC_T a9 (rT_p (v := m.1 70 8 + 1) (x := pr + 1) (rC_t a9) ((xa1 (by show _ ≤ _ + (1 : Int); omega) (by show _ + (1 : Int) ≤ _; omega)).trans (by rw [h3.1]; rfl)) n4 lt)
  have ea : tsk b n pm = pr := by rw [← a4, ps]
  have step : tstp b n (pm, k, out ++ ou, Z ++ Wt, cl, 3, wh) = .inr (pr + 1, k, (Z.reverse ++ out) ++ ou, o :: Wt, cl, 2, wh) := by
    have e2 := tSe_app (o := o) (ws := Wt) (by rw [o1]; exact hst) Z (out ++ ou) (by rw [o1]; exact a5)
    show tjnt b n pm k (out ++ ou) (Z ++ Wt) cl wh = _
    unfold tjnt
    rw [ea, ho, if_pos ⟨hw, o2⟩, e2.1, e2.2, List.append_assoc]
  have st2 : stn b n (j + 1) s0 = .inr (pr + 1, k, (Z.reverse ++ out) ++ ou, o :: Wt, cl, 2, wh) := (stn_add j a1).trans (stn_1 step)
  have rl : rc.length = Z.length + out.length := by
    have := congrArg List.length a6
    rw [List.length_map, List.length_append, List.length_reverse] at this
    exact this
  unfold D178_74
  refine xP_b (R177s (s0 := (pr + 1, k, (Z.reverse ++ out) ++ ou, o :: Wt, cl, 2, wh)) (pm0 := pr + 1) (pm := pr + 1) (pr := pr + 1) (Wt := o :: Wt) (cl := cl) (wh := wh) hF N ht hT rfl (Nat.le_refl _) (Nat.le_refl _) rfl a6 (by rw [List.length_append, List.length_reverse, List.length_cons]; exact ⟨a7.1, by omega⟩) a8 hM) (fun v m2 q => ?_)
  dsimp only
  rcases q with ⟨rfl, q⟩ | ⟨rfl, pr', nu', rc', out', b1, b2, b3, b4, b5, b6⟩
  · exact xP_i (fun c => absurd c (by decide)) (fun _ => xP_r (Or.inl ⟨rfl, rZ_tr st2 (by omega) q⟩))
  · refine xP_i (fun _ => ?_) (fun c => absurd c (by decide))
    have prn : pr' ≤ n := b6.2.2.1.2
    have rl' : rc'.length = out'.length := by rw [← b3, List.length_map]
    rw [List.length_cons] at b4
    refine xP_b (R172 (s := w0) (v := 0) (c := (w0 + 16 * 0 : Int32).toInt) ht hT b6 (by rw [List.length_append]; omega) rfl) (fun _ m3 q3 => ?_)
    refine IH m3 pr' ⟨j + 1 + 1, pr', k + 1, nu', (w0 + 16 * 0 : Int32).toInt :: rc', out', [o], ?_, by omega, Nat.le_refl _, rfl, ?_, ?_, ?_, b5, q3.1⟩ (by omega)
    · exact (stn_add (j + 1) st2).trans b1
    · intro z hz
      rw [List.mem_singleton.mp hz, o1]
      exact Int.le_refl _
    · rw [List.map_cons, hc, b3]
      rfl
    · show rp.length ≤ ou.length ∧ out'.length + ou.length + 1 + Wt.length + 1 ≤ pr'
      exact ⟨b4.1, by omega⟩
theorem rbyte {m : xS} {pr : Nat} {nu k : Int} {rc : List Int} {c : Int} (N : rN m0 b n) (h : rC m0 n t pr 0 nu k rc cs op dp ln m) (lt : pr < n) (hc : 0 ≤ c ∧ c < 128) : (m.1 71 pr).toInt = c ↔ b pr = c := by
  obtain ⟨z1, z2⟩ := (rN_t N h).2.2 pr lt
  rw [z2]
  split <;> omega
theorem R178_36 {pr : Nat} {g : xS → Option (Int32 × xS)} (hF : 500 ≤ F) (N : rN m0 b n) (ht : t < 6) (hT : (m0.1 70 11).toInt = (t : Int)) (hw : wh ≠ 3) (hst : ∀ w vs, Wt = w :: vs → tcl w < 11) (h : rY m0 b n t cs op dp ln rp ou s0 pm0 Wt cl wh 11 pr m) (ps : tsk b n pr = pr) (ho : tsg b n pr = 42 ∨ tsg b n pr = 47 ∨ tsg b n pr = 37) (IH : ∀ m' pr', rY m0 b n t cs op dp ln rp ou s0 pm0 Wt cl wh 11 pr' m' → pr < pr' → xP (g m') (rX m0 b n t cs op dp ln rp ou s0 pm0 Wt cl wh 11 cT)) : xP (D178_36 F g m) (rX m0 b n t cs op dp ln rp ou s0 pm0 Wt cl wh 11 cT) := by
  have n4 := N.2.1
  have h0 := h
  obtain ⟨j, pm, k, nu, rc, out, Z, a1, a2, a3, a4, a5, a6, a7, a8, a9⟩ := h
  have h3 := a9.2.2.1
  have lt : pr < n ∧ b pr = tsg b n pr := by
    rcases ho with z | z | z
    · exact ⟨(tsg_lt z (by decide)).1, (tsg_lt z (by decide)).2.trans z.symm⟩
    · exact ⟨(tsg_lt z (by decide)).1, (tsg_lt z (by decide)).2.trans z.symm⟩
    · exact ⟨(tsg_lt z (by decide)).1, (tsg_lt z (by decide)).2.trans z.symm⟩
  have xi : xib (m.1 70 8) 400 = true := xib_t (by omega) (by omega)
  unfold D178_36
  rw [rC_i a9]
  refine xP_g xi (xP_i (fun c => xP_g xi (xP_i (fun d => ?_) (fun d => ?_))) (fun c => ?_))
  · have c : (m.1 71 pr).toInt ≠ 42 := zt c
    have d : (m.1 71 pr).toInt ≠ 47 := zt d
    have e : tsg b n pr = 37 := by
      rcases ho with z | z | z
      · exact absurd ((rbyte N a9 lt.1 (by decide)).mpr (lt.2.trans z)) c
      · exact absurd ((rbyte N a9 lt.1 (by decide)).mpr (lt.2.trans z)) d
      · exact z
    exact R178_74 (o := 13) hF N ht hT hw hst h0 ps (by rw [e]; decide) (by decide) (by decide) lt.1 (by decide) IH
  · have d : (m.1 71 pr).toInt = 47 := Decidable.not_not.mp (zf d)
    have e : tsg b n pr = 47 := lt.2.symm.trans ((rbyte N a9 lt.1 (by decide)).mp d)
    exact R178_74 (o := 12) hF N ht hT hw hst h0 ps (by rw [e]; decide) (by decide) (by decide) lt.1 (by decide) IH
  · have c : (m.1 71 pr).toInt = 42 := Decidable.not_not.mp (zf c)
    have e : tsg b n pr = 42 := lt.2.symm.trans ((rbyte N a9 lt.1 (by decide)).mp c)
    exact R178_74 (o := 11) hF N ht hT hw hst h0 ps (by rw [e]; decide) (by decide) (by decide) lt.1 (by decide) IH
/-- see, where both stand behind a value -/
theorem R164y {pr : Nat} {lo : Int} (hF : 500 ≤ F) (N : rN m0 b n) (h : rY m0 b n t cs op dp ln rp ou s0 pm0 Wt cl wh lo pr m) : xP (D164 F m) (fun v m' => rY m0 b n t cs op dp ln rp ou s0 pm0 Wt cl wh lo (tsk b n pr) m' ∧ v.toInt = tsg b n (tsk b n pr)) := by
  obtain ⟨j, pm, k, nu, rc, out, Z, a1, a2, a3, a4, a5, a6, a7, a8, a9⟩ := h
  refine xP_m (R164 hF (rN_t N a9) (rC_t a9)) (fun v m' q => ⟨⟨j, pm, k, nu, rc, out, Z, a1, a2, ?_, ?_, a5, a6, a7, a8, rC_T a9 q.1⟩, q.2⟩)
  · have := tS_ge (P := tbl) (b := b) (n := n) pr
    exact Nat.le_trans a3 this
  · rw [show tsk b n (tsk b n pr) = tsk b n pr from tS_id pr, a4]
theorem R178_9 (hF : 500 ≤ F) (N : rN m0 b n) (ht : t < 6) (hT : (m0.1 70 11).toInt = (t : Int)) (hw : wh ≠ 3) (hst : ∀ w vs, Wt = w :: vs → tcl w < 11) : ∀ (f : Nat) {pr : Nat} {m : xS}, rY m0 b n t cs op dp ln rp ou s0 pm0 Wt cl wh 11 pr m → n - pr < f → xP (D178_9 F f m) (rX m0 b n t cs op dp ln rp ou s0 pm0 Wt cl wh 11 cT) := by
  intro f
  induction f with
  | zero => intro pr m _ l; omega
  | succ f ih =>
    intro pr m h l
    have id : tsk b n (tsk b n pr) = tsk b n pr := tS_id pr
    have ge : pr ≤ tsk b n pr := tS_ge pr
    have go : ∀ {m' : xS}, rY m0 b n t cs op dp ln rp ou s0 pm0 Wt cl wh 11 (tsk b n pr) m' → (tsg b n (tsk b n pr) = 42 ∨ tsg b n (tsk b n pr) = 47 ∨ tsg b n (tsk b n pr) = 37) → xP (D178_36 F (D178_9 F f) m') (rX m0 b n t cs op dp ln rp ou s0 pm0 Wt cl wh 11 cT) := fun {m'} hh ho => R178_36 hF N ht hT hw hst hh id ho (fun m2 pr2 h2 l2 => by
      refine ih h2 ?_
      have : tsk b n pr < n := by
        rcases ho with z | z | z
        · exact (tsg_lt z (by decide)).1
        · exact (tsg_lt z (by decide)).1
        · exact (tsg_lt z (by decide)).1
      omega)
    unfold D178_9
    refine xP_b (R164y hF N h) (fun v1 m1 q1 => ?_)
    obtain ⟨q1, e1⟩ := q1
    dsimp only
    refine xP_i (fun c => go q1 (Or.inl (e1.symm.trans (zt c)))) (fun c => ?_)
    refine xP_b (R164y hF N q1) (fun v2 m2 q2 => ?_)
    rw [id] at q2
    obtain ⟨q2, e2⟩ := q2
    dsimp only
    refine xP_i (fun d => go q2 (Or.inr (Or.inl (e2.symm.trans (zt d))))) (fun d => ?_)
    refine xP_b (R164y hF N q2) (fun v3 m3 q3 => ?_)
    rw [id] at q3
    obtain ⟨q3, e3⟩ := q3
    dsimp only
    refine xP_i (fun e => xP_r (Or.inr ⟨rfl, tsk b n pr, ?_, q3⟩)) (fun e => ?_)
    · rw [id]
      exact ⟨fun z => (zf c : ¬ v1.toInt = 42) (e1.trans z), fun z => (zf d : ¬ v2.toInt = 47) (e2.trans z), fun z => (zt e : v3.toInt ≠ 37) (e3.trans z)⟩
    · have e : v3.toInt = 37 := Decidable.not_not.mp (zf e)
      exact go q3 (Or.inr (Or.inr (e3.symm.trans e)))
/-- term -/
theorem R178 {pm pr k : Nat} {nu : Int} {rc out : List Int} (hF : 500 ≤ F) (N : rN m0 b n) (ht : t < 6) (hT : (m0.1 70 11).toInt = (t : Int)) (hw : wh ≠ 3) (hst : ∀ w vs, Wt = w :: vs → tcl w < 11) (hs : tstp b n s0 = tvs b n pm k (out ++ ou) Wt cl wh) (l0 : pm0 ≤ pm) (l1 : pm ≤ pr) (e : tsk b n pr = tsk b n pm) (hr : rc.map tenc = out) (hl : rp.length ≤ ou.length ∧ out.length + ou.length + Wt.length + 1 ≤ pm) (hk : k ≤ 60) (h : rC m0 n t pr 0 nu (k : Int) (rc ++ rp) cs op dp ln m) : xP (D178 F m) (rX m0 b n t cs op dp ln rp ou s0 pm0 Wt cl wh 11 cT) := by
  have n4 := N.2.1
  unfold D178
  refine xP_b (R177s hF N ht hT hs l0 l1 e hr hl hk h) (fun v m2 q => ?_)
  dsimp only
  rcases q with ⟨rfl, q⟩ | ⟨rfl, pr', nu', rc', out', b1, b2, b3, b4, b5, b6⟩
  · exact xP_i (fun c => absurd c (by decide)) (fun _ => xP_r (Or.inl ⟨rfl, q⟩))
  · refine xP_i (fun _ => ?_) (fun c => absurd c (by decide))
    refine R178_9 hF N ht hT hw hst F (pr := pr') ⟨1, pr', k + 1, nu', rc', out', [], b1, b2, Nat.le_refl _, rfl, fun z hz => (by cases hz), ?_, ?_, b5, b6⟩ (by omega)
    · rw [b3]
      rfl
    · show rp.length ≤ ou.length ∧ out'.length + ou.length + 0 + Wt.length + 1 ≤ pr'
      exact ⟨b4.1, by omega⟩
end RS
end
section
/-! The reference's sums and facts with a sign: the machine does the same. -/
section RCM
variable {m0 m : xS} {b : Nat → Int} {n t : Nat} {cs : List (Int × Int × Int × Int)} {op : List Int} {dp ln : Int} {F : Nat} {s0 : tSt} {pm0 : Nat} {Wt : List Int} {cl wh : Nat} {rp ou : List Int}
theorem rY_lo {lo lo' : Int} {pr : Nat} (h : lo' ≤ lo) (z : rY m0 b n t cs op dp ln rp ou s0 pm0 Wt cl wh lo pr m) : rY m0 b n t cs op dp ln rp ou s0 pm0 Wt cl wh lo' pr m := by
  obtain ⟨j, pm, k, nu, rc, out, Z, a1, a2, a3, a4, a5, a6⟩ := z
  exact ⟨j, pm, k, nu, rc, out, Z, a1, a2, a3, a4, fun y hy => Int.le_trans h (a5 y hy), a6⟩
/-- the reference puts what waits last -/
theorem R172y {o lo lo' : Int} {w0 : Int32} {pr : Nat} {s1 : tSt} {pm1 : Nat} (N : rN m0 b n) (ht : t < 6) (hT : (m0.1 70 11).toInt = (t : Int)) (h : rY m0 b n t cs op dp ln rp ou s1 pm1 (o :: Wt) cl wh lo pr m) (ho : lo' ≤ tcl o) (hlo : lo' ≤ lo) (hc : tenc (w0 + 16 * 0 : Int32).toInt = o) : xP (D172 F w0 0 m) (fun _ m' => rY m0 b n t cs op dp ln rp ou s1 pm1 Wt cl wh lo' pr m') := by
  have n4 := N.2.1
  obtain ⟨j, pm, k, nu, rc, out, Z, a1, a2, a3, a4, a5, a6, a7, a8, a9⟩ := h
  have prn : pr ≤ n := a9.2.2.1.2
  have rl : rc.length = Z.length + out.length := by
    have := congrArg List.length a6
    rw [List.length_map, List.length_append, List.length_reverse] at this
    exact this
  rw [List.length_cons] at a7
  refine xP_m (R172 (s := w0) (v := 0) (c := (w0 + 16 * 0 : Int32).toInt) ht hT a9 (by rw [List.length_append]; omega) rfl) (fun _ m3 q3 => ⟨j, pm, k, nu, (w0 + 16 * 0 : Int32).toInt :: rc, out, Z ++ [o], ?_, a2, a3, a4, ?_, ?_, ?_, a8, q3.1⟩)
  · rw [List.append_assoc]
    exact a1
  · intro y hy
    rcases List.mem_append.mp hy with hy | hy
    · exact Int.le_trans hlo (a5 y hy)
    · rw [List.mem_singleton.mp hy]
      exact ho
  · rw [List.map_cons, hc, a6, List.reverse_append]
    rfl
  · rw [List.length_append, List.length_singleton]
    exact ⟨a7.1, by omega⟩
theorem R179_46 {o : Int} {w0 : Int32} {pr : Nat} {g : xS → Option (Int32 × xS)} (hF : 500 ≤ F) (N : rN m0 b n) (ht : t < 6) (hT : (m0.1 70 11).toInt = (t : Int)) (hw : wh ≠ 3) (hst : ∀ w vs, Wt = w :: vs → tcl w < 9) (h : rY m0 b n t cs op dp ln rp ou s0 pm0 Wt cl wh 9 pr m) (ps : tsk b n pr = pr) (ho : topr (tsg b n pr) = o) (o1 : tcl o = 9) (o2 : o ≠ -1) (lt : pr < n) (hc : tenc (w0 + 16 * 0 : Int32).toInt = o) (IH : ∀ m' pr', rY m0 b n t cs op dp ln rp ou s0 pm0 Wt cl wh 9 pr' m' → cT (tsg b n (tsk b n pr')) → pr < pr' → xP (g m') (rX m0 b n t cs op dp ln rp ou s0 pm0 Wt cl wh 9 cS)) : xP (D179_46 F g w0 m) (rX m0 b n t cs op dp ln rp ou s0 pm0 Wt cl wh 9 cS) := by
  have n4 := N.2.1
  obtain ⟨j, pm, k, nu, rc, out, Z, a1, a2, a3, a4, a5, a6, a7, a8, a9⟩ := h
  have h3 := a9.2.2.1
  have hM := rC_T a9 (rT_p (v := m.1 70 8 + 1) (x := pr + 1) (rC_t a9) ((xa1 (by show _ ≤ _ + (1 : Int); omega) (by show _ + (1 : Int) ≤ _; omega)).trans (by rw [h3.1]; rfl)) n4 lt)
  have ea : tsk b n pm = pr := by rw [← a4, ps]
  have step : tstp b n (pm, k, out ++ ou, Z ++ Wt, cl, 3, wh) = .inr (pr + 1, k, (Z.reverse ++ out) ++ ou, o :: Wt, cl, 2, wh) := by
    have e2 := tSe_app (o := o) (ws := Wt) (by rw [o1]; exact hst) Z (out ++ ou) (by rw [o1]; exact a5)
    show tjnt b n pm k (out ++ ou) (Z ++ Wt) cl wh = _
    unfold tjnt
    rw [ea, ho, if_pos ⟨hw, o2⟩, e2.1, e2.2, List.append_assoc]
  have st2 : stn b n (j + 1) s0 = .inr (pr + 1, k, (Z.reverse ++ out) ++ ou, o :: Wt, cl, 2, wh) := (stn_add j a1).trans (stn_1 step)
  unfold D179_46
  refine xP_b (R178 (s0 := (pr + 1, k, (Z.reverse ++ out) ++ ou, o :: Wt, cl, 2, wh)) (pm0 := pr + 1) (pm := pr + 1) (pr := pr + 1) (Wt := o :: Wt) (cl := cl) (wh := wh) hF N ht hT hw (fun w vs z => by rw [← (List.cons.inj z).1, o1]; decide) rfl (Nat.le_refl _) (Nat.le_refl _) rfl a6 (by rw [List.length_append, List.length_reverse, List.length_cons]; exact ⟨a7.1, by omega⟩) a8 hM) (fun v m2 q => ?_)
  dsimp only
  rcases q with ⟨rfl, q⟩ | ⟨rfl, pr', c1, q⟩
  · exact xP_i (fun c => absurd c (by decide)) (fun _ => xP_r (Or.inl ⟨rfl, rZ_tr st2 (by omega) q⟩))
  · refine xP_i (fun _ => ?_) (fun c => absurd c (by decide))
    have lp : pr < pr' := by
      obtain ⟨j2, pm2, k2, nu2, rc2, out2, Z2, -, y2, y3, -⟩ := q
      omega
    refine xP_b (R172y (lo' := 9) N ht hT q (by rw [o1]; decide) (by decide) hc) (fun _ m3 q3 => ?_)
    exact IH m3 pr' (rY_tr st2 (by omega) q3) c1 lp
theorem R179_9 (hF : 500 ≤ F) (N : rN m0 b n) (ht : t < 6) (hT : (m0.1 70 11).toInt = (t : Int)) (hw : wh ≠ 3) (hst : ∀ w vs, Wt = w :: vs → tcl w < 9) : ∀ (f : Nat) {pr : Nat} {m : xS}, rY m0 b n t cs op dp ln rp ou s0 pm0 Wt cl wh 9 pr m → cT (tsg b n (tsk b n pr)) → n - pr < f → xP (D179_9 F f m) (rX m0 b n t cs op dp ln rp ou s0 pm0 Wt cl wh 9 cS) := by
  intro f
  induction f with
  | zero => intro pr m _ _ l; omega
  | succ f ih =>
    intro pr m h hT1 l
    have n4 := N.2.1
    have id : tsk b n (tsk b n pr) = tsk b n pr := tS_id pr
    have ge : pr ≤ tsk b n pr := tS_ge pr
    have go : ∀ {m' : xS}, rY m0 b n t cs op dp ln rp ou s0 pm0 Wt cl wh 9 (tsk b n pr) m' → (tsg b n (tsk b n pr) = 43 ∨ tsg b n (tsk b n pr) = 45) → xP (D179_27 F (D179_9 F f) m') (rX m0 b n t cs op dp ln rp ou s0 pm0 Wt cl wh 9 cS) := fun {m'} hh ho => by
      have lt : tsk b n pr < n ∧ b (tsk b n pr) = tsg b n (tsk b n pr) := by
        rcases ho with z | z
        · exact ⟨(tsg_lt z (by decide)).1, (tsg_lt z (by decide)).2.trans z.symm⟩
        · exact ⟨(tsg_lt z (by decide)).1, (tsg_lt z (by decide)).2.trans z.symm⟩
      have IH : ∀ m2 pr2, rY m0 b n t cs op dp ln rp ou s0 pm0 Wt cl wh 9 pr2 m2 → cT (tsg b n (tsk b n pr2)) → tsk b n pr < pr2 → xP (D179_9 F f m2) (rX m0 b n t cs op dp ln rp ou s0 pm0 Wt cl wh 9 cS) := fun m2 pr2 h2 c2 l2 => ih h2 c2 (by omega)
      have h0 := hh
      obtain ⟨j, pm, k, nu, rc, out, Z, a1, a2, a3, a4, a5, a6, a7, a8, a9⟩ := hh
      have h3 := a9.2.2.1
      have xi : xib (m'.1 70 8) 400 = true := xib_t (by omega) (by omega)
      unfold D179_27
      rw [rC_i a9]
      refine xP_g xi (xP_i (fun c => ?_) (fun c => ?_))
      · have c : (m'.1 71 (tsk b n pr)).toInt ≠ 43 := zt c
        have e : tsg b n (tsk b n pr) = 45 := by
          rcases ho with z | z
          · exact absurd ((rbyte N a9 lt.1 (by decide)).mpr (lt.2.trans z)) c
          · exact z
        exact R179_46 (o := 10) hF N ht hT hw hst h0 id (by rw [e]; decide) (by decide) (by decide) lt.1 (by decide) IH
      · have c : (m'.1 71 (tsk b n pr)).toInt = 43 := Decidable.not_not.mp (zf c)
        have e : tsg b n (tsk b n pr) = 43 := lt.2.symm.trans ((rbyte N a9 lt.1 (by decide)).mp c)
        exact R179_46 (o := 9) hF N ht hT hw hst h0 id (by rw [e]; decide) (by decide) (by decide) lt.1 (by decide) IH
    unfold D179_9
    refine xP_b (R164y hF N h) (fun v1 m1 q1 => ?_)
    obtain ⟨q1, e1⟩ := q1
    dsimp only
    refine xP_i (fun c => go q1 (Or.inl (e1.symm.trans (zt c)))) (fun c => ?_)
    refine xP_b (R164y hF N q1) (fun v2 m2 q2 => ?_)
    rw [id] at q2
    obtain ⟨q2, e2⟩ := q2
    dsimp only
    refine xP_i (fun d => xP_r (Or.inr ⟨rfl, tsk b n pr, ?_, q2⟩)) (fun d => ?_)
    · have c : v1.toInt ≠ 43 := zf c
      have d : v2.toInt ≠ 45 := zt d
      rw [id]
      show topr (tsg b n (tsk b n pr)) = -1
      unfold topr
      rw [if_neg (fun z => c (e1.trans z)), if_neg (fun z => d (e2.trans z)), if_neg hT1.1, if_neg hT1.2.1, if_neg hT1.2.2]
    · have d : v2.toInt = 45 := Decidable.not_not.mp (zf d)
      exact go q2 (Or.inr (e2.symm.trans d))
/-- sum -/
theorem R179 {pm pr k : Nat} {nu : Int} {rc out : List Int} (hF : 500 ≤ F) (N : rN m0 b n) (ht : t < 6) (hT : (m0.1 70 11).toInt = (t : Int)) (hw : wh ≠ 3) (hst : ∀ w vs, Wt = w :: vs → tcl w < 9) (hs : tstp b n s0 = tvs b n pm k (out ++ ou) Wt cl wh) (l0 : pm0 ≤ pm) (l1 : pm ≤ pr) (e : tsk b n pr = tsk b n pm) (hr : rc.map tenc = out) (hl : rp.length ≤ ou.length ∧ out.length + ou.length + Wt.length + 1 ≤ pm) (hk : k ≤ 60) (h : rC m0 n t pr 0 nu (k : Int) (rc ++ rp) cs op dp ln m) : xP (D179 F m) (rX m0 b n t cs op dp ln rp ou s0 pm0 Wt cl wh 9 cS) := by
  have n4 := N.2.1
  unfold D179
  refine xP_b (R178 hF N ht hT hw (fun w vs z => by have := hst w vs z; omega) hs l0 l1 e hr hl hk h) (fun v m2 q => ?_)
  dsimp only
  rcases q with ⟨rfl, q⟩ | ⟨rfl, pr', c1, q⟩
  · exact xP_i (fun c => absurd c (by decide)) (fun _ => xP_r (Or.inl ⟨rfl, q⟩))
  · refine xP_i (fun _ => ?_) (fun c => absurd c (by decide))
    exact R179_9 hF N ht hT hw hst F (rY_lo (by decide) q) c1 (by omega)
/-- behind a sign -/
theorem R180_152 {o : Int} {w0 : Int32} {q k : Nat} {nu : Int} {rc out : List Int} {a1 a2 a3 : Int32} (hF : 500 ≤ F) (N : rN m0 b n) (ht : t < 6) (hT : (m0.1 70 11).toInt = (t : Int)) {j : Nat} (hst : ∀ w vs, Wt = w :: vs → tcl w < 4) (st : stn b n j s0 = .inr (q, k, out ++ ou, o :: Wt, cl, 2, 2)) (l0 : pm0 + j ≤ q) (o1 : tcl o = 4) (hr : rc.map tenc = out) (hl : rp.length ≤ ou.length ∧ out.length + ou.length + Wt.length + 2 ≤ q) (hk : k ≤ 60) (hc : tenc (6 + w0 + 16 * 0 : Int32).toInt = o) (h : rC m0 n t q 0 nu (k : Int) (rc ++ rp) cs op dp ln m) : xP (D180_152 F a1 a2 a3 w0 m) (rX m0 b n t cs op dp ln rp ou s0 pm0 Wt cl 2 4 cS) := by
  unfold D180_152
  refine xP_b (R179 (s0 := (q, k, out ++ ou, o :: Wt, cl, 2, 2)) (pm0 := q) (pm := q) (pr := q) (Wt := o :: Wt) (cl := cl) (wh := 2) hF N ht hT (by decide) (fun w vs z => by rw [← (List.cons.inj z).1, o1]; decide) rfl (Nat.le_refl _) (Nat.le_refl _) rfl hr (by rw [List.length_cons]; exact ⟨hl.1, by omega⟩) hk h) (fun v m2 z => ?_)
  dsimp only
  rcases z with ⟨rfl, z⟩ | ⟨rfl, pr', c1, z⟩
  · exact xP_i (fun c => absurd c (by decide)) (fun _ => xP_r (Or.inl ⟨rfl, rZ_tr st l0 z⟩))
  · refine xP_i (fun _ => ?_) (fun c => absurd c (by decide))
    refine xP_b (R172y (lo' := 4) N ht hT z (by rw [o1]; decide) (by decide) hc) (fun _ m3 q3 => xP_r (Or.inr ⟨rfl, pr', c1, rY_tr st l0 q3⟩))
/-- compare -/
theorem R180 {pm pr k : Nat} {nu : Int} {rc out : List Int} (hF : 500 ≤ F) (N : rN m0 b n) (ht : t < 6) (hT : (m0.1 70 11).toInt = (t : Int)) (hst : ∀ w vs, Wt = w :: vs → tcl w < 4) (hs : tstp b n s0 = tvs b n pm k (out ++ ou) Wt cl 1) (l0 : pm0 ≤ pm) (l1 : pm ≤ pr) (e : tsk b n pr = tsk b n pm) (hr : rc.map tenc = out) (hl : rp.length ≤ ou.length ∧ out.length + ou.length + Wt.length + 1 ≤ pm) (hk : k ≤ 60) (h : rC m0 n t pr 0 nu (k : Int) (rc ++ rp) cs op dp ln m) : xP (D180 F m) (rX m0 b n t cs op dp ln rp ou s0 pm0 Wt cl 2 4 cS) := by
  have n4 := N.2.1
  unfold D180
  refine xP_b (R179 hF N ht hT (by decide) (fun w vs z => by have := hst w vs z; omega) hs l0 l1 e hr hl hk h) (fun v m2 q => ?_)
  dsimp only
  rcases q with ⟨rfl, q⟩ | ⟨rfl, pr1, c1, q⟩
  · exact xP_i (fun c => absurd c (by decide)) (fun _ => xP_r (Or.inl ⟨rfl, q⟩))
  · refine xP_i (fun _ => ?_) (fun c => absurd c (by decide))
    refine xP_b (R164y hF N q) (fun v1 m1 q1 => ?_)
    obtain ⟨q1, e1⟩ := q1
    have id : tsk b n (tsk b n pr1) = tsk b n pr1 := tS_id pr1
    generalize hs1 : tsk b n pr1 = s at *
    obtain ⟨j, pm1, k1, nu1, rc1, out1, Z, a1, a2, a3, a4, a5, a6, a7, a8, a9⟩ := q1
    have h3 := a9.2.2.1
    have ea : tsk b n pm1 = s := by rw [← a4, id]
    have cS1 : topr (tsg b n s) = -1 := c1
    have jn : tstp b n (pm1, k1, out1 ++ ou, Z ++ Wt, cl, 3, 1) = tsig b n pm1 k1 (out1 ++ ou) (Z ++ Wt) cl := by
      show tjnt b n pm1 k1 (out1 ++ ou) (Z ++ Wt) cl 1 = _
      unfold tjnt
      rw [ea, if_neg (fun z => z.2 cS1)]
      rfl
    have cut : ∀ o : Int, tcl o = 4 → (tSe o (Z ++ Wt) (out1 ++ ou)).1 = (Z.reverse ++ out1) ++ ou ∧ (tSe o (Z ++ Wt) (out1 ++ ou)).2.1 = Wt := fun o ho => by
      rw [List.append_assoc]
      exact tSe_app (by rw [ho]; exact hst) Z (out1 ++ ou) (fun z hz => by rw [ho]; have := a5 z hz; omega)
    have rest : ∀ {v3 w0 : Int32} {o : Int} {q2 : Nat} {m : xS}, (tsg b n s = 60 ∨ tsg b n s = 61 ∨ tsg b n s = 62) → tcl o = 4 → tenc (6 + w0 + 16 * 0 : Int32).toInt = o → s + 1 ≤ q2 → (¬ 60 ≤ k1 → tsig b n pm1 k1 (out1 ++ ou) (Z ++ Wt) cl = .inr (q2, k1 + 1, (Z.reverse ++ out1) ++ ou, o :: Wt, cl, 2, 2)) → rC m0 n t q2 0 nu1 ((k1 + 1 : Nat) : Int) (rc1 ++ rp) cs op dp ln m → ¬ 60 ≤ k1 → xP (D180_152 F v1 (m1.1 70 8) v3 w0 m) (rX m0 b n t cs op dp ln rp ou s0 pm0 Wt cl 2 4 cS) := fun {v3 w0 o q2 m} cs' o1 hc lq ts hM z => R180_152 (j := j + 1) hF N ht hT hst ((stn_add j a1).trans (stn_1 (jn.trans (ts z)))) (by omega) o1 a6 (by rw [List.length_append, List.length_reverse]; exact ⟨a7.1, by omega⟩) (by omega) hc hM
    have r105 : ∀ {v3 : Int32} {q2 : Nat} {m : xS}, (tsg b n s = 60 ∨ tsg b n s = 61 ∨ tsg b n s = 62) → v1.toInt = tsg b n s → s + 1 ≤ q2 → (¬ 60 ≤ k1 → tsig b n pm1 k1 (out1 ++ ou) (Z ++ Wt) cl = .inr (q2, k1 + 1, (Z.reverse ++ out1) ++ ou, (if tsg b n s = 60 then (if v3 = 0 then 4 else 5) else if tsg b n s = 61 then 6 else if v3 = 0 then 8 else 7) :: Wt, cl, 2, 2)) → rC m0 n t q2 0 nu1 (k1 : Int) (rc1 ++ rp) cs op dp ln m → xP (D180_105 F v1 (m1.1 70 8) v3 m) (rX m0 b n t cs op dp ln rp ou s0 pm0 Wt cl 2 4 cS) := by
      intro v3 q2 m cc ev lq ts hM
      unfold D180_105
      refine xP_b (R173 (a := m1.1 70 8) hM a8 (by omega) (by omega)) (fun r m5 q5 => ?_)
      dsimp only
      rcases q5 with ⟨z, rfl, q5⟩ | ⟨z, rfl, q5⟩
      · refine xP_i (fun c => absurd c (by decide)) (fun _ => xP_r (Or.inl ⟨rfl, j + 1, 1 + 8 * (s : Int) + 3, by omega, ?_, by omega, ?_⟩))
        · refine (stn_add j a1).trans (stn_1 (jn.trans ?_))
          unfold tsig
          rw [ea, if_pos cc, if_pos z]
        · rw [h3.1] at q5
          exact ⟨_, _, _, _, _, _, _, _, _, _, hT, q5⟩
      · refine xP_i (fun _ => ?_) (fun c => absurd c (by decide))
        refine xP_i (fun c => ?_) (fun c => ?_)
        · have c : v1.toInt ≠ 60 := zt c
          rw [if_neg (fun y => c (ev.trans y))] at ts
          refine xP_i (fun d => ?_) (fun d => ?_)
          · have d : v1.toInt ≠ 61 := zt d
            rw [if_neg (fun y => d (ev.trans y))] at ts
            refine xP_i (fun g => ?_) (fun g => ?_)
            · rw [if_pos (zeq g)] at ts
              exact rest cc (by decide) (by decide) lq ts q5 z
            · rw [if_neg (zneq g)] at ts
              exact rest cc (by decide) (by decide) lq ts q5 z
          · have d : v1.toInt = 61 := Decidable.not_not.mp (zf d)
            rw [if_pos (ev.symm.trans d)] at ts
            exact rest cc (by decide) (by decide) lq ts q5 z
        · have c : v1.toInt = 60 := Decidable.not_not.mp (zf c)
          rw [if_pos (ev.symm.trans c)] at ts
          refine xP_i (fun g => ?_) (fun g => ?_)
          · rw [if_pos (zeq g)] at ts
            exact rest cc (by decide) (by decide) lq ts q5 z
          · rw [if_neg (zneq g)] at ts
            exact rest cc (by decide) (by decide) lq ts q5 z
    have r44 : (tsg b n s = 60 ∨ tsg b n s = 61 ∨ tsg b n s = 62) → v1.toInt = tsg b n s → xP (D180_44 F v1 (m1.1 70 8) m1) (rX m0 b n t cs op dp ln rp ou s0 pm0 Wt cl 2 4 cS) := by
      intro cc ev
      have ls : s < n := by
        rcases cc with z | z | z
        · exact (tsg_lt z (by decide)).1
        · exact (tsg_lt z (by decide)).1
        · exact (tsg_lt z (by decide)).1
      have e8 : (m1.1 70 8 + 1).toInt = ((s + 1 : Nat) : Int) := (xa1 (by show _ ≤ _ + (1 : Int); omega) (by show _ + (1 : Int) ≤ _; omega)).trans (by rw [h3.1]; rfl)
      have hM1 := rC_T a9 (rT_p (v := m1.1 70 8 + 1) (x := s + 1) (rC_t a9) e8 n4 ls)
      have e9 : (m1.1 70 8 + 1).toNatClampNeg = s + 1 := by show (m1.1 70 8 + 1).toInt.toNat = s + 1; omega
      have k1n : (m1.1 70 1).toInt = (n : Int) := (rN_t N a9).1
      -- no = behind it
      have no : (tsg b n s = 61 ∨ tsg b n (s + 1) ≠ 61) → xP (D180_89 F v1 (m1.1 70 8) (xu m1 70 8 (m1.1 70 8 + 1))) (rX m0 b n t cs op dp ln rp ou s0 pm0 Wt cl 2 4 cS) := by
        intro hn
        unfold D180_89 D180_90
        refine xP_i (fun _ => ?_) (fun c => absurd c (by decide))
        refine r105 cc ev (Nat.le_refl _) (fun z => ?_) hM1
        unfold tsig
        rw [ea, if_pos cc, if_neg z]
        by_cases c61 : tsg b n s = 61
        · rw [if_pos c61, if_neg (by omega), if_pos c61, (cut 6 (by decide)).1, (cut 6 (by decide)).2]
        · rw [if_neg c61, if_neg (by omega)]
          by_cases c60 : tsg b n s = 60
          · rw [if_pos c60, if_pos c60, if_pos rfl, (cut 4 (by decide)).1, (cut 4 (by decide)).2]
          · rw [if_neg c60, if_neg c60, if_neg c61, if_pos rfl, (cut 8 (by decide)).1, (cut 8 (by decide)).2]
      unfold D180_44
      refine xP_i (fun c => no (Or.inl (ev.symm.trans (zt c)))) (fun c => ?_)
      have c : v1.toInt ≠ 61 := zf c
      have c61 : ¬ tsg b n s = 61 := fun z => c (ev.trans z)
      refine xP_i (fun d => no (Or.inr ?_)) (fun d => ?_)
      · have d : (m1.1 70 1).toInt ≤ (m1.1 70 8 + 1).toInt := zt d
        unfold tsg
        rw [if_neg (by omega)]
        decide
      · have d : ¬ (m1.1 70 1).toInt ≤ (m1.1 70 8 + 1).toInt := zf d
        have l1 : s + 1 < n := by omega
        refine xP_g (xib_t (by omega) (by omega)) ?_
        have bs : tsg b n (s + 1) = b (s + 1) := if_pos l1
        obtain ⟨z1, z2⟩ := (rN_t N a9).2.2 (s + 1) l1
        rw [e9]
        refine xP_i (fun g => no (Or.inr ?_)) (fun g => ?_)
        · have g : (m1.1 71 (s + 1)).toInt ≠ 61 := zt g
          intro z
          rw [bs] at z
          rw [z2, if_pos (by omega)] at g
          exact g z
        · have g : (m1.1 71 (s + 1)).toInt = 61 := Decidable.not_not.mp (zf g)
          have c2 : tsg b n (s + 1) = 61 := by
            rw [bs]
            rw [z2] at g
            split at g <;> omega
          have h3b := hM1.2.2.1
          have hM2 := rC_T hM1 (rT_p (v := (xu m1 70 8 (m1.1 70 8 + 1)).1 70 8 + 1) (x := s + 2) (rC_t hM1) ((xa1 (by show _ ≤ _ + (1 : Int); omega) (by show _ + (1 : Int) ≤ _; omega)).trans (by rw [h3b.1]; rfl)) n4 l1)
          unfold D180_90
          refine xP_i (fun c => absurd c (by decide)) (fun _ => ?_)
          refine r105 cc ev (by omega) (fun z => ?_) hM2
          unfold tsig
          rw [ea, if_pos cc, if_neg z, if_neg c61, if_pos c2]
          by_cases c60 : tsg b n s = 60
          · rw [if_pos c60, if_pos c60, if_neg (by decide), (cut 5 (by decide)).1, (cut 5 (by decide)).2]
          · rw [if_neg c60, if_neg c60, if_neg c61, if_neg (by decide), (cut 7 (by decide)).1, (cut 7 (by decide)).2]
    dsimp only
    refine xP_i (fun c => r44 (Or.inl (e1.symm.trans (zt c))) e1) (fun c => ?_)
    refine xP_i (fun d => r44 (Or.inr (Or.inl (e1.symm.trans (zt d)))) e1) (fun d => ?_)
    refine xP_i (fun g => r44 (Or.inr (Or.inr (e1.symm.trans (zt g)))) e1) (fun g => ?_)
    have c : v1.toInt ≠ 60 := zf c
    have d : v1.toInt ≠ 61 := zf d
    have g : v1.toInt ≠ 62 := zf g
    refine xP_b (R163c a9 (by omega) (by omega) (by decide) (by decide)) (fun r m5 q5 => ?_)
    obtain ⟨rfl, q5⟩ := q5
    refine xP_g (show xbo (0 : Int32) = true by decide) (xP_r (Or.inl ⟨rfl, j + 1, 1 + 8 * (s : Int), by omega, ?_, by omega, ?_⟩))
    · refine (stn_add j a1).trans (stn_1 (jn.trans ?_))
      unfold tsig
      rw [ea, if_neg (fun z => z.elim (fun z => c (e1.trans z)) (fun z => z.elim (fun z => d (e1.trans z)) (fun z => g (e1.trans z))))]
    · rw [h3.1, show (1 + 8 * (s : Int) + (0 : Int32).toInt) = 1 + 8 * (s : Int) from Int.add_zero _] at q5
      exact ⟨_, _, _, _, _, _, _, _, _, _, hT, q5⟩
end RCM
end
