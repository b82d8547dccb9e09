/-! Methods as functions over the memory. -/
set_option maxRecDepth 4000 in
theorem xg159 : zg zms 159 = some (zm159.2.2.1, zm159.2.2.2.1, zc159) := rfl
theorem xr159 : zar 159 = (2, 200) := by decide +kernel
set_option maxRecDepth 4000 in
theorem xg200 : zg zms 200 = some (zm200.2.2.1, zm200.2.2.2.1, zc200) := rfl
theorem xr200 : zar 200 = (1, 11) := by decide +kernel
set_option maxRecDepth 4000 in
theorem xg201 : zg zms 201 = some (zm201.2.2.1, zm201.2.2.2.1, zc201) := rfl
theorem xr201 : zar 201 = (0, 11) := by decide +kernel
set_option maxRecDepth 4000 in
theorem xg202 : zg zms 202 = some (zm202.2.2.1, zm202.2.2.2.1, zc202) := rfl
theorem xr202 : zar 202 = (3, 200) := by decide +kernel
set_option maxRecDepth 4000 in
theorem xg203 : zg zms 203 = some (zm203.2.2.1, zm203.2.2.2.1, zc203) := rfl
theorem xr203 : zar 203 = (3, 11) := by decide +kernel
set_option maxRecDepth 4000 in
theorem xg206 : zg zms 206 = some (zm206.2.2.1, zm206.2.2.2.1, zc206) := rfl
theorem xr206 : zar 206 = (1, 11) := by decide +kernel
set_option maxRecDepth 4000 in
theorem xg208 : zg zms 208 = some (zm208.2.2.1, zm208.2.2.2.1, zc208) := rfl
theorem xr208 : zar 208 = (2, 11) := by decide +kernel
set_option maxRecDepth 4000 in
theorem xg210 : zg zms 210 = some (zm210.2.2.1, zm210.2.2.2.1, zc210) := rfl
theorem xr210 : zar 210 = (2, 11) := by decide +kernel
set_option maxRecDepth 4000 in
theorem xg212 : zg zms 212 = some (zm212.2.2.1, zm212.2.2.2.1, zc212) := rfl
theorem xr212 : zar 212 = (1, 11) := by decide +kernel
set_option maxRecDepth 4000 in
theorem xg220 : zg zms 220 = some (zm220.2.2.1, zm220.2.2.2.1, zc220) := rfl
theorem xr220 : zar 220 = (0, 11) := by decide +kernel
set_option maxRecDepth 4000 in
theorem xg235 : zg zms 235 = some (zm235.2.2.1, zm235.2.2.2.1, zc235) := rfl
theorem xr235 : zar 235 = (2, 200) := by decide +kernel
set_option maxRecDepth 4000 in
theorem xg236 : zg zms 236 = some (zm236.2.2.1, zm236.2.2.2.1, zc236) := rfl
theorem xr236 : zar 236 = (3, 11) := by decide +kernel
set_option maxRecDepth 4000 in
theorem xg237 : zg zms 237 = some (zm237.2.2.1, zm237.2.2.2.1, zc237) := rfl
theorem xr237 : zar 237 = (2, 11) := by decide +kernel
set_option maxRecDepth 4000 in
theorem xg238 : zg zms 238 = some (zm238.2.2.1, zm238.2.2.2.1, zc238) := rfl
theorem xr238 : zar 238 = (3, 11) := by decide +kernel
set_option maxRecDepth 4000 in
theorem xg239 : zg zms 239 = some (zm239.2.2.1, zm239.2.2.2.1, zc239) := rfl
theorem xr239 : zar 239 = (3, 11) := by decide +kernel
set_option maxRecDepth 4000 in
theorem xg244 : zg zms 244 = some (zm244.2.2.1, zm244.2.2.2.1, zc244) := rfl
theorem xr244 : zar 244 = (1, 11) := by decide +kernel
set_option maxRecDepth 4000 in
theorem xg266 : zg zms 266 = some (zm266.2.2.1, zm266.2.2.2.1, zc266) := rfl
theorem xr266 : zar 266 = (2, 11) := by decide +kernel
set_option maxRecDepth 4000 in
theorem xg267 : zg zms 267 = some (zm267.2.2.1, zm267.2.2.2.1, zc267) := rfl
theorem xr267 : zar 267 = (2, 11) := by decide +kernel
/-- LentToolsModel.push -/
def D200 (F : Nat) (v1 : Int64) (m : xS) : Option (Unit × xS) :=
  if xib (m.1 70 20) 64 = true then
    some ((), (xu (xul m 78 ((m.1 70 20) : Int32).toNatClampNeg v1) 70 20 ((m.1 70 20) + 1)))
  else none
set_option maxRecDepth 20000 in
theorem T200 {B : zHp} (H : yH0 B) {e : Nat} (he : 1 ≤ e + 1) (F : Nat) {v1 : Int64} {lv : List (Nat × Value)} {m : xS} {x : Unit × xS} (l0 : zld lv 0 = some (.ref 70)) (l1 : zld lv 1 = some (.long v1)) (h : D200 F v1 m = some x) : zR none e 3 none zc200 (0, lv, []) (xW B m) (none, xW B x.2) := by
  unfold D200 at h
  refine q_lr (k := 1) (i := 0) (q := (.aload_n 0, 1, 0, 0, .null)) rfl (fun _ => rfl) l0 ?_
  refine r_gr (c := 78) H (pc := 1) rfl (by decide) (by decide) ?_
  refine q_lr (k := 1) (i := 0) (q := (.aload_n 0, 1, 0, 0, .null)) rfl (fun _ => rfl) l0 ?_
  refine r_gi (v := (m.1 70 20)) H (pc := 5) (i := _) rfl (by decide) (by decide) rfl ?_
  refine q_ll (k := 1) (i := 1) (q := (.lload_n 1, 1, 0, 0, .null)) rfl (fun _ => rfl) l1 ?_
  obtain ⟨c1, h⟩ := xif h
  refine q_las (n := 64) (s2 := (xul m 78 ((m.1 70 20) : Int32).toNatClampNeg v1)) H (pc := 9) rfl (by decide) c1 rfl ?_
  refine q_lr (k := 1) (i := 0) (q := (.aload_n 0, 1, 0, 0, .null)) rfl (fun _ => rfl) l0 ?_
  refine r_s (fr' := (12, lv, [.ref 70, .ref 70])) (hp' := xW B (xul m 78 ((m.1 70 20) : Int32).toNatClampNeg v1)) (q := (.dup, 1, 0, 0, .null)) rfl (fun _ => rfl) (Nat.le_refl _) ?_
  refine r_gi (v := (m.1 70 20)) H (pc := 12) (i := _) rfl (by decide) (by decide) rfl ?_
  refine r_s (fr' := (16, lv, [.int 1, .int (m.1 70 20), .ref 70])) (hp' := xW B (xul m 78 ((m.1 70 20) : Int32).toNatClampNeg v1)) (q := (.iconst 1, 1, 0, 0, .null)) rfl (fun _ => rfl) (Nat.le_refl _) ?_
  refine r_s (fr' := (17, lv, [.int ((m.1 70 20) + 1), .ref 70])) (hp' := xW B (xul m 78 ((m.1 70 20) : Int32).toNatClampNeg v1)) (q := (.iadd, 1, 0, 0, .null)) rfl (fun _ => rfl) (Nat.le_refl _) ?_
  refine r_pi (s2 := (xu (xul m 78 ((m.1 70 20) : Int32).toNatClampNeg v1) 70 20 ((m.1 70 20) + 1))) H (pc := 17) rfl (by decide) rfl rfl ?_
  obtain rfl := Option.some.inj h
  exact r_ret (q := (.return_, 1, 0, 0, .null)) rfl rfl (fun _ => rfl)
set_option maxRecDepth 20000 in
theorem Z200 {B : zHp} (H : yH0 B) {F : Nat} {a1 : Int64} {m : xS} {x : Unit × xS} (h : D200 F a1 m = some x) {d : Nat} (hd : 1 ≤ d) : zCan d 200 [.ref 70, .long a1] (xW B m) (none, xW B x.2) := by
  obtain ⟨e, rfl⟩ : ∃ e, d = e + 1 := ⟨d - 1, by omega⟩
  refine zCan_body (nL := 3) (rt := none) (cd := zc200) (xg200) ⟨Nat.le_of_ble_eq_true rfl, by decide⟩ (Nat.le_refl _) ?_
  exact T200 H hd F rfl rfl h
/-- LentToolsModel.pop -/
def D201 (F : Nat) (m : xS) : Option (Int64 × xS) :=
  if xib ((m.1 70 20) - 1) 64 = true then
    some ((m.2 78 (((m.1 70 20) - 1) : Int32).toNatClampNeg), (xu m 70 20 ((m.1 70 20) - 1)))
  else none
set_option maxRecDepth 20000 in
theorem T201 {B : zHp} (H : yH0 B) {e : Nat} (he : 1 ≤ e + 1) (F : Nat) {lv : List (Nat × Value)} {m : xS} {x : Int64 × xS} (l0 : zld lv 0 = some (.ref 70)) (h : D201 F m = some x) : zR none e 1 (some .long) zc201 (0, lv, []) (xW B m) (some (.long x.1), xW B x.2) := by
  unfold D201 at h
  refine q_lr (k := 1) (i := 0) (q := (.aload_n 0, 1, 0, 0, .null)) rfl (fun _ => rfl) l0 ?_
  refine r_s (fr' := (2, lv, [.ref 70, .ref 70])) (hp' := xW B m) (q := (.dup, 1, 0, 0, .null)) rfl (fun _ => rfl) (Nat.le_refl _) ?_
  refine r_gi (v := (m.1 70 20)) H (pc := 2) (i := _) rfl (by decide) (by decide) rfl ?_
  refine r_s (fr' := (6, lv, [.int 1, .int (m.1 70 20), .ref 70])) (hp' := xW B m) (q := (.iconst 1, 1, 0, 0, .null)) rfl (fun _ => rfl) (Nat.le_refl _) ?_
  refine r_s (fr' := (7, lv, [.int ((m.1 70 20) - 1), .ref 70])) (hp' := xW B m) (q := (.isub, 1, 0, 0, .null)) rfl (fun _ => rfl) (Nat.le_refl _) ?_
  refine r_pi (s2 := (xu m 70 20 ((m.1 70 20) - 1))) H (pc := 7) rfl (by decide) rfl rfl ?_
  refine q_lr (k := 1) (i := 0) (q := (.aload_n 0, 1, 0, 0, .null)) rfl (fun _ => rfl) l0 ?_
  refine r_gr (c := 78) H (pc := 11) rfl (by decide) (by decide) ?_
  refine q_lr (k := 1) (i := 0) (q := (.aload_n 0, 1, 0, 0, .null)) rfl (fun _ => rfl) l0 ?_
  refine r_gi (v := ((m.1 70 20) - 1)) H (pc := 15) (i := _) rfl (by decide) (by decide) rfl ?_
  obtain ⟨c1, h⟩ := xif h
  refine q_lal (n := 64) (v := (m.2 78 (((m.1 70 20) - 1) : Int32).toNatClampNeg)) H (pc := 18) rfl (by decide) c1 rfl ?_
  obtain rfl := Option.some.inj h
  exact q_rl (q := (.lreturn, 1, 0, 0, .null)) rfl (fun _ => rfl) rfl
set_option maxRecDepth 20000 in
theorem Z201 {B : zHp} (H : yH0 B) {F : Nat} {m : xS} {x : Int64 × xS} (h : D201 F m = some x) {d : Nat} (hd : 1 ≤ d) : zCan d 201 [.ref 70] (xW B m) (some (.long x.1), xW B x.2) := by
  obtain ⟨e, rfl⟩ : ∃ e, d = e + 1 := ⟨d - 1, by omega⟩
  refine zCan_body (nL := 1) (rt := (some .long)) (cd := zc201) (xg201) ⟨Nat.le_of_ble_eq_true rfl, by decide⟩ (Nat.le_refl _) ?_
  exact T201 H hd F rfl h
/-- LentToolsModel.one -/
def D202 (F : Nat) (v0 : Int32) (v1 : Int64) (v3 : Int64) (m : xS) : Option (Int64 × xS) :=
  if (v0 == 2) = true then
    some ((v1 + v3), m)
  else
    if (v0 == 3) = true then
      some ((v1 - v3), m)
    else
      if (v0 == 4) = true then
        some ((v1 * v3), m)
      else
        if (v0 == 5) = true then
          if zcmp .ne (lg_cmp v3 0) 0 = true then
            if (!(v3 == 0)) = true then
              some ((v1 / v3), m)
            else none
          else
            some (0, m)
        else
          if (v0 == 6) = true then
            if zcmp .ge (lg_cmp v1 v3) 0 = true then
              some (0, m)
            else
              some (1, m)
          else
            if (v0 == 7) = true then
              if zcmp .gt (lg_cmp v1 v3) 0 = true then
                some (0, m)
              else
                some (1, m)
            else
              if (v0 == 8) = true then
                if zcmp .ne (lg_cmp v1 v3) 0 = true then
                  some (0, m)
                else
                  some (1, m)
              else
                if (v0 == 9) = true then
                  if zcmp .lt (lg_cmp v1 v3) 0 = true then
                    some (0, m)
                  else
                    some (1, m)
                else
                  if (v0 == 10) = true then
                    if zcmp .le (lg_cmp v1 v3) 0 = true then
                      some (0, m)
                    else
                      some (1, m)
                  else
                    if (v0 == 11) = true then
                      some ((v1 ||| v3), m)
                    else
                      if (v0 == 12) = true then
                        some ((v1 &&& v3), m)
                      else
                        if (v0 == 13) = true then
                          some ((v1 ||| v3), m)
                        else
                          if (v0 == 14) = true then
                            if zcmp .ne (lg_cmp v3 0) 0 = true then
                              if (!(v3 == 0)) = true then
                                some ((v1 - v1 / v3 * v3), m)
                              else none
                            else
                              some (0, m)
                          else
                            some ((v1 ||| v3), m)
set_option maxRecDepth 20000 in
theorem T202 {B : zHp} (H : yH0 B) {e : Nat} (he : 1 ≤ e + 1) (F : Nat) {v0 : Int32} {v1 : Int64} {v3 : Int64} {lv : List (Nat × Value)} {m : xS} {x : Int64 × xS} (l0 : zld lv 0 = some (.int v0)) (l1 : zld lv 1 = some (.long v1)) (l3 : zld lv 3 = some (.long v3)) (h : D202 F v0 v1 v3 m = some x) : zR none e 5 (some .long) zc202 (0, lv, []) (xW B m) (some (.long x.1), xW B x.2) := by
  unfold D202 at h
  refine q_li (k := 1) (i := 0) (q := (.iload_n 0, 1, 0, 0, .null)) rfl (fun _ => rfl) l0 ?_
  by_cases d1 : ((v0 == 2)) = true
  · rw [if_pos d1] at h
    refine q_sw (pc2 := 68) (q := (.tableswitch 171 2 14 #[67, 71, 75, 79, 107, 119, 131, 143, 155, 171, 167, 171, 93], 67, 0, 0, .null)) d1 rfl (fun _ => rfl) ?_
    refine q_ll (k := 1) (i := 1) (q := (.lload_n 1, 1, 0, 0, .null)) rfl (fun _ => rfl) l1 ?_
    refine q_ll (k := 1) (i := 3) (q := (.lload_n 3, 1, 0, 0, .null)) rfl (fun _ => rfl) l3 ?_
    refine r_s (fr' := (71, lv, [.long (v1 + v3)])) (hp' := xW B m) (q := (.ladd, 1, 0, 0, .null)) rfl (fun _ => rfl) (Nat.le_refl _) ?_
    obtain rfl := Option.some.inj h
    exact q_rl (q := (.lreturn, 1, 0, 0, .null)) rfl (fun _ => rfl) rfl
  · rw [if_neg d1] at h
    by_cases d2 : ((v0 == 3)) = true
    · rw [if_pos d2] at h
      refine q_sw (pc2 := 72) (q := (.tableswitch 171 2 14 #[67, 71, 75, 79, 107, 119, 131, 143, 155, 171, 167, 171, 93], 67, 0, 0, .null)) d2 rfl (fun _ => rfl) ?_
      refine q_ll (k := 1) (i := 1) (q := (.lload_n 1, 1, 0, 0, .null)) rfl (fun _ => rfl) l1 ?_
      refine q_ll (k := 1) (i := 3) (q := (.lload_n 3, 1, 0, 0, .null)) rfl (fun _ => rfl) l3 ?_
      refine r_s (fr' := (75, lv, [.long (v1 - v3)])) (hp' := xW B m) (q := (.lsub, 1, 0, 0, .null)) rfl (fun _ => rfl) (Nat.le_refl _) ?_
      obtain rfl := Option.some.inj h
      exact q_rl (q := (.lreturn, 1, 0, 0, .null)) rfl (fun _ => rfl) rfl
    · rw [if_neg d2] at h
      by_cases d3 : ((v0 == 4)) = true
      · rw [if_pos d3] at h
        refine q_sw (pc2 := 76) (q := (.tableswitch 171 2 14 #[67, 71, 75, 79, 107, 119, 131, 143, 155, 171, 167, 171, 93], 67, 0, 0, .null)) d3 rfl (fun _ => rfl) ?_
        refine q_ll (k := 1) (i := 1) (q := (.lload_n 1, 1, 0, 0, .null)) rfl (fun _ => rfl) l1 ?_
        refine q_ll (k := 1) (i := 3) (q := (.lload_n 3, 1, 0, 0, .null)) rfl (fun _ => rfl) l3 ?_
        refine r_s (fr' := (79, lv, [.long (v1 * v3)])) (hp' := xW B m) (q := (.lmul, 1, 0, 0, .null)) rfl (fun _ => rfl) (Nat.le_refl _) ?_
        obtain rfl := Option.some.inj h
        exact q_rl (q := (.lreturn, 1, 0, 0, .null)) rfl (fun _ => rfl) rfl
      · rw [if_neg d3] at h
        by_cases d4 : ((v0 == 5)) = true
        · rw [if_pos d4] at h
          refine q_sw (pc2 := 80) (q := (.tableswitch 171 2 14 #[67, 71, 75, 79, 107, 119, 131, 143, 155, 171, 167, 171, 93], 67, 0, 0, .null)) d4 rfl (fun _ => rfl) ?_
          refine q_ll (k := 1) (i := 3) (q := (.lload_n 3, 1, 0, 0, .null)) rfl (fun _ => rfl) l3 ?_
          refine r_s (fr' := (82, lv, [.long 0, .long v3])) (hp' := xW B m) (q := (.lconst 0, 1, 0, 0, .null)) rfl (fun _ => rfl) (Nat.le_refl _) ?_
          refine r_s (fr' := (83, lv, [.int (lg_cmp v3 0)])) (hp' := xW B m) (q := (.lcmp, 1, 0, 0, .null)) rfl (fun _ => rfl) (Nat.le_refl _) ?_
          refine r_if (len := 3) (a := 90) (b := 0) (v0 := .null) (cn := .ne) (off := 7) rfl (fun c => ?_) (fun c => ?_)
          · rw [if_pos c] at h
            refine q_ll (k := 1) (i := 1) (q := (.lload_n 1, 1, 0, 0, .null)) rfl (fun _ => rfl) l1 ?_
            refine q_ll (k := 1) (i := 3) (q := (.lload_n 3, 1, 0, 0, .null)) rfl (fun _ => rfl) l3 ?_
            obtain ⟨c5, h⟩ := xif h
            refine q_ldiv (f := fun x y => x / y) (q := (.ldiv, 1, 0, 0, .null)) rfl (fun _ => rfl) c5 ?_
            obtain rfl := Option.some.inj h
            exact q_rl (q := (.lreturn, 1, 0, 0, .null)) rfl (fun _ => rfl) rfl
          · rw [if_neg (by rw [c]; decide)] at h
            refine r_s (fr' := (87, lv, [.long 0])) (hp' := xW B m) (q := (.lconst 0, 1, 0, 0, .null)) rfl (fun _ => rfl) (Nat.le_refl _) ?_
            refine r_s (fr' := (93, lv, [.long 0])) (hp' := xW B m) (q := (.goto 6, 3, 93, 0, .null)) rfl (fun _ => rfl) (Nat.le_refl _) ?_
            obtain rfl := Option.some.inj h
            exact q_rl (q := (.lreturn, 1, 0, 0, .null)) rfl (fun _ => rfl) rfl
        · rw [if_neg d4] at h
          by_cases d6 : ((v0 == 6)) = true
          · rw [if_pos d6] at h
            refine q_sw (pc2 := 108) (q := (.tableswitch 171 2 14 #[67, 71, 75, 79, 107, 119, 131, 143, 155, 171, 167, 171, 93], 67, 0, 0, .null)) d6 rfl (fun _ => rfl) ?_
            refine q_ll (k := 1) (i := 1) (q := (.lload_n 1, 1, 0, 0, .null)) rfl (fun _ => rfl) l1 ?_
            refine q_ll (k := 1) (i := 3) (q := (.lload_n 3, 1, 0, 0, .null)) rfl (fun _ => rfl) l3 ?_
            refine r_s (fr' := (111, lv, [.int (lg_cmp v1 v3)])) (hp' := xW B m) (q := (.lcmp, 1, 0, 0, .null)) rfl (fun _ => rfl) (Nat.le_refl _) ?_
            refine r_if (len := 3) (a := 118) (b := 0) (v0 := .null) (cn := .ge) (off := 7) rfl (fun c => ?_) (fun c => ?_)
            · rw [if_pos c] at h
              refine r_s (fr' := (119, lv, [.long 0])) (hp' := xW B m) (q := (.lconst 0, 1, 0, 0, .null)) rfl (fun _ => rfl) (Nat.le_refl _) ?_
              obtain rfl := Option.some.inj h
              exact q_rl (q := (.lreturn, 1, 0, 0, .null)) rfl (fun _ => rfl) rfl
            · rw [if_neg (by rw [c]; decide)] at h
              refine r_s (fr' := (115, lv, [.long 1])) (hp' := xW B m) (q := (.lconst 1, 1, 0, 0, .null)) rfl (fun _ => rfl) (Nat.le_refl _) ?_
              refine r_s (fr' := (119, lv, [.long 1])) (hp' := xW B m) (q := (.goto 4, 3, 119, 0, .null)) rfl (fun _ => rfl) (Nat.le_refl _) ?_
              obtain rfl := Option.some.inj h
              exact q_rl (q := (.lreturn, 1, 0, 0, .null)) rfl (fun _ => rfl) rfl
          · rw [if_neg d6] at h
            by_cases d7 : ((v0 == 7)) = true
            · rw [if_pos d7] at h
              refine q_sw (pc2 := 120) (q := (.tableswitch 171 2 14 #[67, 71, 75, 79, 107, 119, 131, 143, 155, 171, 167, 171, 93], 67, 0, 0, .null)) d7 rfl (fun _ => rfl) ?_
              refine q_ll (k := 1) (i := 1) (q := (.lload_n 1, 1, 0, 0, .null)) rfl (fun _ => rfl) l1 ?_
              refine q_ll (k := 1) (i := 3) (q := (.lload_n 3, 1, 0, 0, .null)) rfl (fun _ => rfl) l3 ?_
              refine r_s (fr' := (123, lv, [.int (lg_cmp v1 v3)])) (hp' := xW B m) (q := (.lcmp, 1, 0, 0, .null)) rfl (fun _ => rfl) (Nat.le_refl _) ?_
              refine r_if (len := 3) (a := 130) (b := 0) (v0 := .null) (cn := .gt) (off := 7) rfl (fun c => ?_) (fun c => ?_)
              · rw [if_pos c] at h
                refine r_s (fr' := (131, lv, [.long 0])) (hp' := xW B m) (q := (.lconst 0, 1, 0, 0, .null)) rfl (fun _ => rfl) (Nat.le_refl _) ?_
                obtain rfl := Option.some.inj h
                exact q_rl (q := (.lreturn, 1, 0, 0, .null)) rfl (fun _ => rfl) rfl
              · rw [if_neg (by rw [c]; decide)] at h
                refine r_s (fr' := (127, lv, [.long 1])) (hp' := xW B m) (q := (.lconst 1, 1, 0, 0, .null)) rfl (fun _ => rfl) (Nat.le_refl _) ?_
                refine r_s (fr' := (131, lv, [.long 1])) (hp' := xW B m) (q := (.goto 4, 3, 131, 0, .null)) rfl (fun _ => rfl) (Nat.le_refl _) ?_
                obtain rfl := Option.some.inj h
                exact q_rl (q := (.lreturn, 1, 0, 0, .null)) rfl (fun _ => rfl) rfl
            · rw [if_neg d7] at h
              by_cases d8 : ((v0 == 8)) = true
              · rw [if_pos d8] at h
                refine q_sw (pc2 := 132) (q := (.tableswitch 171 2 14 #[67, 71, 75, 79, 107, 119, 131, 143, 155, 171, 167, 171, 93], 67, 0, 0, .null)) d8 rfl (fun _ => rfl) ?_
                refine q_ll (k := 1) (i := 1) (q := (.lload_n 1, 1, 0, 0, .null)) rfl (fun _ => rfl) l1 ?_
                refine q_ll (k := 1) (i := 3) (q := (.lload_n 3, 1, 0, 0, .null)) rfl (fun _ => rfl) l3 ?_
                refine r_s (fr' := (135, lv, [.int (lg_cmp v1 v3)])) (hp' := xW B m) (q := (.lcmp, 1, 0, 0, .null)) rfl (fun _ => rfl) (Nat.le_refl _) ?_
                refine r_if (len := 3) (a := 142) (b := 0) (v0 := .null) (cn := .ne) (off := 7) rfl (fun c => ?_) (fun c => ?_)
                · rw [if_pos c] at h
                  refine r_s (fr' := (143, lv, [.long 0])) (hp' := xW B m) (q := (.lconst 0, 1, 0, 0, .null)) rfl (fun _ => rfl) (Nat.le_refl _) ?_
                  obtain rfl := Option.some.inj h
                  exact q_rl (q := (.lreturn, 1, 0, 0, .null)) rfl (fun _ => rfl) rfl
                · rw [if_neg (by rw [c]; decide)] at h
                  refine r_s (fr' := (139, lv, [.long 1])) (hp' := xW B m) (q := (.lconst 1, 1, 0, 0, .null)) rfl (fun _ => rfl) (Nat.le_refl _) ?_
                  refine r_s (fr' := (143, lv, [.long 1])) (hp' := xW B m) (q := (.goto 4, 3, 143, 0, .null)) rfl (fun _ => rfl) (Nat.le_refl _) ?_
                  obtain rfl := Option.some.inj h
                  exact q_rl (q := (.lreturn, 1, 0, 0, .null)) rfl (fun _ => rfl) rfl
              · rw [if_neg d8] at h
                by_cases d9 : ((v0 == 9)) = true
                · rw [if_pos d9] at h
                  refine q_sw (pc2 := 144) (q := (.tableswitch 171 2 14 #[67, 71, 75, 79, 107, 119, 131, 143, 155, 171, 167, 171, 93], 67, 0, 0, .null)) d9 rfl (fun _ => rfl) ?_
                  refine q_ll (k := 1) (i := 1) (q := (.lload_n 1, 1, 0, 0, .null)) rfl (fun _ => rfl) l1 ?_
                  refine q_ll (k := 1) (i := 3) (q := (.lload_n 3, 1, 0, 0, .null)) rfl (fun _ => rfl) l3 ?_
                  refine r_s (fr' := (147, lv, [.int (lg_cmp v1 v3)])) (hp' := xW B m) (q := (.lcmp, 1, 0, 0, .null)) rfl (fun _ => rfl) (Nat.le_refl _) ?_
                  refine r_if (len := 3) (a := 154) (b := 0) (v0 := .null) (cn := .lt) (off := 7) rfl (fun c => ?_) (fun c => ?_)
                  · rw [if_pos c] at h
                    refine r_s (fr' := (155, lv, [.long 0])) (hp' := xW B m) (q := (.lconst 0, 1, 0, 0, .null)) rfl (fun _ => rfl) (Nat.le_refl _) ?_
                    obtain rfl := Option.some.inj h
                    exact q_rl (q := (.lreturn, 1, 0, 0, .null)) rfl (fun _ => rfl) rfl
                  · rw [if_neg (by rw [c]; decide)] at h
                    refine r_s (fr' := (151, lv, [.long 1])) (hp' := xW B m) (q := (.lconst 1, 1, 0, 0, .null)) rfl (fun _ => rfl) (Nat.le_refl _) ?_
                    refine r_s (fr' := (155, lv, [.long 1])) (hp' := xW B m) (q := (.goto 4, 3, 155, 0, .null)) rfl (fun _ => rfl) (Nat.le_refl _) ?_
                    obtain rfl := Option.some.inj h
                    exact q_rl (q := (.lreturn, 1, 0, 0, .null)) rfl (fun _ => rfl) rfl
                · rw [if_neg d9] at h
                  by_cases d10 : ((v0 == 10)) = true
                  · rw [if_pos d10] at h
                    refine q_sw (pc2 := 156) (q := (.tableswitch 171 2 14 #[67, 71, 75, 79, 107, 119, 131, 143, 155, 171, 167, 171, 93], 67, 0, 0, .null)) d10 rfl (fun _ => rfl) ?_
                    refine q_ll (k := 1) (i := 1) (q := (.lload_n 1, 1, 0, 0, .null)) rfl (fun _ => rfl) l1 ?_
                    refine q_ll (k := 1) (i := 3) (q := (.lload_n 3, 1, 0, 0, .null)) rfl (fun _ => rfl) l3 ?_
                    refine r_s (fr' := (159, lv, [.int (lg_cmp v1 v3)])) (hp' := xW B m) (q := (.lcmp, 1, 0, 0, .null)) rfl (fun _ => rfl) (Nat.le_refl _) ?_
                    refine r_if (len := 3) (a := 166) (b := 0) (v0 := .null) (cn := .le) (off := 7) rfl (fun c => ?_) (fun c => ?_)
                    · rw [if_pos c] at h
                      refine r_s (fr' := (167, lv, [.long 0])) (hp' := xW B m) (q := (.lconst 0, 1, 0, 0, .null)) rfl (fun _ => rfl) (Nat.le_refl _) ?_
                      obtain rfl := Option.some.inj h
                      exact q_rl (q := (.lreturn, 1, 0, 0, .null)) rfl (fun _ => rfl) rfl
                    · rw [if_neg (by rw [c]; decide)] at h
                      refine r_s (fr' := (163, lv, [.long 1])) (hp' := xW B m) (q := (.lconst 1, 1, 0, 0, .null)) rfl (fun _ => rfl) (Nat.le_refl _) ?_
                      refine r_s (fr' := (167, lv, [.long 1])) (hp' := xW B m) (q := (.goto 4, 3, 167, 0, .null)) rfl (fun _ => rfl) (Nat.le_refl _) ?_
                      obtain rfl := Option.some.inj h
                      exact q_rl (q := (.lreturn, 1, 0, 0, .null)) rfl (fun _ => rfl) rfl
                  · rw [if_neg d10] at h
                    by_cases d11 : ((v0 == 11)) = true
                    · rw [if_pos d11] at h
                      refine q_sw (pc2 := 172) (q := (.tableswitch 171 2 14 #[67, 71, 75, 79, 107, 119, 131, 143, 155, 171, 167, 171, 93], 67, 0, 0, .null)) d11 rfl (fun _ => rfl) ?_
                      refine q_ll (k := 1) (i := 1) (q := (.lload_n 1, 1, 0, 0, .null)) rfl (fun _ => rfl) l1 ?_
                      refine q_ll (k := 1) (i := 3) (q := (.lload_n 3, 1, 0, 0, .null)) rfl (fun _ => rfl) l3 ?_
                      refine r_s (fr' := (175, lv, [.long (v1 ||| v3)])) (hp' := xW B m) (q := (.lor, 1, 0, 0, .null)) rfl (fun _ => rfl) (Nat.le_refl _) ?_
                      obtain rfl := Option.some.inj h
                      exact q_rl (q := (.lreturn, 1, 0, 0, .null)) rfl (fun _ => rfl) rfl
                    · rw [if_neg d11] at h
                      by_cases d12 : ((v0 == 12)) = true
                      · rw [if_pos d12] at h
                        refine q_sw (pc2 := 168) (q := (.tableswitch 171 2 14 #[67, 71, 75, 79, 107, 119, 131, 143, 155, 171, 167, 171, 93], 67, 0, 0, .null)) d12 rfl (fun _ => rfl) ?_
                        refine q_ll (k := 1) (i := 1) (q := (.lload_n 1, 1, 0, 0, .null)) rfl (fun _ => rfl) l1 ?_
                        refine q_ll (k := 1) (i := 3) (q := (.lload_n 3, 1, 0, 0, .null)) rfl (fun _ => rfl) l3 ?_
                        refine r_s (fr' := (171, lv, [.long (v1 &&& v3)])) (hp' := xW B m) (q := (.land, 1, 0, 0, .null)) rfl (fun _ => rfl) (Nat.le_refl _) ?_
                        obtain rfl := Option.some.inj h
                        exact q_rl (q := (.lreturn, 1, 0, 0, .null)) rfl (fun _ => rfl) rfl
                      · rw [if_neg d12] at h
                        by_cases d13 : ((v0 == 13)) = true
                        · rw [if_pos d13] at h
                          refine q_sw (pc2 := 172) (q := (.tableswitch 171 2 14 #[67, 71, 75, 79, 107, 119, 131, 143, 155, 171, 167, 171, 93], 67, 0, 0, .null)) d13 rfl (fun _ => rfl) ?_
                          refine q_ll (k := 1) (i := 1) (q := (.lload_n 1, 1, 0, 0, .null)) rfl (fun _ => rfl) l1 ?_
                          refine q_ll (k := 1) (i := 3) (q := (.lload_n 3, 1, 0, 0, .null)) rfl (fun _ => rfl) l3 ?_
                          refine r_s (fr' := (175, lv, [.long (v1 ||| v3)])) (hp' := xW B m) (q := (.lor, 1, 0, 0, .null)) rfl (fun _ => rfl) (Nat.le_refl _) ?_
                          obtain rfl := Option.some.inj h
                          exact q_rl (q := (.lreturn, 1, 0, 0, .null)) rfl (fun _ => rfl) rfl
                        · rw [if_neg d13] at h
                          by_cases d14 : ((v0 == 14)) = true
                          · rw [if_pos d14] at h
                            refine q_sw (pc2 := 94) (q := (.tableswitch 171 2 14 #[67, 71, 75, 79, 107, 119, 131, 143, 155, 171, 167, 171, 93], 67, 0, 0, .null)) d14 rfl (fun _ => rfl) ?_
                            refine q_ll (k := 1) (i := 3) (q := (.lload_n 3, 1, 0, 0, .null)) rfl (fun _ => rfl) l3 ?_
                            refine r_s (fr' := (96, lv, [.long 0, .long v3])) (hp' := xW B m) (q := (.lconst 0, 1, 0, 0, .null)) rfl (fun _ => rfl) (Nat.le_refl _) ?_
                            refine r_s (fr' := (97, lv, [.int (lg_cmp v3 0)])) (hp' := xW B m) (q := (.lcmp, 1, 0, 0, .null)) rfl (fun _ => rfl) (Nat.le_refl _) ?_
                            refine r_if (len := 3) (a := 104) (b := 0) (v0 := .null) (cn := .ne) (off := 7) rfl (fun c => ?_) (fun c => ?_)
                            · rw [if_pos c] at h
                              refine q_ll (k := 1) (i := 1) (q := (.lload_n 1, 1, 0, 0, .null)) rfl (fun _ => rfl) l1 ?_
                              refine q_ll (k := 1) (i := 3) (q := (.lload_n 3, 1, 0, 0, .null)) rfl (fun _ => rfl) l3 ?_
                              obtain ⟨c15, h⟩ := xif h
                              refine q_ldiv (f := fun x y => x - x / y * y) (q := (.lrem, 1, 0, 0, .null)) rfl (fun _ => rfl) c15 ?_
                              obtain rfl := Option.some.inj h
                              exact q_rl (q := (.lreturn, 1, 0, 0, .null)) rfl (fun _ => rfl) rfl
                            · rw [if_neg (by rw [c]; decide)] at h
                              refine r_s (fr' := (101, lv, [.long 0])) (hp' := xW B m) (q := (.lconst 0, 1, 0, 0, .null)) rfl (fun _ => rfl) (Nat.le_refl _) ?_
                              refine r_s (fr' := (107, lv, [.long 0])) (hp' := xW B m) (q := (.goto 6, 3, 107, 0, .null)) rfl (fun _ => rfl) (Nat.le_refl _) ?_
                              obtain rfl := Option.some.inj h
                              exact q_rl (q := (.lreturn, 1, 0, 0, .null)) rfl (fun _ => rfl) rfl
                          · rw [if_neg d14] at h
                            refine q_td (pc2 := 172) (q := (.tableswitch 171 2 14 #[67, 71, 75, 79, 107, 119, 131, 143, 155, 171, 167, 171, 93], 67, 0, 0, .null)) (dflt := 171) (lo := 2) (hi := 14) (offs := #[67, 71, 75, 79, 107, 119, 131, 143, 155, 171, 167, 171, 93]) (by have z0 := xne (z := 2) rfl d1; have z1 := xne (z := 3) rfl d2; have z2 := xne (z := 4) rfl d3; have z3 := xne (z := 5) rfl d4; have z4 := xne (z := 6) rfl d6; have z5 := xne (z := 7) rfl d7; have z6 := xne (z := 8) rfl d8; have z7 := xne (z := 9) rfl d9; have z8 := xne (z := 10) rfl d10; have z9 := xne (z := 11) rfl d11; have z10 := xne (z := 12) rfl d12; have z11 := xne (z := 13) rfl d13; have z12 := xne (z := 14) rfl d14; omega) rfl (fun _ => rfl) rfl ?_
                            refine q_ll (k := 1) (i := 1) (q := (.lload_n 1, 1, 0, 0, .null)) rfl (fun _ => rfl) l1 ?_
                            refine q_ll (k := 1) (i := 3) (q := (.lload_n 3, 1, 0, 0, .null)) rfl (fun _ => rfl) l3 ?_
                            refine r_s (fr' := (175, lv, [.long (v1 ||| v3)])) (hp' := xW B m) (q := (.lor, 1, 0, 0, .null)) rfl (fun _ => rfl) (Nat.le_refl _) ?_
                            obtain rfl := Option.some.inj h
                            exact q_rl (q := (.lreturn, 1, 0, 0, .null)) rfl (fun _ => rfl) rfl
set_option maxRecDepth 20000 in
theorem Z202 {B : zHp} (H : yH0 B) {F : Nat} {a0 : Int32} {a1 : Int64} {a3 : Int64} {m : xS} {x : Int64 × xS} (h : D202 F a0 a1 a3 m = some x) {d : Nat} (hd : 1 ≤ d) : zCan d 202 [.int a0, .long a1, .long a3] (xW B m) (some (.long x.1), xW B x.2) := by
  obtain ⟨e, rfl⟩ : ∃ e, d = e + 1 := ⟨d - 1, by omega⟩
  refine zCan_body (nL := 5) (rt := (some .long)) (cd := zc202) (xg202) ⟨Nat.le_of_ble_eq_true rfl, by decide⟩ (Nat.le_refl _) ?_
  exact T202 H hd F rfl rfl rfl h
/-- LentToolsModel.reckons -/
def D203_129 (F : Nat) (g8 : Int32 → Int32 → Int32 → Int32 → xS → Option (Int64 × xS)) (v1 : Int32) (v2 : Int32) (v3 : Int32) (v4 : Int32) (v5 : Int32) (v6 : Int32) (m : xS) : Option (Int64 × xS) :=
  g8 v1 v2 v3 (v4 + Int32.ofInt 1) m
set_option maxRecDepth 20000 in
theorem T203_129 {B : zHp} (H : yH0 B) {e : Nat} (he : 2 ≤ e + 1) (F : Nat) (g8 : Int32 → Int32 → Int32 → Int32 → xS → Option (Int64 × xS)) (k8 : ∀ {v1 : Int32} {v2 : Int32} {v3 : Int32} {v4 : Int32} {lv : List (Nat × Value)} {m : xS} {x : Int64 × xS}, zld lv 0 = some (.ref 70) → zld lv 1 = some (.int v1) → zld lv 2 = some (.int v2) → zld lv 3 = some (.int v3) → zld lv 4 = some (.int v4) → g8 v1 v2 v3 v4 m = some x → zR none e 11 (some .long) zc203 (8, lv, []) (xW B m) (some (.long x.1), xW B x.2)) {v1 : Int32} {v2 : Int32} {v3 : Int32} {v4 : Int32} {v5 : Int32} {v6 : Int32} {lv : List (Nat × Value)} {m : xS} {x : Int64 × xS} (l0 : zld lv 0 = some (.ref 70)) (l1 : zld lv 1 = some (.int v1)) (l2 : zld lv 2 = some (.int v2)) (l3 : zld lv 3 = some (.int v3)) (l4 : zld lv 4 = some (.int v4)) (l5 : zld lv 5 = some (.int v5)) (l6 : zld lv 6 = some (.int v6)) (h : D203_129 F g8 v1 v2 v3 v4 v5 v6 m = some x) : zR none e 11 (some .long) zc203 (129, lv, []) (xW B m) (some (.long x.1), xW B x.2) := by
  unfold D203_129 at h
  refine q_inc (i := 4) (n := 1) (q := (.iinc 4 1, 3, 0, 0, .null)) rfl (fun _ => rfl) l4 (by decide) ?_
  have l0_1 : zld (zs1 lv 4 (.int (v4 + Int32.ofInt 1))) 0 = some (.ref 70) := x_o1 l0 rfl rfl
  have l1_1 : zld (zs1 lv 4 (.int (v4 + Int32.ofInt 1))) 1 = some (.int v1) := x_o1 l1 rfl rfl
  have l2_1 : zld (zs1 lv 4 (.int (v4 + Int32.ofInt 1))) 2 = some (.int v2) := x_o1 l2 rfl rfl
  have l3_1 : zld (zs1 lv 4 (.int (v4 + Int32.ofInt 1))) 3 = some (.int v3) := x_o1 l3 rfl rfl
  have l4_1 : zld (zs1 lv 4 (.int (v4 + Int32.ofInt 1))) 4 = some (.int (v4 + Int32.ofInt 1)) := zs1_ld _ _ _
  have l5_1 : zld (zs1 lv 4 (.int (v4 + Int32.ofInt 1))) 5 = some (.int v5) := x_o1 l5 rfl rfl
  have l6_1 : zld (zs1 lv 4 (.int (v4 + Int32.ofInt 1))) 6 = some (.int v6) := x_o1 l6 rfl rfl
  generalize (zs1 lv 4 (.int (v4 + Int32.ofInt 1))) = lv1 at *
  refine r_s (fr' := (8, lv1, [])) (hp' := xW B m) (q := (.goto (-124), 3, 8, 0, .null)) rfl (fun _ => rfl) (Nat.le_refl _) ?_
  exact k8 l0_1 l1_1 l2_1 l3_1 l4_1 h
def D203_8 (F : Nat) : Nat → Int32 → Int32 → Int32 → Int32 → xS → Option (Int64 × xS)
  | 0, _, _, _, _, _ => none
  | f + 1, v1, v2, v3, v4, m =>
    if zcmp .ge v4 v3 = true then
      (D201 F m).bind fun q136 =>
        some (q136.1, q136.2)
    else
      if xib ((400 * v1) + v4) 2400 = true then
        if xib ((400 * v1) + v4) 2400 = true then
          if zcmp .ne ((m.1 72 (((400 * v1) + v4) : Int32).toNatClampNeg) &&& 15) 0 = true then
            if zcmp .ne ((m.1 72 (((400 * v1) + v4) : Int32).toNatClampNeg) &&& 15) 1 = true then
              if zcmp .ne ((m.1 72 (((400 * v1) + v4) : Int32).toNatClampNeg) &&& 15) 11 = true then
                (D201 F m).bind fun q105 =>
                  (D201 F q105.2).bind fun q111 =>
                    (D202 F ((m.1 72 (((400 * v1) + v4) : Int32).toNatClampNeg) &&& 15) q111.1 q105.1 q111.2).bind fun q123 =>
                      (D200 F q123.1 q123.2).bind fun q126 =>
                        D203_129 F (D203_8 F f) v1 v2 v3 v4 ((m.1 72 (((400 * v1) + v4) : Int32).toNatClampNeg) &&& 15) ((m.1 72 (((400 * v1) + v4) : Int32).toNatClampNeg) >>> (4 &&& 31)) q126.2
              else
                (D201 F m).bind fun q94 =>
                  (D200 F (1 - q94.1) q94.2).bind fun q98 =>
                    D203_129 F (D203_8 F f) v1 v2 v3 v4 ((m.1 72 (((400 * v1) + v4) : Int32).toNatClampNeg) &&& 15) ((m.1 72 (((400 * v1) + v4) : Int32).toNatClampNeg) >>> (4 &&& 31)) q98.2
            else
              if xib ((m.1 72 (((400 * v1) + v4) : Int32).toNatClampNeg) >>> (4 &&& 31)) 13 = true then
                (D200 F (m.2 79 (((m.1 72 (((400 * v1) + v4) : Int32).toNatClampNeg) >>> (4 &&& 31)) : Int32).toNatClampNeg) m).bind fun q78 =>
                  D203_129 F (D203_8 F f) v1 v2 v3 v4 ((m.1 72 (((400 * v1) + v4) : Int32).toNatClampNeg) &&& 15) ((m.1 72 (((400 * v1) + v4) : Int32).toNatClampNeg) >>> (4 &&& 31)) q78.2
              else none
          else
            (D200 F (((m.1 72 (((400 * v1) + v4) : Int32).toNatClampNeg) >>> (4 &&& 31)) : Int32).toInt64 m).bind fun q58 =>
              D203_129 F (D203_8 F f) v1 v2 v3 v4 ((m.1 72 (((400 * v1) + v4) : Int32).toNatClampNeg) &&& 15) ((m.1 72 (((400 * v1) + v4) : Int32).toNatClampNeg) >>> (4 &&& 31)) q58.2
        else none
      else none
set_option maxRecDepth 20000 in
theorem T203_8 {B : zHp} (H : yH0 B) {e : Nat} (he : 2 ≤ e + 1) (F : Nat) : ∀ (f : Nat) {v1 : Int32} {v2 : Int32} {v3 : Int32} {v4 : Int32} {lv : List (Nat × Value)} {m : xS} {x : Int64 × xS}, zld lv 0 = some (.ref 70) → zld lv 1 = some (.int v1) → zld lv 2 = some (.int v2) → zld lv 3 = some (.int v3) → zld lv 4 = some (.int v4) → D203_8 F f v1 v2 v3 v4 m = some x → zR none e 11 (some .long) zc203 (8, lv, []) (xW B m) (some (.long x.1), xW B x.2) := by
  intro f
  induction f with
  | zero => intro v1 v2 v3 v4 lv m x l0 l1 l2 l3 l4 h; cases h
  | succ f ih =>
    intro v1 v2 v3 v4 lv m x l0 l1 l2 l3 l4 h
    unfold D203_8 at h
    refine q_li (k := 2) (i := 4) (q := (.iload 4, 2, 0, 0, .null)) rfl (fun _ => rfl) l4 ?_
    refine q_li (k := 1) (i := 3) (q := (.iload_n 3, 1, 0, 0, .null)) rfl (fun _ => rfl) l3 ?_
    refine r_ifc (len := 3) (a := 135) (b := 0) (v0 := .null) (cn := .ge) (off := 124) rfl (fun c => ?_) (fun c => ?_)
    · rw [if_pos c] at h
      refine q_lr (k := 1) (i := 0) (q := (.aload_n 0, 1, 0, 0, .null)) rfl (fun _ => rfl) l0 ?_
      obtain ⟨q136, h136, h⟩ := xbind h
      refine r_call (ix := 70) (as := []) (rest := []) (rv := some (.long q136.1)) (hp' := xW B q136.2) (pc := 136) rfl xr201 rfl rfl rfl (xkd H (by decide)) (Nat.le_of_ble_eq_true rfl) (Z201 H h136 (by omega)) (Nat.le_refl _) ?_
      obtain rfl := Option.some.inj h
      exact q_rl (q := (.lreturn, 1, 0, 0, .null)) rfl (fun _ => rfl) rfl
    · rw [if_neg (by rw [c]; decide)] at h
      refine q_lr (k := 1) (i := 0) (q := (.aload_n 0, 1, 0, 0, .null)) rfl (fun _ => rfl) l0 ?_
      refine r_gr (c := 72) H (pc := 15) rfl (by decide) (by decide) ?_
      refine r_s (fr' := (21, lv, [.int 400, .ref 72])) (hp' := xW B m) (q := (.sipush 400, 3, 0, 0, .null)) rfl (fun _ => rfl) (Nat.le_refl _) ?_
      refine q_li (k := 1) (i := 1) (q := (.iload_n 1, 1, 0, 0, .null)) rfl (fun _ => rfl) l1 ?_
      refine r_s (fr' := (23, lv, [.int (400 * v1), .ref 72])) (hp' := xW B m) (q := (.imul, 1, 0, 0, .null)) rfl (fun _ => rfl) (Nat.le_refl _) ?_
      refine q_li (k := 2) (i := 4) (q := (.iload 4, 2, 0, 0, .null)) rfl (fun _ => rfl) l4 ?_
      refine r_s (fr' := (26, lv, [.int ((400 * v1) + v4), .ref 72])) (hp' := xW B m) (q := (.iadd, 1, 0, 0, .null)) rfl (fun _ => rfl) (Nat.le_refl _) ?_
      obtain ⟨c1, h⟩ := xif h
      refine q_al (n := 2400) (v := (m.1 72 (((400 * v1) + v4) : Int32).toNatClampNeg)) H (pc := 26) rfl (by decide) c1 rfl ?_
      refine r_s (fr' := (29, lv, [.int 15, .int (m.1 72 (((400 * v1) + v4) : Int32).toNatClampNeg)])) (hp' := xW B m) (q := (.bipush 15, 2, 0, 0, .null)) rfl (fun _ => rfl) (Nat.le_refl _) ?_
      refine r_s (fr' := (30, lv, [.int ((m.1 72 (((400 * v1) + v4) : Int32).toNatClampNeg) &&& 15)])) (hp' := xW B m) (q := (.iand, 1, 0, 0, .null)) rfl (fun _ => rfl) (Nat.le_refl _) ?_
      refine q_si (k := 2) (i := 5) (q := (.istore 5, 2, 0, 0, .null)) rfl (fun _ => rfl) (by decide) ?_
      have l0_2 : zld (zs1 lv 5 (.int ((m.1 72 (((400 * v1) + v4) : Int32).toNatClampNeg) &&& 15))) 0 = some (.ref 70) := x_o1 l0 rfl rfl
      have l1_2 : zld (zs1 lv 5 (.int ((m.1 72 (((400 * v1) + v4) : Int32).toNatClampNeg) &&& 15))) 1 = some (.int v1) := x_o1 l1 rfl rfl
      have l2_2 : zld (zs1 lv 5 (.int ((m.1 72 (((400 * v1) + v4) : Int32).toNatClampNeg) &&& 15))) 2 = some (.int v2) := x_o1 l2 rfl rfl
      have l3_2 : zld (zs1 lv 5 (.int ((m.1 72 (((400 * v1) + v4) : Int32).toNatClampNeg) &&& 15))) 3 = some (.int v3) := x_o1 l3 rfl rfl
      have l4_2 : zld (zs1 lv 5 (.int ((m.1 72 (((400 * v1) + v4) : Int32).toNatClampNeg) &&& 15))) 4 = some (.int v4) := x_o1 l4 rfl rfl
      have l5_2 : zld (zs1 lv 5 (.int ((m.1 72 (((400 * v1) + v4) : Int32).toNatClampNeg) &&& 15))) 5 = some (.int ((m.1 72 (((400 * v1) + v4) : Int32).toNatClampNeg) &&& 15)) := zs1_ld _ _ _
      generalize (zs1 lv 5 (.int ((m.1 72 (((400 * v1) + v4) : Int32).toNatClampNeg) &&& 15))) = lv2 at *
      refine q_lr (k := 1) (i := 0) (q := (.aload_n 0, 1, 0, 0, .null)) rfl (fun _ => rfl) l0_2 ?_
      refine r_gr (c := 72) H (pc := 33) rfl (by decide) (by decide) ?_
      refine r_s (fr' := (39, lv2, [.int 400, .ref 72])) (hp' := xW B m) (q := (.sipush 400, 3, 0, 0, .null)) rfl (fun _ => rfl) (Nat.le_refl _) ?_
      refine q_li (k := 1) (i := 1) (q := (.iload_n 1, 1, 0, 0, .null)) rfl (fun _ => rfl) l1_2 ?_
      refine r_s (fr' := (41, lv2, [.int (400 * v1), .ref 72])) (hp' := xW B m) (q := (.imul, 1, 0, 0, .null)) rfl (fun _ => rfl) (Nat.le_refl _) ?_
      refine q_li (k := 2) (i := 4) (q := (.iload 4, 2, 0, 0, .null)) rfl (fun _ => rfl) l4_2 ?_
      refine r_s (fr' := (44, lv2, [.int ((400 * v1) + v4), .ref 72])) (hp' := xW B m) (q := (.iadd, 1, 0, 0, .null)) rfl (fun _ => rfl) (Nat.le_refl _) ?_
      obtain ⟨c3, h⟩ := xif h
      refine q_al (n := 2400) (v := (m.1 72 (((400 * v1) + v4) : Int32).toNatClampNeg)) H (pc := 44) rfl (by decide) c3 rfl ?_
      refine r_s (fr' := (46, lv2, [.int 4, .int (m.1 72 (((400 * v1) + v4) : Int32).toNatClampNeg)])) (hp' := xW B m) (q := (.iconst 4, 1, 0, 0, .null)) rfl (fun _ => rfl) (Nat.le_refl _) ?_
      refine r_s (fr' := (47, lv2, [.int ((m.1 72 (((400 * v1) + v4) : Int32).toNatClampNeg) >>> (4 &&& 31))])) (hp' := xW B m) (q := (.ishr, 1, 0, 0, .null)) rfl (fun _ => rfl) (Nat.le_refl _) ?_
      refine q_si (k := 2) (i := 6) (q := (.istore 6, 2, 0, 0, .null)) rfl (fun _ => rfl) (by decide) ?_
      have l0_4 : zld (zs1 lv2 6 (.int ((m.1 72 (((400 * v1) + v4) : Int32).toNatClampNeg) >>> (4 &&& 31)))) 0 = some (.ref 70) := x_o1 l0_2 rfl rfl
      have l1_4 : zld (zs1 lv2 6 (.int ((m.1 72 (((400 * v1) + v4) : Int32).toNatClampNeg) >>> (4 &&& 31)))) 1 = some (.int v1) := x_o1 l1_2 rfl rfl
      have l2_4 : zld (zs1 lv2 6 (.int ((m.1 72 (((400 * v1) + v4) : Int32).toNatClampNeg) >>> (4 &&& 31)))) 2 = some (.int v2) := x_o1 l2_2 rfl rfl
      have l3_4 : zld (zs1 lv2 6 (.int ((m.1 72 (((400 * v1) + v4) : Int32).toNatClampNeg) >>> (4 &&& 31)))) 3 = some (.int v3) := x_o1 l3_2 rfl rfl
      have l4_4 : zld (zs1 lv2 6 (.int ((m.1 72 (((400 * v1) + v4) : Int32).toNatClampNeg) >>> (4 &&& 31)))) 4 = some (.int v4) := x_o1 l4_2 rfl rfl
      have l5_4 : zld (zs1 lv2 6 (.int ((m.1 72 (((400 * v1) + v4) : Int32).toNatClampNeg) >>> (4 &&& 31)))) 5 = some (.int ((m.1 72 (((400 * v1) + v4) : Int32).toNatClampNeg) &&& 15)) := x_o1 l5_2 rfl rfl
      have l6_4 : zld (zs1 lv2 6 (.int ((m.1 72 (((400 * v1) + v4) : Int32).toNatClampNeg) >>> (4 &&& 31)))) 6 = some (.int ((m.1 72 (((400 * v1) + v4) : Int32).toNatClampNeg) >>> (4 &&& 31))) := zs1_ld _ _ _
      generalize (zs1 lv2 6 (.int ((m.1 72 (((400 * v1) + v4) : Int32).toNatClampNeg) >>> (4 &&& 31)))) = lv4 at *
      refine q_li (k := 2) (i := 5) (q := (.iload 5, 2, 0, 0, .null)) rfl (fun _ => rfl) l5_4 ?_
      refine r_if (len := 3) (a := 64) (b := 0) (v0 := .null) (cn := .ne) (off := 13) rfl (fun c => ?_) (fun c => ?_)
      · rw [if_pos c] at h
        refine q_li (k := 2) (i := 5) (q := (.iload 5, 2, 0, 0, .null)) rfl (fun _ => rfl) l5_4 ?_
        refine r_s (fr' := (67, lv4, [.int 1, .int ((m.1 72 (((400 * v1) + v4) : Int32).toNatClampNeg) &&& 15)])) (hp' := xW B m) (q := (.iconst 1, 1, 0, 0, .null)) rfl (fun _ => rfl) (Nat.le_refl _) ?_
        refine r_ifc (len := 3) (a := 84) (b := 0) (v0 := .null) (cn := .ne) (off := 17) rfl (fun c => ?_) (fun c => ?_)
        · rw [if_pos c] at h
          refine q_li (k := 2) (i := 5) (q := (.iload 5, 2, 0, 0, .null)) rfl (fun _ => rfl) l5_4 ?_
          refine r_s (fr' := (88, lv4, [.int 11, .int ((m.1 72 (((400 * v1) + v4) : Int32).toNatClampNeg) &&& 15)])) (hp' := xW B m) (q := (.bipush 11, 2, 0, 0, .null)) rfl (fun _ => rfl) (Nat.le_refl _) ?_
          refine r_ifc (len := 3) (a := 104) (b := 0) (v0 := .null) (cn := .ne) (off := 16) rfl (fun c => ?_) (fun c => ?_)
          · rw [if_pos c] at h
            refine q_lr (k := 1) (i := 0) (q := (.aload_n 0, 1, 0, 0, .null)) rfl (fun _ => rfl) l0_4 ?_
            obtain ⟨q105, h105, h⟩ := xbind h
            refine r_call (ix := 70) (as := []) (rest := []) (rv := some (.long q105.1)) (hp' := xW B q105.2) (pc := 105) rfl xr201 rfl rfl rfl (xkd H (by decide)) (Nat.le_of_ble_eq_true rfl) (Z201 H h105 (by omega)) (Nat.le_refl _) ?_
            refine q_sl (k := 2) (i := 7) (q := (.lstore 7, 2, 0, 0, .null)) rfl (fun _ => rfl) (by decide) ?_
            have l0_5 : zld (zs2 lv4 7 (.long q105.1)) 0 = some (.ref 70) := x_o2 l0_4 rfl rfl rfl
            have l1_5 : zld (zs2 lv4 7 (.long q105.1)) 1 = some (.int v1) := x_o2 l1_4 rfl rfl rfl
            have l2_5 : zld (zs2 lv4 7 (.long q105.1)) 2 = some (.int v2) := x_o2 l2_4 rfl rfl rfl
            have l3_5 : zld (zs2 lv4 7 (.long q105.1)) 3 = some (.int v3) := x_o2 l3_4 rfl rfl rfl
            have l4_5 : zld (zs2 lv4 7 (.long q105.1)) 4 = some (.int v4) := x_o2 l4_4 rfl rfl rfl
            have l5_5 : zld (zs2 lv4 7 (.long q105.1)) 5 = some (.int ((m.1 72 (((400 * v1) + v4) : Int32).toNatClampNeg) &&& 15)) := x_o2 l5_4 rfl rfl rfl
            have l6_5 : zld (zs2 lv4 7 (.long q105.1)) 6 = some (.int ((m.1 72 (((400 * v1) + v4) : Int32).toNatClampNeg) >>> (4 &&& 31))) := x_o2 l6_4 rfl rfl rfl
            have l7_5 : zld (zs2 lv4 7 (.long q105.1)) 7 = some (.long q105.1) := zs2_ld _ _ _
            generalize (zs2 lv4 7 (.long q105.1)) = lv5 at *
            refine q_lr (k := 1) (i := 0) (q := (.aload_n 0, 1, 0, 0, .null)) rfl (fun _ => rfl) l0_5 ?_
            obtain ⟨q111, h111, h⟩ := xbind h
            refine r_call (ix := 70) (as := []) (rest := []) (rv := some (.long q111.1)) (hp' := xW B q111.2) (pc := 111) rfl xr201 rfl rfl rfl (xkd H (by decide)) (Nat.le_of_ble_eq_true rfl) (Z201 H h111 (by omega)) (Nat.le_refl _) ?_
            refine q_sl (k := 2) (i := 9) (q := (.lstore 9, 2, 0, 0, .null)) rfl (fun _ => rfl) (by decide) ?_
            have l0_6 : zld (zs2 lv5 9 (.long q111.1)) 0 = some (.ref 70) := x_o2 l0_5 rfl rfl rfl
            have l1_6 : zld (zs2 lv5 9 (.long q111.1)) 1 = some (.int v1) := x_o2 l1_5 rfl rfl rfl
            have l2_6 : zld (zs2 lv5 9 (.long q111.1)) 2 = some (.int v2) := x_o2 l2_5 rfl rfl rfl
            have l3_6 : zld (zs2 lv5 9 (.long q111.1)) 3 = some (.int v3) := x_o2 l3_5 rfl rfl rfl
            have l4_6 : zld (zs2 lv5 9 (.long q111.1)) 4 = some (.int v4) := x_o2 l4_5 rfl rfl rfl
            have l5_6 : zld (zs2 lv5 9 (.long q111.1)) 5 = some (.int ((m.1 72 (((400 * v1) + v4) : Int32).toNatClampNeg) &&& 15)) := x_o2 l5_5 rfl rfl rfl
            have l6_6 : zld (zs2 lv5 9 (.long q111.1)) 6 = some (.int ((m.1 72 (((400 * v1) + v4) : Int32).toNatClampNeg) >>> (4 &&& 31))) := x_o2 l6_5 rfl rfl rfl
            have l7_6 : zld (zs2 lv5 9 (.long q111.1)) 7 = some (.long q105.1) := x_o2 l7_5 rfl rfl rfl
            have l9_6 : zld (zs2 lv5 9 (.long q111.1)) 9 = some (.long q111.1) := zs2_ld _ _ _
            generalize (zs2 lv5 9 (.long q111.1)) = lv6 at *
            refine q_lr (k := 1) (i := 0) (q := (.aload_n 0, 1, 0, 0, .null)) rfl (fun _ => rfl) l0_6 ?_
            refine q_li (k := 2) (i := 5) (q := (.iload 5, 2, 0, 0, .null)) rfl (fun _ => rfl) l5_6 ?_
            refine q_ll (k := 2) (i := 9) (q := (.lload 9, 2, 0, 0, .null)) rfl (fun _ => rfl) l9_6 ?_
            refine q_ll (k := 2) (i := 7) (q := (.lload 7, 2, 0, 0, .null)) rfl (fun _ => rfl) l7_6 ?_
            obtain ⟨q123, h123, h⟩ := xbind h
            refine r_callS (as := [.int ((m.1 72 (((400 * v1) + v4) : Int32).toNatClampNeg) &&& 15), .long q111.1, .long q105.1]) (rest := [.ref 70]) (rv := some (.long q123.1)) (hp' := xW B q123.2) (pc := 123) rfl xr202 rfl rfl rfl (Nat.le_of_ble_eq_true rfl) (Z202 H h123 (by omega)) (Nat.le_refl _) ?_
            obtain ⟨q126, h126, h⟩ := xbind h
            refine r_call (ix := 70) (as := [.long q123.1]) (rest := []) (rv := none) (hp' := xW B q126.2) (pc := 126) rfl xr200 rfl rfl rfl (xkd H (by decide)) (Nat.le_of_ble_eq_true rfl) (Z200 H h126 (by omega)) (Nat.le_refl _) ?_
            exact T203_129 H he F _ ih l0_6 l1_6 l2_6 l3_6 l4_6 l5_6 l6_6 h
          · rw [if_neg (by rw [c]; decide)] at h
            refine q_lr (k := 1) (i := 0) (q := (.aload_n 0, 1, 0, 0, .null)) rfl (fun _ => rfl) l0_4 ?_
            refine r_s (fr' := (93, lv4, [.long 1, .ref 70])) (hp' := xW B m) (q := (.lconst 1, 1, 0, 0, .null)) rfl (fun _ => rfl) (Nat.le_refl _) ?_
            refine q_lr (k := 1) (i := 0) (q := (.aload_n 0, 1, 0, 0, .null)) rfl (fun _ => rfl) l0_4 ?_
            obtain ⟨q94, h94, h⟩ := xbind h
            refine r_call (ix := 70) (as := []) (rest := [.long 1, .ref 70]) (rv := some (.long q94.1)) (hp' := xW B q94.2) (pc := 94) rfl xr201 rfl rfl rfl (xkd H (by decide)) (Nat.le_of_ble_eq_true rfl) (Z201 H h94 (by omega)) (Nat.le_refl _) ?_
            refine r_s (fr' := (98, lv4, [.long (1 - q94.1), .ref 70])) (hp' := xW B q94.2) (q := (.lsub, 1, 0, 0, .null)) rfl (fun _ => rfl) (Nat.le_refl _) ?_
            obtain ⟨q98, h98, h⟩ := xbind h
            refine r_call (ix := 70) (as := [.long (1 - q94.1)]) (rest := []) (rv := none) (hp' := xW B q98.2) (pc := 98) rfl xr200 rfl rfl rfl (xkd H (by decide)) (Nat.le_of_ble_eq_true rfl) (Z200 H h98 (by omega)) (Nat.le_refl _) ?_
            refine r_s (fr' := (129, lv4, [])) (hp' := xW B q98.2) (q := (.goto 28, 3, 129, 0, .null)) rfl (fun _ => rfl) (Nat.le_refl _) ?_
            exact T203_129 H he F _ ih l0_4 l1_4 l2_4 l3_4 l4_4 l5_4 l6_4 h
        · rw [if_neg (by rw [c]; decide)] at h
          refine q_lr (k := 1) (i := 0) (q := (.aload_n 0, 1, 0, 0, .null)) rfl (fun _ => rfl) l0_4 ?_
          refine q_lr (k := 1) (i := 0) (q := (.aload_n 0, 1, 0, 0, .null)) rfl (fun _ => rfl) l0_4 ?_
          refine r_gr (c := 79) H (pc := 72) rfl (by decide) (by decide) ?_
          refine q_li (k := 2) (i := 6) (q := (.iload 6, 2, 0, 0, .null)) rfl (fun _ => rfl) l6_4 ?_
          obtain ⟨c7, h⟩ := xif h
          refine q_lal (n := 13) (v := (m.2 79 (((m.1 72 (((400 * v1) + v4) : Int32).toNatClampNeg) >>> (4 &&& 31)) : Int32).toNatClampNeg)) H (pc := 77) rfl (by decide) c7 rfl ?_
          obtain ⟨q78, h78, h⟩ := xbind h
          refine r_call (ix := 70) (as := [.long (m.2 79 (((m.1 72 (((400 * v1) + v4) : Int32).toNatClampNeg) >>> (4 &&& 31)) : Int32).toNatClampNeg)]) (rest := []) (rv := none) (hp' := xW B q78.2) (pc := 78) rfl xr200 rfl rfl rfl (xkd H (by decide)) (Nat.le_of_ble_eq_true rfl) (Z200 H h78 (by omega)) (Nat.le_refl _) ?_
          refine r_s (fr' := (129, lv4, [])) (hp' := xW B q78.2) (q := (.goto 48, 3, 129, 0, .null)) rfl (fun _ => rfl) (Nat.le_refl _) ?_
          exact T203_129 H he F _ ih l0_4 l1_4 l2_4 l3_4 l4_4 l5_4 l6_4 h
      · rw [if_neg (by rw [c]; decide)] at h
        refine q_lr (k := 1) (i := 0) (q := (.aload_n 0, 1, 0, 0, .null)) rfl (fun _ => rfl) l0_4 ?_
        refine q_li (k := 2) (i := 6) (q := (.iload 6, 2, 0, 0, .null)) rfl (fun _ => rfl) l6_4 ?_
        refine r_s (fr' := (58, lv4, [.long (((m.1 72 (((400 * v1) + v4) : Int32).toNatClampNeg) >>> (4 &&& 31)) : Int32).toInt64, .ref 70])) (hp' := xW B m) (q := (.i2l, 1, 0, 0, .null)) rfl (fun _ => rfl) (Nat.le_refl _) ?_
        obtain ⟨q58, h58, h⟩ := xbind h
        refine r_call (ix := 70) (as := [.long (((m.1 72 (((400 * v1) + v4) : Int32).toNatClampNeg) >>> (4 &&& 31)) : Int32).toInt64]) (rest := []) (rv := none) (hp' := xW B q58.2) (pc := 58) rfl xr200 rfl rfl rfl (xkd H (by decide)) (Nat.le_of_ble_eq_true rfl) (Z200 H h58 (by omega)) (Nat.le_refl _) ?_
        refine r_s (fr' := (129, lv4, [])) (hp' := xW B q58.2) (q := (.goto 68, 3, 129, 0, .null)) rfl (fun _ => rfl) (Nat.le_refl _) ?_
        exact T203_129 H he F _ ih l0_4 l1_4 l2_4 l3_4 l4_4 l5_4 l6_4 h
def D203 (F : Nat) (v1 : Int32) (v2 : Int32) (v3 : Int32) (m : xS) : Option (Int64 × xS) :=
  D203_8 F F v1 v2 v3 v2 (xu m 70 20 0)
set_option maxRecDepth 20000 in
theorem T203 {B : zHp} (H : yH0 B) {e : Nat} (he : 2 ≤ e + 1) (F : Nat) {v1 : Int32} {v2 : Int32} {v3 : Int32} {lv : List (Nat × Value)} {m : xS} {x : Int64 × xS} (l0 : zld lv 0 = some (.ref 70)) (l1 : zld lv 1 = some (.int v1)) (l2 : zld lv 2 = some (.int v2)) (l3 : zld lv 3 = some (.int v3)) (h : D203 F v1 v2 v3 m = some x) : zR none e 11 (some .long) zc203 (0, lv, []) (xW B m) (some (.long x.1), xW B x.2) := by
  unfold D203 at h
  refine q_lr (k := 1) (i := 0) (q := (.aload_n 0, 1, 0, 0, .null)) rfl (fun _ => rfl) l0 ?_
  refine r_s (fr' := (2, lv, [.int 0, .ref 70])) (hp' := xW B m) (q := (.iconst 0, 1, 0, 0, .null)) rfl (fun _ => rfl) (Nat.le_refl _) ?_
  refine r_pi (s2 := (xu m 70 20 0)) H (pc := 2) rfl (by decide) rfl rfl ?_
  refine q_li (k := 1) (i := 2) (q := (.iload_n 2, 1, 0, 0, .null)) rfl (fun _ => rfl) l2 ?_
  refine q_si (k := 2) (i := 4) (q := (.istore 4, 2, 0, 0, .null)) rfl (fun _ => rfl) (by decide) ?_
  have l0_1 : zld (zs1 lv 4 (.int v2)) 0 = some (.ref 70) := x_o1 l0 rfl rfl
  have l1_1 : zld (zs1 lv 4 (.int v2)) 1 = some (.int v1) := x_o1 l1 rfl rfl
  have l2_1 : zld (zs1 lv 4 (.int v2)) 2 = some (.int v2) := x_o1 l2 rfl rfl
  have l3_1 : zld (zs1 lv 4 (.int v2)) 3 = some (.int v3) := x_o1 l3 rfl rfl
  have l4_1 : zld (zs1 lv 4 (.int v2)) 4 = some (.int v2) := zs1_ld _ _ _
  generalize (zs1 lv 4 (.int v2)) = lv1 at *
  exact T203_8 H he F F l0_1 l1_1 l2_1 l3_1 l4_1 h
set_option maxRecDepth 20000 in
theorem Z203 {B : zHp} (H : yH0 B) {F : Nat} {a1 : Int32} {a2 : Int32} {a3 : Int32} {m : xS} {x : Int64 × xS} (h : D203 F a1 a2 a3 m = some x) {d : Nat} (hd : 2 ≤ d) : zCan d 203 [.ref 70, .int a1, .int a2, .int a3] (xW B m) (some (.long x.1), xW B x.2) := by
  obtain ⟨e, rfl⟩ : ∃ e, d = e + 1 := ⟨d - 1, by omega⟩
  refine zCan_body (nL := 11) (rt := (some .long)) (cd := zc203) (xg203) ⟨Nat.le_of_ble_eq_true rfl, by decide⟩ (Nat.le_refl _) ?_
  exact T203 H hd F rfl rfl rfl rfl h
/-- LentToolsModel.summedBy -/
def D244_58 (F : Nat) (v1 : Int32) (v2 : Int32) (v3 : Int32) (m : xS) : Option (Int64 × xS) :=
  if xib v3 288 = true then
    if xib (v3 + 1) 288 = true then
      (D203 F v1 (m.1 74 (v3 : Int32).toNatClampNeg) (m.1 74 ((v3 + 1) : Int32).toNatClampNeg) m).bind fun q74 =>
        some (q74.1, q74.2)
    else none
  else none
set_option maxRecDepth 20000 in
theorem T244_58 {B : zHp} (H : yH0 B) {e : Nat} (he : 3 ≤ e + 1) (F : Nat) {v1 : Int32} {v2 : Int32} {v3 : Int32} {lv : List (Nat × Value)} {m : xS} {x : Int64 × xS} (l0 : zld lv 0 = some (.ref 70)) (l1 : zld lv 1 = some (.int v1)) (l2 : zld lv 2 = some (.int v2)) (l3 : zld lv 3 = some (.int v3)) (h : D244_58 F v1 v2 v3 m = some x) : zR none e 4 (some .long) zc244 (58, lv, []) (xW B m) (some (.long x.1), xW B x.2) := by
  unfold D244_58 at h
  refine q_lr (k := 1) (i := 0) (q := (.aload_n 0, 1, 0, 0, .null)) rfl (fun _ => rfl) l0 ?_
  refine q_li (k := 1) (i := 1) (q := (.iload_n 1, 1, 0, 0, .null)) rfl (fun _ => rfl) l1 ?_
  refine q_lr (k := 1) (i := 0) (q := (.aload_n 0, 1, 0, 0, .null)) rfl (fun _ => rfl) l0 ?_
  refine r_gr (c := 74) H (pc := 61) rfl (by decide) (by decide) ?_
  refine q_li (k := 1) (i := 3) (q := (.iload_n 3, 1, 0, 0, .null)) rfl (fun _ => rfl) l3 ?_
  obtain ⟨c1, h⟩ := xif h
  refine q_al (n := 288) (v := (m.1 74 (v3 : Int32).toNatClampNeg)) H (pc := 65) rfl (by decide) c1 rfl ?_
  refine q_lr (k := 1) (i := 0) (q := (.aload_n 0, 1, 0, 0, .null)) rfl (fun _ => rfl) l0 ?_
  refine r_gr (c := 74) H (pc := 67) rfl (by decide) (by decide) ?_
  refine q_li (k := 1) (i := 3) (q := (.iload_n 3, 1, 0, 0, .null)) rfl (fun _ => rfl) l3 ?_
  refine r_s (fr' := (72, lv, [.int 1, .int v3, .ref 74, .int (m.1 74 (v3 : Int32).toNatClampNeg), .int v1, .ref 70])) (hp' := xW B m) (q := (.iconst 1, 1, 0, 0, .null)) rfl (fun _ => rfl) (Nat.le_refl _) ?_
  refine r_s (fr' := (73, lv, [.int (v3 + 1), .ref 74, .int (m.1 74 (v3 : Int32).toNatClampNeg), .int v1, .ref 70])) (hp' := xW B m) (q := (.iadd, 1, 0, 0, .null)) rfl (fun _ => rfl) (Nat.le_refl _) ?_
  obtain ⟨c2, h⟩ := xif h
  refine q_al (n := 288) (v := (m.1 74 ((v3 + 1) : Int32).toNatClampNeg)) H (pc := 73) rfl (by decide) c2 rfl ?_
  obtain ⟨q74, h74, h⟩ := xbind h
  refine r_call (ix := 70) (as := [.int v1, .int (m.1 74 (v3 : Int32).toNatClampNeg), .int (m.1 74 ((v3 + 1) : Int32).toNatClampNeg)]) (rest := []) (rv := some (.long q74.1)) (hp' := xW B q74.2) (pc := 74) rfl xr203 rfl rfl rfl (xkd H (by decide)) (Nat.le_of_ble_eq_true rfl) (Z203 H h74 (by omega)) (Nat.le_refl _) ?_
  obtain rfl := Option.some.inj h
  exact q_rl (q := (.lreturn, 1, 0, 0, .null)) rfl (fun _ => rfl) rfl
def D244_2 (F : Nat) : Nat → Int32 → Int32 → xS → Option (Int64 × xS)
  | 0, _, _, _ => none
  | f + 1, v1, v2, m =>
    if xib v1 6 = true then
      if zcmp .ge v2 (m.1 75 (v1 : Int32).toNatClampNeg) = true then
        some (0, m)
      else
        if xib (((48 * v1) + (4 * v2)) + 2) 288 = true then
          if zcmp .lt (m.1 74 ((((48 * v1) + (4 * v2)) + 2) : Int32).toNatClampNeg) 0 = true then
            D244_58 F v1 v2 ((48 * v1) + (4 * v2)) m
          else
            if xib (((48 * v1) + (4 * v2)) + 2) 288 = true then
              if xib (((48 * v1) + (4 * v2)) + 3) 288 = true then
                (D203 F v1 (m.1 74 ((((48 * v1) + (4 * v2)) + 2) : Int32).toNatClampNeg) (m.1 74 ((((48 * v1) + (4 * v2)) + 3) : Int32).toNatClampNeg) m).bind fun q50 =>
                  if zcmp .ne (lg_cmp q50.1 1) 0 = true then
                    D244_2 F f v1 (v2 + Int32.ofInt 1) q50.2
                  else
                    D244_58 F v1 v2 ((48 * v1) + (4 * v2)) q50.2
              else none
            else none
        else none
    else none
set_option maxRecDepth 20000 in
theorem T244_2 {B : zHp} (H : yH0 B) {e : Nat} (he : 3 ≤ e + 1) (F : Nat) : ∀ (f : Nat) {v1 : Int32} {v2 : Int32} {lv : List (Nat × Value)} {m : xS} {x : Int64 × xS}, zld lv 0 = some (.ref 70) → zld lv 1 = some (.int v1) → zld lv 2 = some (.int v2) → D244_2 F f v1 v2 m = some x → zR none e 4 (some .long) zc244 (2, lv, []) (xW B m) (some (.long x.1), xW B x.2) := by
  intro f
  induction f with
  | zero => intro v1 v2 lv m x l0 l1 l2 h; cases h
  | succ f ih =>
    intro v1 v2 lv m x l0 l1 l2 h
    unfold D244_2 at h
    refine q_li (k := 1) (i := 2) (q := (.iload_n 2, 1, 0, 0, .null)) rfl (fun _ => rfl) l2 ?_
    refine q_lr (k := 1) (i := 0) (q := (.aload_n 0, 1, 0, 0, .null)) rfl (fun _ => rfl) l0 ?_
    refine r_gr (c := 75) H (pc := 4) rfl (by decide) (by decide) ?_
    refine q_li (k := 1) (i := 1) (q := (.iload_n 1, 1, 0, 0, .null)) rfl (fun _ => rfl) l1 ?_
    obtain ⟨c1, h⟩ := xif h
    refine q_al (n := 6) (v := (m.1 75 (v1 : Int32).toNatClampNeg)) H (pc := 8) rfl (by decide) c1 rfl ?_
    refine r_ifc (len := 3) (a := 84) (b := 0) (v0 := .null) (cn := .ge) (off := 75) rfl (fun c => ?_) (fun c => ?_)
    · rw [if_pos c] at h
      refine r_s (fr' := (85, lv, [.long 0])) (hp' := xW B m) (q := (.lconst 0, 1, 0, 0, .null)) rfl (fun _ => rfl) (Nat.le_refl _) ?_
      obtain rfl := Option.some.inj h
      exact q_rl (q := (.lreturn, 1, 0, 0, .null)) rfl (fun _ => rfl) rfl
    · rw [if_neg (by rw [c]; decide)] at h
      refine r_s (fr' := (14, lv, [.int 48])) (hp' := xW B m) (q := (.bipush 48, 2, 0, 0, .null)) rfl (fun _ => rfl) (Nat.le_refl _) ?_
      refine q_li (k := 1) (i := 1) (q := (.iload_n 1, 1, 0, 0, .null)) rfl (fun _ => rfl) l1 ?_
      refine r_s (fr' := (16, lv, [.int (48 * v1)])) (hp' := xW B m) (q := (.imul, 1, 0, 0, .null)) rfl (fun _ => rfl) (Nat.le_refl _) ?_
      refine r_s (fr' := (17, lv, [.int 4, .int (48 * v1)])) (hp' := xW B m) (q := (.iconst 4, 1, 0, 0, .null)) rfl (fun _ => rfl) (Nat.le_refl _) ?_
      refine q_li (k := 1) (i := 2) (q := (.iload_n 2, 1, 0, 0, .null)) rfl (fun _ => rfl) l2 ?_
      refine r_s (fr' := (19, lv, [.int (4 * v2), .int (48 * v1)])) (hp' := xW B m) (q := (.imul, 1, 0, 0, .null)) rfl (fun _ => rfl) (Nat.le_refl _) ?_
      refine r_s (fr' := (20, lv, [.int ((48 * v1) + (4 * v2))])) (hp' := xW B m) (q := (.iadd, 1, 0, 0, .null)) rfl (fun _ => rfl) (Nat.le_refl _) ?_
      refine q_si (k := 1) (i := 3) (q := (.istore_n 3, 1, 0, 0, .null)) rfl (fun _ => rfl) (by decide) ?_
      have l0_2 : zld (zs1 lv 3 (.int ((48 * v1) + (4 * v2)))) 0 = some (.ref 70) := x_o1 l0 rfl rfl
      have l1_2 : zld (zs1 lv 3 (.int ((48 * v1) + (4 * v2)))) 1 = some (.int v1) := x_o1 l1 rfl rfl
      have l2_2 : zld (zs1 lv 3 (.int ((48 * v1) + (4 * v2)))) 2 = some (.int v2) := x_o1 l2 rfl rfl
      have l3_2 : zld (zs1 lv 3 (.int ((48 * v1) + (4 * v2)))) 3 = some (.int ((48 * v1) + (4 * v2))) := zs1_ld _ _ _
      generalize (zs1 lv 3 (.int ((48 * v1) + (4 * v2)))) = lv2 at *
      refine q_lr (k := 1) (i := 0) (q := (.aload_n 0, 1, 0, 0, .null)) rfl (fun _ => rfl) l0_2 ?_
      refine r_gr (c := 74) H (pc := 22) rfl (by decide) (by decide) ?_
      refine q_li (k := 1) (i := 3) (q := (.iload_n 3, 1, 0, 0, .null)) rfl (fun _ => rfl) l3_2 ?_
      refine r_s (fr' := (27, lv2, [.int 2, .int ((48 * v1) + (4 * v2)), .ref 74])) (hp' := xW B m) (q := (.iconst 2, 1, 0, 0, .null)) rfl (fun _ => rfl) (Nat.le_refl _) ?_
      refine r_s (fr' := (28, lv2, [.int (((48 * v1) + (4 * v2)) + 2), .ref 74])) (hp' := xW B m) (q := (.iadd, 1, 0, 0, .null)) rfl (fun _ => rfl) (Nat.le_refl _) ?_
      obtain ⟨c3, h⟩ := xif h
      refine q_al (n := 288) (v := (m.1 74 ((((48 * v1) + (4 * v2)) + 2) : Int32).toNatClampNeg)) H (pc := 28) rfl (by decide) c3 rfl ?_
      refine r_if (len := 3) (a := 58) (b := 0) (v0 := .null) (cn := .lt) (off := 29) rfl (fun c => ?_) (fun c => ?_)
      · rw [if_pos c] at h
        exact T244_58 H he F l0_2 l1_2 l2_2 l3_2 h
      · rw [if_neg (by rw [c]; decide)] at h
        refine q_lr (k := 1) (i := 0) (q := (.aload_n 0, 1, 0, 0, .null)) rfl (fun _ => rfl) l0_2 ?_
        refine q_li (k := 1) (i := 1) (q := (.iload_n 1, 1, 0, 0, .null)) rfl (fun _ => rfl) l1_2 ?_
        refine q_lr (k := 1) (i := 0) (q := (.aload_n 0, 1, 0, 0, .null)) rfl (fun _ => rfl) l0_2 ?_
        refine r_gr (c := 74) H (pc := 35) rfl (by decide) (by decide) ?_
        refine q_li (k := 1) (i := 3) (q := (.iload_n 3, 1, 0, 0, .null)) rfl (fun _ => rfl) l3_2 ?_
        refine r_s (fr' := (40, lv2, [.int 2, .int ((48 * v1) + (4 * v2)), .ref 74, .int v1, .ref 70])) (hp' := xW B m) (q := (.iconst 2, 1, 0, 0, .null)) rfl (fun _ => rfl) (Nat.le_refl _) ?_
        refine r_s (fr' := (41, lv2, [.int (((48 * v1) + (4 * v2)) + 2), .ref 74, .int v1, .ref 70])) (hp' := xW B m) (q := (.iadd, 1, 0, 0, .null)) rfl (fun _ => rfl) (Nat.le_refl _) ?_
        obtain ⟨c4, h⟩ := xif h
        refine q_al (n := 288) (v := (m.1 74 ((((48 * v1) + (4 * v2)) + 2) : Int32).toNatClampNeg)) H (pc := 41) rfl (by decide) c4 rfl ?_
        refine q_lr (k := 1) (i := 0) (q := (.aload_n 0, 1, 0, 0, .null)) rfl (fun _ => rfl) l0_2 ?_
        refine r_gr (c := 74) H (pc := 43) rfl (by decide) (by decide) ?_
        refine q_li (k := 1) (i := 3) (q := (.iload_n 3, 1, 0, 0, .null)) rfl (fun _ => rfl) l3_2 ?_
        refine r_s (fr' := (48, lv2, [.int 3, .int ((48 * v1) + (4 * v2)), .ref 74, .int (m.1 74 ((((48 * v1) + (4 * v2)) + 2) : Int32).toNatClampNeg), .int v1, .ref 70])) (hp' := xW B m) (q := (.iconst 3, 1, 0, 0, .null)) rfl (fun _ => rfl) (Nat.le_refl _) ?_
        refine r_s (fr' := (49, lv2, [.int (((48 * v1) + (4 * v2)) + 3), .ref 74, .int (m.1 74 ((((48 * v1) + (4 * v2)) + 2) : Int32).toNatClampNeg), .int v1, .ref 70])) (hp' := xW B m) (q := (.iadd, 1, 0, 0, .null)) rfl (fun _ => rfl) (Nat.le_refl _) ?_
        obtain ⟨c5, h⟩ := xif h
        refine q_al (n := 288) (v := (m.1 74 ((((48 * v1) + (4 * v2)) + 3) : Int32).toNatClampNeg)) H (pc := 49) rfl (by decide) c5 rfl ?_
        obtain ⟨q50, h50, h⟩ := xbind h
        refine r_call (ix := 70) (as := [.int v1, .int (m.1 74 ((((48 * v1) + (4 * v2)) + 2) : Int32).toNatClampNeg), .int (m.1 74 ((((48 * v1) + (4 * v2)) + 3) : Int32).toNatClampNeg)]) (rest := []) (rv := some (.long q50.1)) (hp' := xW B q50.2) (pc := 50) rfl xr203 rfl rfl rfl (xkd H (by decide)) (Nat.le_of_ble_eq_true rfl) (Z203 H h50 (by omega)) (Nat.le_refl _) ?_
        refine r_s (fr' := (54, lv2, [.long 1, .long q50.1])) (hp' := xW B q50.2) (q := (.lconst 1, 1, 0, 0, .null)) rfl (fun _ => rfl) (Nat.le_refl _) ?_
        refine r_s (fr' := (55, lv2, [.int (lg_cmp q50.1 1)])) (hp' := xW B q50.2) (q := (.lcmp, 1, 0, 0, .null)) rfl (fun _ => rfl) (Nat.le_refl _) ?_
        refine r_if (len := 3) (a := 78) (b := 0) (v0 := .null) (cn := .ne) (off := 23) rfl (fun c => ?_) (fun c => ?_)
        · rw [if_pos c] at h
          refine q_inc (i := 2) (n := 1) (q := (.iinc 2 1, 3, 0, 0, .null)) rfl (fun _ => rfl) l2_2 (by decide) ?_
          have l0_6 : zld (zs1 lv2 2 (.int (v2 + Int32.ofInt 1))) 0 = some (.ref 70) := x_o1 l0_2 rfl rfl
          have l1_6 : zld (zs1 lv2 2 (.int (v2 + Int32.ofInt 1))) 1 = some (.int v1) := x_o1 l1_2 rfl rfl
          have l2_6 : zld (zs1 lv2 2 (.int (v2 + Int32.ofInt 1))) 2 = some (.int (v2 + Int32.ofInt 1)) := zs1_ld _ _ _
          have l3_6 : zld (zs1 lv2 2 (.int (v2 + Int32.ofInt 1))) 3 = some (.int ((48 * v1) + (4 * v2))) := x_o1 l3_2 rfl rfl
          generalize (zs1 lv2 2 (.int (v2 + Int32.ofInt 1))) = lv6 at *
          refine r_s (fr' := (2, lv6, [])) (hp' := xW B q50.2) (q := (.goto (-79), 3, 2, 0, .null)) rfl (fun _ => rfl) (Nat.le_refl _) ?_
          exact ih l0_6 l1_6 l2_6 h
        · rw [if_neg (by rw [c]; decide)] at h
          exact T244_58 H he F l0_2 l1_2 l2_2 l3_2 h
def D244 (F : Nat) (v1 : Int32) (m : xS) : Option (Int64 × xS) :=
  D244_2 F F v1 0 m
set_option maxRecDepth 20000 in
theorem T244 {B : zHp} (H : yH0 B) {e : Nat} (he : 3 ≤ e + 1) (F : Nat) {v1 : Int32} {lv : List (Nat × Value)} {m : xS} {x : Int64 × xS} (l0 : zld lv 0 = some (.ref 70)) (l1 : zld lv 1 = some (.int v1)) (h : D244 F v1 m = some x) : zR none e 4 (some .long) zc244 (0, lv, []) (xW B m) (some (.long x.1), xW B x.2) := by
  unfold D244 at h
  refine r_s (fr' := (1, lv, [.int 0])) (hp' := xW B m) (q := (.iconst 0, 1, 0, 0, .null)) rfl (fun _ => rfl) (Nat.le_refl _) ?_
  refine q_si (k := 1) (i := 2) (q := (.istore_n 2, 1, 0, 0, .null)) rfl (fun _ => rfl) (by decide) ?_
  have l0_1 : zld (zs1 lv 2 (.int 0)) 0 = some (.ref 70) := x_o1 l0 rfl rfl
  have l1_1 : zld (zs1 lv 2 (.int 0)) 1 = some (.int v1) := x_o1 l1 rfl rfl
  have l2_1 : zld (zs1 lv 2 (.int 0)) 2 = some (.int 0) := zs1_ld _ _ _
  generalize (zs1 lv 2 (.int 0)) = lv1 at *
  exact T244_2 H he F F l0_1 l1_1 l2_1 h
set_option maxRecDepth 20000 in
theorem Z244 {B : zHp} (H : yH0 B) {F : Nat} {a1 : Int32} {m : xS} {x : Int64 × xS} (h : D244 F a1 m = some x) {d : Nat} (hd : 3 ≤ d) : zCan d 244 [.ref 70, .int a1] (xW B m) (some (.long x.1), xW B x.2) := by
  obtain ⟨e, rfl⟩ : ∃ e, d = e + 1 := ⟨d - 1, by omega⟩
  refine zCan_body (nL := 4) (rt := (some .long)) (cd := zc244) (xg244) ⟨Nat.le_of_ble_eq_true rfl, by decide⟩ (Nat.le_refl _) ?_
  exact T244 H hd F rfl rfl h
/-- LentToolsModel.isTool -/
def D206_18 (F : Nat) (v1 : Int32) (m : xS) : Option (Int32 × xS) :=
  some (0, m)
set_option maxRecDepth 20000 in
theorem T206_18 {B : zHp} (H : yH0 B) {e : Nat} (he : 1 ≤ e + 1) (F : Nat) {v1 : Int32} {lv : List (Nat × Value)} {m : xS} {x : Int32 × xS} (l0 : zld lv 0 = some (.ref 70)) (l1 : zld lv 1 = some (.int v1)) (h : D206_18 F v1 m = some x) : zR none e 2 (some .boolean) zc206 (18, lv, []) (xW B m) (some (.int x.1), xW B x.2) := by
  unfold D206_18 at h
  refine r_s (fr' := (19, lv, [.int 0])) (hp' := xW B m) (q := (.iconst 0, 1, 0, 0, .null)) rfl (fun _ => rfl) (Nat.le_refl _) ?_
  obtain rfl := Option.some.inj h
  exact q_ri (q := (.ireturn, 1, 0, 0, .null)) rfl (fun _ => rfl) rfl rfl
def D206 (F : Nat) (v1 : Int32) (m : xS) : Option (Int32 × xS) :=
  if zcmp .lt v1 0 = true then
    D206_18 F v1 m
  else
    if zcmp .ge v1 (m.1 80 2) = true then
      D206_18 F v1 m
    else
      some (1, m)
set_option maxRecDepth 20000 in
theorem T206 {B : zHp} (H : yH0 B) {e : Nat} (he : 1 ≤ e + 1) (F : Nat) {v1 : Int32} {lv : List (Nat × Value)} {m : xS} {x : Int32 × xS} (l0 : zld lv 0 = some (.ref 70)) (l1 : zld lv 1 = some (.int v1)) (h : D206 F v1 m = some x) : zR none e 2 (some .boolean) zc206 (0, lv, []) (xW B m) (some (.int x.1), xW B x.2) := by
  unfold D206 at h
  refine q_li (k := 1) (i := 1) (q := (.iload_n 1, 1, 0, 0, .null)) rfl (fun _ => rfl) l1 ?_
  refine r_if (len := 3) (a := 18) (b := 0) (v0 := .null) (cn := .lt) (off := 17) rfl (fun c => ?_) (fun c => ?_)
  · rw [if_pos c] at h
    exact T206_18 H he F l0 l1 h
  · rw [if_neg (by rw [c]; decide)] at h
    refine q_li (k := 1) (i := 1) (q := (.iload_n 1, 1, 0, 0, .null)) rfl (fun _ => rfl) l1 ?_
    refine q_lr (k := 1) (i := 0) (q := (.aload_n 0, 1, 0, 0, .null)) rfl (fun _ => rfl) l0 ?_
    refine r_gr (c := 80) H (pc := 6) rfl (by decide) (by decide) ?_
    refine r_s (fr' := (10, lv, [.int 2, .ref 80, .int v1])) (hp' := xW B m) (q := (.iconst 2, 1, 0, 0, .null)) rfl (fun _ => rfl) (Nat.le_refl _) ?_
    refine q_al (n := 148) (v := (m.1 80 2)) H (pc := 10) rfl (by decide) (by decide) rfl ?_
    refine r_ifc (len := 3) (a := 18) (b := 0) (v0 := .null) (cn := .ge) (off := 7) rfl (fun c => ?_) (fun c => ?_)
    · rw [if_pos c] at h
      exact T206_18 H he F l0 l1 h
    · rw [if_neg (by rw [c]; decide)] at h
      refine r_s (fr' := (15, lv, [.int 1])) (hp' := xW B m) (q := (.iconst 1, 1, 0, 0, .null)) rfl (fun _ => rfl) (Nat.le_refl _) ?_
      refine r_s (fr' := (19, lv, [.int 1])) (hp' := xW B m) (q := (.goto 4, 3, 19, 0, .null)) rfl (fun _ => rfl) (Nat.le_refl _) ?_
      obtain rfl := Option.some.inj h
      exact q_ri (q := (.ireturn, 1, 0, 0, .null)) rfl (fun _ => rfl) rfl rfl
set_option maxRecDepth 20000 in
theorem Z206 {B : zHp} (H : yH0 B) {F : Nat} {a1 : Int32} {m : xS} {x : Int32 × xS} (h : D206 F a1 m = some x) {d : Nat} (hd : 1 ≤ d) : zCan d 206 [.ref 70, .int a1] (xW B m) (some (.int x.1), xW B x.2) := by
  obtain ⟨e, rfl⟩ : ∃ e, d = e + 1 := ⟨d - 1, by omega⟩
  refine zCan_body (nL := 2) (rt := (some .boolean)) (cd := zc206) (xg206) ⟨Nat.le_of_ble_eq_true rfl, by decide⟩ (Nat.le_refl _) ?_
  exact T206 H hd F rfl rfl h
/-- LentToolsModel.toolOf -/
def D208 (F : Nat) (v1 : Int32) (v2 : Int32) (m : xS) : Option (Int32 × xS) :=
  if xib ((10 + (6 * v1)) + v2) 148 = true then
    some ((m.1 80 (((10 + (6 * v1)) + v2) : Int32).toNatClampNeg), m)
  else none
set_option maxRecDepth 20000 in
theorem T208 {B : zHp} (H : yH0 B) {e : Nat} (he : 1 ≤ e + 1) (F : Nat) {v1 : Int32} {v2 : Int32} {lv : List (Nat × Value)} {m : xS} {x : Int32 × xS} (l0 : zld lv 0 = some (.ref 70)) (l1 : zld lv 1 = some (.int v1)) (l2 : zld lv 2 = some (.int v2)) (h : D208 F v1 v2 m = some x) : zR none e 3 (some .int) zc208 (0, lv, []) (xW B m) (some (.int x.1), xW B x.2) := by
  unfold D208 at h
  refine q_lr (k := 1) (i := 0) (q := (.aload_n 0, 1, 0, 0, .null)) rfl (fun _ => rfl) l0 ?_
  refine r_gr (c := 80) H (pc := 1) rfl (by decide) (by decide) ?_
  refine r_s (fr' := (6, lv, [.int 10, .ref 80])) (hp' := xW B m) (q := (.bipush 10, 2, 0, 0, .null)) rfl (fun _ => rfl) (Nat.le_refl _) ?_
  refine r_s (fr' := (8, lv, [.int 6, .int 10, .ref 80])) (hp' := xW B m) (q := (.bipush 6, 2, 0, 0, .null)) rfl (fun _ => rfl) (Nat.le_refl _) ?_
  refine q_li (k := 1) (i := 1) (q := (.iload_n 1, 1, 0, 0, .null)) rfl (fun _ => rfl) l1 ?_
  refine r_s (fr' := (10, lv, [.int (6 * v1), .int 10, .ref 80])) (hp' := xW B m) (q := (.imul, 1, 0, 0, .null)) rfl (fun _ => rfl) (Nat.le_refl _) ?_
  refine r_s (fr' := (11, lv, [.int (10 + (6 * v1)), .ref 80])) (hp' := xW B m) (q := (.iadd, 1, 0, 0, .null)) rfl (fun _ => rfl) (Nat.le_refl _) ?_
  refine q_li (k := 1) (i := 2) (q := (.iload_n 2, 1, 0, 0, .null)) rfl (fun _ => rfl) l2 ?_
  refine r_s (fr' := (13, lv, [.int ((10 + (6 * v1)) + v2), .ref 80])) (hp' := xW B m) (q := (.iadd, 1, 0, 0, .null)) rfl (fun _ => rfl) (Nat.le_refl _) ?_
  obtain ⟨c1, h⟩ := xif h
  refine q_al (n := 148) (v := (m.1 80 (((10 + (6 * v1)) + v2) : Int32).toNatClampNeg)) H (pc := 13) rfl (by decide) c1 rfl ?_
  obtain rfl := Option.some.inj h
  exact q_ri (q := (.ireturn, 1, 0, 0, .null)) rfl (fun _ => rfl) rfl rfl
set_option maxRecDepth 20000 in
theorem Z208 {B : zHp} (H : yH0 B) {F : Nat} {a1 : Int32} {a2 : Int32} {m : xS} {x : Int32 × xS} (h : D208 F a1 a2 m = some x) {d : Nat} (hd : 1 ≤ d) : zCan d 208 [.ref 70, .int a1, .int a2] (xW B m) (some (.int x.1), xW B x.2) := by
  obtain ⟨e, rfl⟩ : ∃ e, d = e + 1 := ⟨d - 1, by omega⟩
  refine zCan_body (nL := 3) (rt := (some .int)) (cd := zc208) (xg208) ⟨Nat.le_of_ble_eq_true rfl, by decide⟩ (Nat.le_refl _) ?_
  exact T208 H hd F rfl rfl rfl h
/-- LentToolsModel.isAtHome -/
def D212 (F : Nat) (v1 : Int32) (m : xS) : Option (Int32 × xS) :=
  (D208 F v1 0 m).bind fun q3 =>
    (D208 F v1 3 q3.2).bind fun q9 =>
      if zcmp .ne q3.1 q9.1 = true then
        some (0, q9.2)
      else
        some (1, q9.2)
set_option maxRecDepth 20000 in
theorem T212 {B : zHp} (H : yH0 B) {e : Nat} (he : 2 ≤ e + 1) (F : Nat) {v1 : Int32} {lv : List (Nat × Value)} {m : xS} {x : Int32 × xS} (l0 : zld lv 0 = some (.ref 70)) (l1 : zld lv 1 = some (.int v1)) (h : D212 F v1 m = some x) : zR none e 2 (some .boolean) zc212 (0, lv, []) (xW B m) (some (.int x.1), xW B x.2) := by
  unfold D212 at h
  refine q_lr (k := 1) (i := 0) (q := (.aload_n 0, 1, 0, 0, .null)) rfl (fun _ => rfl) l0 ?_
  refine q_li (k := 1) (i := 1) (q := (.iload_n 1, 1, 0, 0, .null)) rfl (fun _ => rfl) l1 ?_
  refine r_s (fr' := (3, lv, [.int 0, .int v1, .ref 70])) (hp' := xW B m) (q := (.iconst 0, 1, 0, 0, .null)) rfl (fun _ => rfl) (Nat.le_refl _) ?_
  obtain ⟨q3, h3, h⟩ := xbind h
  refine r_call (ix := 70) (as := [.int v1, .int 0]) (rest := []) (rv := some (.int q3.1)) (hp' := xW B q3.2) (pc := 3) rfl xr208 rfl rfl rfl (xkd H (by decide)) (Nat.le_of_ble_eq_true rfl) (Z208 H h3 (by omega)) (Nat.le_refl _) ?_
  refine q_lr (k := 1) (i := 0) (q := (.aload_n 0, 1, 0, 0, .null)) rfl (fun _ => rfl) l0 ?_
  refine q_li (k := 1) (i := 1) (q := (.iload_n 1, 1, 0, 0, .null)) rfl (fun _ => rfl) l1 ?_
  refine r_s (fr' := (9, lv, [.int 3, .int v1, .ref 70, .int q3.1])) (hp' := xW B q3.2) (q := (.iconst 3, 1, 0, 0, .null)) rfl (fun _ => rfl) (Nat.le_refl _) ?_
  obtain ⟨q9, h9, h⟩ := xbind h
  refine r_call (ix := 70) (as := [.int v1, .int 3]) (rest := [.int q3.1]) (rv := some (.int q9.1)) (hp' := xW B q9.2) (pc := 9) rfl xr208 rfl rfl rfl (xkd H (by decide)) (Nat.le_of_ble_eq_true rfl) (Z208 H h9 (by omega)) (Nat.le_refl _) ?_
  refine r_ifc (len := 3) (a := 19) (b := 0) (v0 := .null) (cn := .ne) (off := 7) rfl (fun c => ?_) (fun c => ?_)
  · rw [if_pos c] at h
    refine r_s (fr' := (20, lv, [.int 0])) (hp' := xW B q9.2) (q := (.iconst 0, 1, 0, 0, .null)) rfl (fun _ => rfl) (Nat.le_refl _) ?_
    obtain rfl := Option.some.inj h
    exact q_ri (q := (.ireturn, 1, 0, 0, .null)) rfl (fun _ => rfl) rfl rfl
  · rw [if_neg (by rw [c]; decide)] at h
    refine r_s (fr' := (16, lv, [.int 1])) (hp' := xW B q9.2) (q := (.iconst 1, 1, 0, 0, .null)) rfl (fun _ => rfl) (Nat.le_refl _) ?_
    refine r_s (fr' := (20, lv, [.int 1])) (hp' := xW B q9.2) (q := (.goto 4, 3, 20, 0, .null)) rfl (fun _ => rfl) (Nat.le_refl _) ?_
    obtain rfl := Option.some.inj h
    exact q_ri (q := (.ireturn, 1, 0, 0, .null)) rfl (fun _ => rfl) rfl rfl
set_option maxRecDepth 20000 in
theorem Z212 {B : zHp} (H : yH0 B) {F : Nat} {a1 : Int32} {m : xS} {x : Int32 × xS} (h : D212 F a1 m = some x) {d : Nat} (hd : 2 ≤ d) : zCan d 212 [.ref 70, .int a1] (xW B m) (some (.int x.1), xW B x.2) := by
  obtain ⟨e, rfl⟩ : ∃ e, d = e + 1 := ⟨d - 1, by omega⟩
  refine zCan_body (nL := 2) (rt := (some .boolean)) (cd := zc212) (xg212) ⟨Nat.le_of_ble_eq_true rfl, by decide⟩ (Nat.le_refl _) ?_
  exact T212 H hd F rfl rfl h
/-- LentToolsModel.power -/
def D235_4 (F : Nat) : Nat → Int32 → Int32 → Int32 → Int32 → xS → Option (Int32 × xS)
  | 0, _, _, _, _, _ => none
  | f + 1, v0, v1, v2, v3, m =>
    if zcmp .ge v3 v1 = true then
      some (v2, m)
    else
      D235_4 F f v0 v1 (v2 * v0) (v3 + Int32.ofInt 1) m
set_option maxRecDepth 20000 in
theorem T235_4 {B : zHp} (H : yH0 B) {e : Nat} (he : 1 ≤ e + 1) (F : Nat) : ∀ (f : Nat) {v0 : Int32} {v1 : Int32} {v2 : Int32} {v3 : Int32} {lv : List (Nat × Value)} {m : xS} {x : Int32 × xS}, zld lv 0 = some (.int v0) → zld lv 1 = some (.int v1) → zld lv 2 = some (.int v2) → zld lv 3 = some (.int v3) → D235_4 F f v0 v1 v2 v3 m = some x → zR none e 4 (some .int) zc235 (4, lv, []) (xW B m) (some (.int x.1), xW B x.2) := by
  intro f
  induction f with
  | zero => intro v0 v1 v2 v3 lv m x l0 l1 l2 l3 h; cases h
  | succ f ih =>
    intro v0 v1 v2 v3 lv m x l0 l1 l2 l3 h
    unfold D235_4 at h
    refine q_li (k := 1) (i := 3) (q := (.iload_n 3, 1, 0, 0, .null)) rfl (fun _ => rfl) l3 ?_
    refine q_li (k := 1) (i := 1) (q := (.iload_n 1, 1, 0, 0, .null)) rfl (fun _ => rfl) l1 ?_
    refine r_ifc (len := 3) (a := 19) (b := 0) (v0 := .null) (cn := .ge) (off := 13) rfl (fun c => ?_) (fun c => ?_)
    · rw [if_pos c] at h
      refine q_li (k := 1) (i := 2) (q := (.iload_n 2, 1, 0, 0, .null)) rfl (fun _ => rfl) l2 ?_
      obtain rfl := Option.some.inj h
      exact q_ri (q := (.ireturn, 1, 0, 0, .null)) rfl (fun _ => rfl) rfl rfl
    · rw [if_neg (by rw [c]; decide)] at h
      refine q_li (k := 1) (i := 2) (q := (.iload_n 2, 1, 0, 0, .null)) rfl (fun _ => rfl) l2 ?_
      refine q_li (k := 1) (i := 0) (q := (.iload_n 0, 1, 0, 0, .null)) rfl (fun _ => rfl) l0 ?_
      refine r_s (fr' := (12, lv, [.int (v2 * v0)])) (hp' := xW B m) (q := (.imul, 1, 0, 0, .null)) rfl (fun _ => rfl) (Nat.le_refl _) ?_
      refine q_si (k := 1) (i := 2) (q := (.istore_n 2, 1, 0, 0, .null)) rfl (fun _ => rfl) (by decide) ?_
      have l0_1 : zld (zs1 lv 2 (.int (v2 * v0))) 0 = some (.int v0) := x_o1 l0 rfl rfl
      have l1_1 : zld (zs1 lv 2 (.int (v2 * v0))) 1 = some (.int v1) := x_o1 l1 rfl rfl
      have l2_1 : zld (zs1 lv 2 (.int (v2 * v0))) 2 = some (.int (v2 * v0)) := zs1_ld _ _ _
      have l3_1 : zld (zs1 lv 2 (.int (v2 * v0))) 3 = some (.int v3) := x_o1 l3 rfl rfl
      generalize (zs1 lv 2 (.int (v2 * v0))) = lv1 at *
      refine q_inc (i := 3) (n := 1) (q := (.iinc 3 1, 3, 0, 0, .null)) rfl (fun _ => rfl) l3_1 (by decide) ?_
      have l0_2 : zld (zs1 lv1 3 (.int (v3 + Int32.ofInt 1))) 0 = some (.int v0) := x_o1 l0_1 rfl rfl
      have l1_2 : zld (zs1 lv1 3 (.int (v3 + Int32.ofInt 1))) 1 = some (.int v1) := x_o1 l1_1 rfl rfl
      have l2_2 : zld (zs1 lv1 3 (.int (v3 + Int32.ofInt 1))) 2 = some (.int (v2 * v0)) := x_o1 l2_1 rfl rfl
      have l3_2 : zld (zs1 lv1 3 (.int (v3 + Int32.ofInt 1))) 3 = some (.int (v3 + Int32.ofInt 1)) := zs1_ld _ _ _
      generalize (zs1 lv1 3 (.int (v3 + Int32.ofInt 1))) = lv2 at *
      refine r_s (fr' := (4, lv2, [])) (hp' := xW B m) (q := (.goto (-12), 3, 4, 0, .null)) rfl (fun _ => rfl) (Nat.le_refl _) ?_
      exact ih l0_2 l1_2 l2_2 l3_2 h
def D235 (F : Nat) (v0 : Int32) (v1 : Int32) (m : xS) : Option (Int32 × xS) :=
  D235_4 F F v0 v1 1 0 m
set_option maxRecDepth 20000 in
theorem T235 {B : zHp} (H : yH0 B) {e : Nat} (he : 1 ≤ e + 1) (F : Nat) {v0 : Int32} {v1 : Int32} {lv : List (Nat × Value)} {m : xS} {x : Int32 × xS} (l0 : zld lv 0 = some (.int v0)) (l1 : zld lv 1 = some (.int v1)) (h : D235 F v0 v1 m = some x) : zR none e 4 (some .int) zc235 (0, lv, []) (xW B m) (some (.int x.1), xW B x.2) := by
  unfold D235 at h
  refine r_s (fr' := (1, lv, [.int 1])) (hp' := xW B m) (q := (.iconst 1, 1, 0, 0, .null)) rfl (fun _ => rfl) (Nat.le_refl _) ?_
  refine q_si (k := 1) (i := 2) (q := (.istore_n 2, 1, 0, 0, .null)) rfl (fun _ => rfl) (by decide) ?_
  have l0_1 : zld (zs1 lv 2 (.int 1)) 0 = some (.int v0) := x_o1 l0 rfl rfl
  have l1_1 : zld (zs1 lv 2 (.int 1)) 1 = some (.int v1) := x_o1 l1 rfl rfl
  have l2_1 : zld (zs1 lv 2 (.int 1)) 2 = some (.int 1) := zs1_ld _ _ _
  generalize (zs1 lv 2 (.int 1)) = lv1 at *
  refine r_s (fr' := (3, lv1, [.int 0])) (hp' := xW B m) (q := (.iconst 0, 1, 0, 0, .null)) rfl (fun _ => rfl) (Nat.le_refl _) ?_
  refine q_si (k := 1) (i := 3) (q := (.istore_n 3, 1, 0, 0, .null)) rfl (fun _ => rfl) (by decide) ?_
  have l0_2 : zld (zs1 lv1 3 (.int 0)) 0 = some (.int v0) := x_o1 l0_1 rfl rfl
  have l1_2 : zld (zs1 lv1 3 (.int 0)) 1 = some (.int v1) := x_o1 l1_1 rfl rfl
  have l2_2 : zld (zs1 lv1 3 (.int 0)) 2 = some (.int 1) := x_o1 l2_1 rfl rfl
  have l3_2 : zld (zs1 lv1 3 (.int 0)) 3 = some (.int 0) := zs1_ld _ _ _
  generalize (zs1 lv1 3 (.int 0)) = lv2 at *
  exact T235_4 H he F F l0_2 l1_2 l2_2 l3_2 h
set_option maxRecDepth 20000 in
theorem Z235 {B : zHp} (H : yH0 B) {F : Nat} {a0 : Int32} {a1 : Int32} {m : xS} {x : Int32 × xS} (h : D235 F a0 a1 m = some x) {d : Nat} (hd : 1 ≤ d) : zCan d 235 [.int a0, .int a1] (xW B m) (some (.int x.1), xW B x.2) := by
  obtain ⟨e, rfl⟩ : ∃ e, d = e + 1 := ⟨d - 1, by omega⟩
  refine zCan_body (nL := 4) (rt := (some .int)) (cd := zc235) (xg235) ⟨Nat.le_of_ble_eq_true rfl, by decide⟩ (Nat.le_refl _) ?_
  exact T235 H hd F rfl rfl h
/-- LentToolsModel.houseIn -/
def D236 (F : Nat) (v1 : Int32) (v2 : Int32) (v3 : Int32) (m : xS) : Option (Int32 × xS) :=
  (D235 F (m.1 80 0) ((v2 - 1) - v3) m).bind fun q12 =>
    if (!(q12.1 == 0)) = true then
      if (!((q12.2.1 80 0) == 0)) = true then
        some (((v1 / q12.1) - (v1 / q12.1) / (q12.2.1 80 0) * (q12.2.1 80 0)), q12.2)
      else none
    else none
set_option maxRecDepth 20000 in
theorem T236 {B : zHp} (H : yH0 B) {e : Nat} (he : 2 ≤ e + 1) (F : Nat) {v1 : Int32} {v2 : Int32} {v3 : Int32} {lv : List (Nat × Value)} {m : xS} {x : Int32 × xS} (l0 : zld lv 0 = some (.ref 70)) (l1 : zld lv 1 = some (.int v1)) (l2 : zld lv 2 = some (.int v2)) (l3 : zld lv 3 = some (.int v3)) (h : D236 F v1 v2 v3 m = some x) : zR none e 4 (some .int) zc236 (0, lv, []) (xW B m) (some (.int x.1), xW B x.2) := by
  unfold D236 at h
  refine q_li (k := 1) (i := 1) (q := (.iload_n 1, 1, 0, 0, .null)) rfl (fun _ => rfl) l1 ?_
  refine q_lr (k := 1) (i := 0) (q := (.aload_n 0, 1, 0, 0, .null)) rfl (fun _ => rfl) l0 ?_
  refine r_gr (c := 80) H (pc := 2) rfl (by decide) (by decide) ?_
  refine r_s (fr' := (6, lv, [.int 0, .ref 80, .int v1])) (hp' := xW B m) (q := (.iconst 0, 1, 0, 0, .null)) rfl (fun _ => rfl) (Nat.le_refl _) ?_
  refine q_al (n := 148) (v := (m.1 80 0)) H (pc := 6) rfl (by decide) (by decide) rfl ?_
  refine q_li (k := 1) (i := 2) (q := (.iload_n 2, 1, 0, 0, .null)) rfl (fun _ => rfl) l2 ?_
  refine r_s (fr' := (9, lv, [.int 1, .int v2, .int (m.1 80 0), .int v1])) (hp' := xW B m) (q := (.iconst 1, 1, 0, 0, .null)) rfl (fun _ => rfl) (Nat.le_refl _) ?_
  refine r_s (fr' := (10, lv, [.int (v2 - 1), .int (m.1 80 0), .int v1])) (hp' := xW B m) (q := (.isub, 1, 0, 0, .null)) rfl (fun _ => rfl) (Nat.le_refl _) ?_
  refine q_li (k := 1) (i := 3) (q := (.iload_n 3, 1, 0, 0, .null)) rfl (fun _ => rfl) l3 ?_
  refine r_s (fr' := (12, lv, [.int ((v2 - 1) - v3), .int (m.1 80 0), .int v1])) (hp' := xW B m) (q := (.isub, 1, 0, 0, .null)) rfl (fun _ => rfl) (Nat.le_refl _) ?_
  obtain ⟨q12, h12, h⟩ := xbind h
  refine r_callS (as := [.int (m.1 80 0), .int ((v2 - 1) - v3)]) (rest := [.int v1]) (rv := some (.int q12.1)) (hp' := xW B q12.2) (pc := 12) rfl xr235 rfl rfl rfl (Nat.le_of_ble_eq_true rfl) (Z235 H h12 (by omega)) (Nat.le_refl _) ?_
  obtain ⟨c1, h⟩ := xif h
  refine q_div (f := fun x y => x / y) (q := (.idiv, 1, 0, 0, .null)) rfl (fun _ => rfl) c1 ?_
  refine q_lr (k := 1) (i := 0) (q := (.aload_n 0, 1, 0, 0, .null)) rfl (fun _ => rfl) l0 ?_
  refine r_gr (c := 80) H (pc := 17) rfl (by decide) (by decide) ?_
  refine r_s (fr' := (21, lv, [.int 0, .ref 80, .int (v1 / q12.1)])) (hp' := xW B q12.2) (q := (.iconst 0, 1, 0, 0, .null)) rfl (fun _ => rfl) (Nat.le_refl _) ?_
  refine q_al (n := 148) (v := (q12.2.1 80 0)) H (pc := 21) rfl (by decide) (by decide) rfl ?_
  obtain ⟨c2, h⟩ := xif h
  refine q_div (f := fun x y => x - x / y * y) (q := (.irem, 1, 0, 0, .null)) rfl (fun _ => rfl) c2 ?_
  obtain rfl := Option.some.inj h
  exact q_ri (q := (.ireturn, 1, 0, 0, .null)) rfl (fun _ => rfl) rfl rfl
set_option maxRecDepth 20000 in
theorem Z236 {B : zHp} (H : yH0 B) {F : Nat} {a1 : Int32} {a2 : Int32} {a3 : Int32} {m : xS} {x : Int32 × xS} (h : D236 F a1 a2 a3 m = some x) {d : Nat} (hd : 2 ≤ d) : zCan d 236 [.ref 70, .int a1, .int a2, .int a3] (xW B m) (some (.int x.1), xW B x.2) := by
  obtain ⟨e, rfl⟩ : ∃ e, d = e + 1 := ⟨d - 1, by omega⟩
  refine zCan_body (nL := 4) (rt := (some .int)) (cd := zc236) (xg236) ⟨Nat.le_of_ble_eq_true rfl, by decide⟩ (Nat.le_refl _) ?_
  exact T236 H hd F rfl rfl rfl rfl h
/-- LentToolsModel.isOf -/
def D159 (F : Nat) (v0 : Int32) (v1 : Int32) (m : xS) : Option (Int32 × xS) :=
  if zcmp .ne ((v0 >>> (v1 &&& 31)) &&& 1) 1 = true then
    some (0, m)
  else
    some (1, m)
set_option maxRecDepth 20000 in
theorem T159 {B : zHp} (H : yH0 B) {e : Nat} (he : 1 ≤ e + 1) (F : Nat) {v0 : Int32} {v1 : Int32} {lv : List (Nat × Value)} {m : xS} {x : Int32 × xS} (l0 : zld lv 0 = some (.int v0)) (l1 : zld lv 1 = some (.int v1)) (h : D159 F v0 v1 m = some x) : zR none e 2 (some .boolean) zc159 (0, lv, []) (xW B m) (some (.int x.1), xW B x.2) := by
  unfold D159 at h
  refine q_li (k := 1) (i := 0) (q := (.iload_n 0, 1, 0, 0, .null)) rfl (fun _ => rfl) l0 ?_
  refine q_li (k := 1) (i := 1) (q := (.iload_n 1, 1, 0, 0, .null)) rfl (fun _ => rfl) l1 ?_
  refine r_s (fr' := (3, lv, [.int (v0 >>> (v1 &&& 31))])) (hp' := xW B m) (q := (.ishr, 1, 0, 0, .null)) rfl (fun _ => rfl) (Nat.le_refl _) ?_
  refine r_s (fr' := (4, lv, [.int 1, .int (v0 >>> (v1 &&& 31))])) (hp' := xW B m) (q := (.iconst 1, 1, 0, 0, .null)) rfl (fun _ => rfl) (Nat.le_refl _) ?_
  refine r_s (fr' := (5, lv, [.int ((v0 >>> (v1 &&& 31)) &&& 1)])) (hp' := xW B m) (q := (.iand, 1, 0, 0, .null)) rfl (fun _ => rfl) (Nat.le_refl _) ?_
  refine r_s (fr' := (6, lv, [.int 1, .int ((v0 >>> (v1 &&& 31)) &&& 1)])) (hp' := xW B m) (q := (.iconst 1, 1, 0, 0, .null)) rfl (fun _ => rfl) (Nat.le_refl _) ?_
  refine r_ifc (len := 3) (a := 13) (b := 0) (v0 := .null) (cn := .ne) (off := 7) rfl (fun c => ?_) (fun c => ?_)
  · rw [if_pos c] at h
    refine r_s (fr' := (14, lv, [.int 0])) (hp' := xW B m) (q := (.iconst 0, 1, 0, 0, .null)) rfl (fun _ => rfl) (Nat.le_refl _) ?_
    obtain rfl := Option.some.inj h
    exact q_ri (q := (.ireturn, 1, 0, 0, .null)) rfl (fun _ => rfl) rfl rfl
  · rw [if_neg (by rw [c]; decide)] at h
    refine r_s (fr' := (10, lv, [.int 1])) (hp' := xW B m) (q := (.iconst 1, 1, 0, 0, .null)) rfl (fun _ => rfl) (Nat.le_refl _) ?_
    refine r_s (fr' := (14, lv, [.int 1])) (hp' := xW B m) (q := (.goto 4, 3, 14, 0, .null)) rfl (fun _ => rfl) (Nat.le_refl _) ?_
    obtain rfl := Option.some.inj h
    exact q_ri (q := (.ireturn, 1, 0, 0, .null)) rfl (fun _ => rfl) rfl rfl
set_option maxRecDepth 20000 in
theorem Z159 {B : zHp} (H : yH0 B) {F : Nat} {a0 : Int32} {a1 : Int32} {m : xS} {x : Int32 × xS} (h : D159 F a0 a1 m = some x) {d : Nat} (hd : 1 ≤ d) : zCan d 159 [.int a0, .int a1] (xW B m) (some (.int x.1), xW B x.2) := by
  obtain ⟨e, rfl⟩ : ∃ e, d = e + 1 := ⟨d - 1, by omega⟩
  refine zCan_body (nL := 2) (rt := (some .boolean)) (cd := zc159) (xg159) ⟨Nat.le_of_ble_eq_true rfl, by decide⟩ (Nat.le_refl _) ?_
  exact T159 H hd F rfl rfl h
/-- LentToolsModel.areUnlike -/
def D237_5 (F : Nat) : Nat → Int32 → Int32 → Int32 → Int32 → xS → Option (Int32 × xS)
  | 0, _, _, _, _, _ => none
  | f + 1, v1, v2, v3, v4, m =>
    if zcmp .ge v4 v2 = true then
      some (1, m)
    else
      (D236 F v1 v2 v4 m).bind fun q16 =>
        (D159 F v3 q16.1 q16.2).bind fun q24 =>
          if zcmp .eq q24.1 0 = true then
            D237_5 F f v1 v2 (v3 ||| (1 <<< (q16.1 &&& 31))) (v4 + Int32.ofInt 1) q24.2
          else
            some (0, q24.2)
set_option maxRecDepth 20000 in
theorem T237_5 {B : zHp} (H : yH0 B) {e : Nat} (he : 3 ≤ e + 1) (F : Nat) : ∀ (f : Nat) {v1 : Int32} {v2 : Int32} {v3 : Int32} {v4 : Int32} {lv : List (Nat × Value)} {m : xS} {x : Int32 × xS}, zld lv 0 = some (.ref 70) → zld lv 1 = some (.int v1) → zld lv 2 = some (.int v2) → zld lv 3 = some (.int v3) → zld lv 4 = some (.int v4) → D237_5 F f v1 v2 v3 v4 m = some x → zR none e 6 (some .boolean) zc237 (5, lv, []) (xW B m) (some (.int x.1), xW B x.2) := by
  intro f
  induction f with
  | zero => intro v1 v2 v3 v4 lv m x l0 l1 l2 l3 l4 h; cases h
  | succ f ih =>
    intro v1 v2 v3 v4 lv m x l0 l1 l2 l3 l4 h
    unfold D237_5 at h
    refine q_li (k := 2) (i := 4) (q := (.iload 4, 2, 0, 0, .null)) rfl (fun _ => rfl) l4 ?_
    refine q_li (k := 1) (i := 2) (q := (.iload_n 2, 1, 0, 0, .null)) rfl (fun _ => rfl) l2 ?_
    refine r_ifc (len := 3) (a := 45) (b := 0) (v0 := .null) (cn := .ge) (off := 37) rfl (fun c => ?_) (fun c => ?_)
    · rw [if_pos c] at h
      refine r_s (fr' := (46, lv, [.int 1])) (hp' := xW B m) (q := (.iconst 1, 1, 0, 0, .null)) rfl (fun _ => rfl) (Nat.le_refl _) ?_
      obtain rfl := Option.some.inj h
      exact q_ri (q := (.ireturn, 1, 0, 0, .null)) rfl (fun _ => rfl) rfl rfl
    · rw [if_neg (by rw [c]; decide)] at h
      refine q_lr (k := 1) (i := 0) (q := (.aload_n 0, 1, 0, 0, .null)) rfl (fun _ => rfl) l0 ?_
      refine q_li (k := 1) (i := 1) (q := (.iload_n 1, 1, 0, 0, .null)) rfl (fun _ => rfl) l1 ?_
      refine q_li (k := 1) (i := 2) (q := (.iload_n 2, 1, 0, 0, .null)) rfl (fun _ => rfl) l2 ?_
      refine q_li (k := 2) (i := 4) (q := (.iload 4, 2, 0, 0, .null)) rfl (fun _ => rfl) l4 ?_
      obtain ⟨q16, h16, h⟩ := xbind h
      refine r_call (ix := 70) (as := [.int v1, .int v2, .int v4]) (rest := []) (rv := some (.int q16.1)) (hp' := xW B q16.2) (pc := 16) rfl xr236 rfl rfl rfl (xkd H (by decide)) (Nat.le_of_ble_eq_true rfl) (Z236 H h16 (by omega)) (Nat.le_refl _) ?_
      refine q_si (k := 2) (i := 5) (q := (.istore 5, 2, 0, 0, .null)) rfl (fun _ => rfl) (by decide) ?_
      have l0_1 : zld (zs1 lv 5 (.int q16.1)) 0 = some (.ref 70) := x_o1 l0 rfl rfl
      have l1_1 : zld (zs1 lv 5 (.int q16.1)) 1 = some (.int v1) := x_o1 l1 rfl rfl
      have l2_1 : zld (zs1 lv 5 (.int q16.1)) 2 = some (.int v2) := x_o1 l2 rfl rfl
      have l3_1 : zld (zs1 lv 5 (.int q16.1)) 3 = some (.int v3) := x_o1 l3 rfl rfl
      have l4_1 : zld (zs1 lv 5 (.int q16.1)) 4 = some (.int v4) := x_o1 l4 rfl rfl
      have l5_1 : zld (zs1 lv 5 (.int q16.1)) 5 = some (.int q16.1) := zs1_ld _ _ _
      generalize (zs1 lv 5 (.int q16.1)) = lv1 at *
      refine q_li (k := 1) (i := 3) (q := (.iload_n 3, 1, 0, 0, .null)) rfl (fun _ => rfl) l3_1 ?_
      refine q_li (k := 2) (i := 5) (q := (.iload 5, 2, 0, 0, .null)) rfl (fun _ => rfl) l5_1 ?_
      obtain ⟨q24, h24, h⟩ := xbind h
      refine r_callS (as := [.int v3, .int q16.1]) (rest := []) (rv := some (.int q24.1)) (hp' := xW B q24.2) (pc := 24) rfl xr159 rfl rfl rfl (Nat.le_of_ble_eq_true rfl) (Z159 H h24 (by omega)) (Nat.le_refl _) ?_
      refine r_if (len := 3) (a := 32) (b := 0) (v0 := .null) (cn := .eq) (off := 5) rfl (fun c => ?_) (fun c => ?_)
      · rw [if_pos c] at h
        refine q_li (k := 1) (i := 3) (q := (.iload_n 3, 1, 0, 0, .null)) rfl (fun _ => rfl) l3_1 ?_
        refine r_s (fr' := (34, lv1, [.int 1, .int v3])) (hp' := xW B q24.2) (q := (.iconst 1, 1, 0, 0, .null)) rfl (fun _ => rfl) (Nat.le_refl _) ?_
        refine q_li (k := 2) (i := 5) (q := (.iload 5, 2, 0, 0, .null)) rfl (fun _ => rfl) l5_1 ?_
        refine r_s (fr' := (37, lv1, [.int (1 <<< (q16.1 &&& 31)), .int v3])) (hp' := xW B q24.2) (q := (.ishl, 1, 0, 0, .null)) rfl (fun _ => rfl) (Nat.le_refl _) ?_
        refine r_s (fr' := (38, lv1, [.int (v3 ||| (1 <<< (q16.1 &&& 31)))])) (hp' := xW B q24.2) (q := (.ior, 1, 0, 0, .null)) rfl (fun _ => rfl) (Nat.le_refl _) ?_
        refine q_si (k := 1) (i := 3) (q := (.istore_n 3, 1, 0, 0, .null)) rfl (fun _ => rfl) (by decide) ?_
        have l0_2 : zld (zs1 lv1 3 (.int (v3 ||| (1 <<< (q16.1 &&& 31))))) 0 = some (.ref 70) := x_o1 l0_1 rfl rfl
        have l1_2 : zld (zs1 lv1 3 (.int (v3 ||| (1 <<< (q16.1 &&& 31))))) 1 = some (.int v1) := x_o1 l1_1 rfl rfl
        have l2_2 : zld (zs1 lv1 3 (.int (v3 ||| (1 <<< (q16.1 &&& 31))))) 2 = some (.int v2) := x_o1 l2_1 rfl rfl
        have l3_2 : zld (zs1 lv1 3 (.int (v3 ||| (1 <<< (q16.1 &&& 31))))) 3 = some (.int (v3 ||| (1 <<< (q16.1 &&& 31)))) := zs1_ld _ _ _
        have l4_2 : zld (zs1 lv1 3 (.int (v3 ||| (1 <<< (q16.1 &&& 31))))) 4 = some (.int v4) := x_o1 l4_1 rfl rfl
        have l5_2 : zld (zs1 lv1 3 (.int (v3 ||| (1 <<< (q16.1 &&& 31))))) 5 = some (.int q16.1) := x_o1 l5_1 rfl rfl
        generalize (zs1 lv1 3 (.int (v3 ||| (1 <<< (q16.1 &&& 31))))) = lv2 at *
        refine q_inc (i := 4) (n := 1) (q := (.iinc 4 1, 3, 0, 0, .null)) rfl (fun _ => rfl) l4_2 (by decide) ?_
        have l0_3 : zld (zs1 lv2 4 (.int (v4 + Int32.ofInt 1))) 0 = some (.ref 70) := x_o1 l0_2 rfl rfl
        have l1_3 : zld (zs1 lv2 4 (.int (v4 + Int32.ofInt 1))) 1 = some (.int v1) := x_o1 l1_2 rfl rfl
        have l2_3 : zld (zs1 lv2 4 (.int (v4 + Int32.ofInt 1))) 2 = some (.int v2) := x_o1 l2_2 rfl rfl
        have l3_3 : zld (zs1 lv2 4 (.int (v4 + Int32.ofInt 1))) 3 = some (.int (v3 ||| (1 <<< (q16.1 &&& 31)))) := x_o1 l3_2 rfl rfl
        have l4_3 : zld (zs1 lv2 4 (.int (v4 + Int32.ofInt 1))) 4 = some (.int (v4 + Int32.ofInt 1)) := zs1_ld _ _ _
        have l5_3 : zld (zs1 lv2 4 (.int (v4 + Int32.ofInt 1))) 5 = some (.int q16.1) := x_o1 l5_2 rfl rfl
        generalize (zs1 lv2 4 (.int (v4 + Int32.ofInt 1))) = lv3 at *
        refine r_s (fr' := (5, lv3, [])) (hp' := xW B q24.2) (q := (.goto (-37), 3, 5, 0, .null)) rfl (fun _ => rfl) (Nat.le_refl _) ?_
        exact ih l0_3 l1_3 l2_3 l3_3 l4_3 h
      · rw [if_neg (by rw [c]; decide)] at h
        refine r_s (fr' := (31, lv1, [.int 0])) (hp' := xW B q24.2) (q := (.iconst 0, 1, 0, 0, .null)) rfl (fun _ => rfl) (Nat.le_refl _) ?_
        obtain rfl := Option.some.inj h
        exact q_ri (q := (.ireturn, 1, 0, 0, .null)) rfl (fun _ => rfl) rfl rfl
def D237 (F : Nat) (v1 : Int32) (v2 : Int32) (m : xS) : Option (Int32 × xS) :=
  D237_5 F F v1 v2 0 0 m
set_option maxRecDepth 20000 in
theorem T237 {B : zHp} (H : yH0 B) {e : Nat} (he : 3 ≤ e + 1) (F : Nat) {v1 : Int32} {v2 : Int32} {lv : List (Nat × Value)} {m : xS} {x : Int32 × xS} (l0 : zld lv 0 = some (.ref 70)) (l1 : zld lv 1 = some (.int v1)) (l2 : zld lv 2 = some (.int v2)) (h : D237 F v1 v2 m = some x) : zR none e 6 (some .boolean) zc237 (0, lv, []) (xW B m) (some (.int x.1), xW B x.2) := by
  unfold D237 at h
  refine r_s (fr' := (1, lv, [.int 0])) (hp' := xW B m) (q := (.iconst 0, 1, 0, 0, .null)) rfl (fun _ => rfl) (Nat.le_refl _) ?_
  refine q_si (k := 1) (i := 3) (q := (.istore_n 3, 1, 0, 0, .null)) rfl (fun _ => rfl) (by decide) ?_
  have l0_1 : zld (zs1 lv 3 (.int 0)) 0 = some (.ref 70) := x_o1 l0 rfl rfl
  have l1_1 : zld (zs1 lv 3 (.int 0)) 1 = some (.int v1) := x_o1 l1 rfl rfl
  have l2_1 : zld (zs1 lv 3 (.int 0)) 2 = some (.int v2) := x_o1 l2 rfl rfl
  have l3_1 : zld (zs1 lv 3 (.int 0)) 3 = some (.int 0) := zs1_ld _ _ _
  generalize (zs1 lv 3 (.int 0)) = lv1 at *
  refine r_s (fr' := (3, lv1, [.int 0])) (hp' := xW B m) (q := (.iconst 0, 1, 0, 0, .null)) rfl (fun _ => rfl) (Nat.le_refl _) ?_
  refine q_si (k := 2) (i := 4) (q := (.istore 4, 2, 0, 0, .null)) rfl (fun _ => rfl) (by decide) ?_
  have l0_2 : zld (zs1 lv1 4 (.int 0)) 0 = some (.ref 70) := x_o1 l0_1 rfl rfl
  have l1_2 : zld (zs1 lv1 4 (.int 0)) 1 = some (.int v1) := x_o1 l1_1 rfl rfl
  have l2_2 : zld (zs1 lv1 4 (.int 0)) 2 = some (.int v2) := x_o1 l2_1 rfl rfl
  have l3_2 : zld (zs1 lv1 4 (.int 0)) 3 = some (.int 0) := x_o1 l3_1 rfl rfl
  have l4_2 : zld (zs1 lv1 4 (.int 0)) 4 = some (.int 0) := zs1_ld _ _ _
  generalize (zs1 lv1 4 (.int 0)) = lv2 at *
  exact T237_5 H he F F l0_2 l1_2 l2_2 l3_2 l4_2 h
set_option maxRecDepth 20000 in
theorem Z237 {B : zHp} (H : yH0 B) {F : Nat} {a1 : Int32} {a2 : Int32} {m : xS} {x : Int32 × xS} (h : D237 F a1 a2 m = some x) {d : Nat} (hd : 3 ≤ d) : zCan d 237 [.ref 70, .int a1, .int a2] (xW B m) (some (.int x.1), xW B x.2) := by
  obtain ⟨e, rfl⟩ : ∃ e, d = e + 1 := ⟨d - 1, by omega⟩
  refine zCan_body (nL := 6) (rt := (some .boolean)) (cd := zc237) (xg237) ⟨Nat.le_of_ble_eq_true rfl, by decide⟩ (Nat.le_refl _) ?_
  exact T237 H hd F rfl rfl rfl h
/-- LentToolsModel.hasHouse -/
def D238_3 (F : Nat) : Nat → Int32 → Int32 → Int32 → Int32 → xS → Option (Int32 × xS)
  | 0, _, _, _, _, _ => none
  | f + 1, v1, v2, v3, v4, m =>
    if zcmp .ge v4 v2 = true then
      some (0, m)
    else
      (D236 F v1 v2 v4 m).bind fun q14 =>
        if zcmp .ne q14.1 v3 = true then
          D238_3 F f v1 v2 v3 (v4 + Int32.ofInt 1) q14.2
        else
          some (1, q14.2)
set_option maxRecDepth 20000 in
theorem T238_3 {B : zHp} (H : yH0 B) {e : Nat} (he : 3 ≤ e + 1) (F : Nat) : ∀ (f : Nat) {v1 : Int32} {v2 : Int32} {v3 : Int32} {v4 : Int32} {lv : List (Nat × Value)} {m : xS} {x : Int32 × xS}, zld lv 0 = some (.ref 70) → zld lv 1 = some (.int v1) → zld lv 2 = some (.int v2) → zld lv 3 = some (.int v3) → zld lv 4 = some (.int v4) → D238_3 F f v1 v2 v3 v4 m = some x → zR none e 5 (some .boolean) zc238 (3, lv, []) (xW B m) (some (.int x.1), xW B x.2) := by
  intro f
  induction f with
  | zero => intro v1 v2 v3 v4 lv m x l0 l1 l2 l3 l4 h; cases h
  | succ f ih =>
    intro v1 v2 v3 v4 lv m x l0 l1 l2 l3 l4 h
    unfold D238_3 at h
    refine q_li (k := 2) (i := 4) (q := (.iload 4, 2, 0, 0, .null)) rfl (fun _ => rfl) l4 ?_
    refine q_li (k := 1) (i := 2) (q := (.iload_n 2, 1, 0, 0, .null)) rfl (fun _ => rfl) l2 ?_
    refine r_ifc (len := 3) (a := 29) (b := 0) (v0 := .null) (cn := .ge) (off := 23) rfl (fun c => ?_) (fun c => ?_)
    · rw [if_pos c] at h
      refine r_s (fr' := (30, lv, [.int 0])) (hp' := xW B m) (q := (.iconst 0, 1, 0, 0, .null)) rfl (fun _ => rfl) (Nat.le_refl _) ?_
      obtain rfl := Option.some.inj h
      exact q_ri (q := (.ireturn, 1, 0, 0, .null)) rfl (fun _ => rfl) rfl rfl
    · rw [if_neg (by rw [c]; decide)] at h
      refine q_lr (k := 1) (i := 0) (q := (.aload_n 0, 1, 0, 0, .null)) rfl (fun _ => rfl) l0 ?_
      refine q_li (k := 1) (i := 1) (q := (.iload_n 1, 1, 0, 0, .null)) rfl (fun _ => rfl) l1 ?_
      refine q_li (k := 1) (i := 2) (q := (.iload_n 2, 1, 0, 0, .null)) rfl (fun _ => rfl) l2 ?_
      refine q_li (k := 2) (i := 4) (q := (.iload 4, 2, 0, 0, .null)) rfl (fun _ => rfl) l4 ?_
      obtain ⟨q14, h14, h⟩ := xbind h
      refine r_call (ix := 70) (as := [.int v1, .int v2, .int v4]) (rest := []) (rv := some (.int q14.1)) (hp' := xW B q14.2) (pc := 14) rfl xr236 rfl rfl rfl (xkd H (by decide)) (Nat.le_of_ble_eq_true rfl) (Z236 H h14 (by omega)) (Nat.le_refl _) ?_
      refine q_li (k := 1) (i := 3) (q := (.iload_n 3, 1, 0, 0, .null)) rfl (fun _ => rfl) l3 ?_
      refine r_ifc (len := 3) (a := 23) (b := 0) (v0 := .null) (cn := .ne) (off := 5) rfl (fun c => ?_) (fun c => ?_)
      · rw [if_pos c] at h
        refine q_inc (i := 4) (n := 1) (q := (.iinc 4 1, 3, 0, 0, .null)) rfl (fun _ => rfl) l4 (by decide) ?_
        have l0_1 : zld (zs1 lv 4 (.int (v4 + Int32.ofInt 1))) 0 = some (.ref 70) := x_o1 l0 rfl rfl
        have l1_1 : zld (zs1 lv 4 (.int (v4 + Int32.ofInt 1))) 1 = some (.int v1) := x_o1 l1 rfl rfl
        have l2_1 : zld (zs1 lv 4 (.int (v4 + Int32.ofInt 1))) 2 = some (.int v2) := x_o1 l2 rfl rfl
        have l3_1 : zld (zs1 lv 4 (.int (v4 + Int32.ofInt 1))) 3 = some (.int v3) := x_o1 l3 rfl rfl
        have l4_1 : zld (zs1 lv 4 (.int (v4 + Int32.ofInt 1))) 4 = some (.int (v4 + Int32.ofInt 1)) := zs1_ld _ _ _
        generalize (zs1 lv 4 (.int (v4 + Int32.ofInt 1))) = lv1 at *
        refine r_s (fr' := (3, lv1, [])) (hp' := xW B q14.2) (q := (.goto (-23), 3, 3, 0, .null)) rfl (fun _ => rfl) (Nat.le_refl _) ?_
        exact ih l0_1 l1_1 l2_1 l3_1 l4_1 h
      · rw [if_neg (by rw [c]; decide)] at h
        refine r_s (fr' := (22, lv, [.int 1])) (hp' := xW B q14.2) (q := (.iconst 1, 1, 0, 0, .null)) rfl (fun _ => rfl) (Nat.le_refl _) ?_
        obtain rfl := Option.some.inj h
        exact q_ri (q := (.ireturn, 1, 0, 0, .null)) rfl (fun _ => rfl) rfl rfl
def D238 (F : Nat) (v1 : Int32) (v2 : Int32) (v3 : Int32) (m : xS) : Option (Int32 × xS) :=
  D238_3 F F v1 v2 v3 0 m
set_option maxRecDepth 20000 in
theorem T238 {B : zHp} (H : yH0 B) {e : Nat} (he : 3 ≤ e + 1) (F : Nat) {v1 : Int32} {v2 : Int32} {v3 : Int32} {lv : List (Nat × Value)} {m : xS} {x : Int32 × xS} (l0 : zld lv 0 = some (.ref 70)) (l1 : zld lv 1 = some (.int v1)) (l2 : zld lv 2 = some (.int v2)) (l3 : zld lv 3 = some (.int v3)) (h : D238 F v1 v2 v3 m = some x) : zR none e 5 (some .boolean) zc238 (0, lv, []) (xW B m) (some (.int x.1), xW B x.2) := by
  unfold D238 at h
  refine r_s (fr' := (1, lv, [.int 0])) (hp' := xW B m) (q := (.iconst 0, 1, 0, 0, .null)) rfl (fun _ => rfl) (Nat.le_refl _) ?_
  refine q_si (k := 2) (i := 4) (q := (.istore 4, 2, 0, 0, .null)) rfl (fun _ => rfl) (by decide) ?_
  have l0_1 : zld (zs1 lv 4 (.int 0)) 0 = some (.ref 70) := x_o1 l0 rfl rfl
  have l1_1 : zld (zs1 lv 4 (.int 0)) 1 = some (.int v1) := x_o1 l1 rfl rfl
  have l2_1 : zld (zs1 lv 4 (.int 0)) 2 = some (.int v2) := x_o1 l2 rfl rfl
  have l3_1 : zld (zs1 lv 4 (.int 0)) 3 = some (.int v3) := x_o1 l3 rfl rfl
  have l4_1 : zld (zs1 lv 4 (.int 0)) 4 = some (.int 0) := zs1_ld _ _ _
  generalize (zs1 lv 4 (.int 0)) = lv1 at *
  exact T238_3 H he F F l0_1 l1_1 l2_1 l3_1 l4_1 h
set_option maxRecDepth 20000 in
theorem Z238 {B : zHp} (H : yH0 B) {F : Nat} {a1 : Int32} {a2 : Int32} {a3 : Int32} {m : xS} {x : Int32 × xS} (h : D238 F a1 a2 a3 m = some x) {d : Nat} (hd : 3 ≤ d) : zCan d 238 [.ref 70, .int a1, .int a2, .int a3] (xW B m) (some (.int x.1), xW B x.2) := by
  obtain ⟨e, rfl⟩ : ∃ e, d = e + 1 := ⟨d - 1, by omega⟩
  refine zCan_body (nL := 5) (rt := (some .boolean)) (cd := zc238) (xg238) ⟨Nat.le_of_ble_eq_true rfl, by decide⟩ (Nat.le_refl _) ?_
  exact T238 H hd F rfl rfl rfl rfl h
/-- LentToolsModel.trusts -/
def D210 (F : Nat) (v1 : Int32) (v2 : Int32) (m : xS) : Option (Int32 × xS) :=
  if xib ((46 + (6 * v1)) + v2) 148 = true then
    if zcmp .ne (m.1 80 (((46 + (6 * v1)) + v2) : Int32).toNatClampNeg) 1 = true then
      some (0, m)
    else
      some (1, m)
  else none
set_option maxRecDepth 20000 in
theorem T210 {B : zHp} (H : yH0 B) {e : Nat} (he : 1 ≤ e + 1) (F : Nat) {v1 : Int32} {v2 : Int32} {lv : List (Nat × Value)} {m : xS} {x : Int32 × xS} (l0 : zld lv 0 = some (.ref 70)) (l1 : zld lv 1 = some (.int v1)) (l2 : zld lv 2 = some (.int v2)) (h : D210 F v1 v2 m = some x) : zR none e 3 (some .boolean) zc210 (0, lv, []) (xW B m) (some (.int x.1), xW B x.2) := by
  unfold D210 at h
  refine q_lr (k := 1) (i := 0) (q := (.aload_n 0, 1, 0, 0, .null)) rfl (fun _ => rfl) l0 ?_
  refine r_gr (c := 80) H (pc := 1) rfl (by decide) (by decide) ?_
  refine r_s (fr' := (6, lv, [.int 46, .ref 80])) (hp' := xW B m) (q := (.bipush 46, 2, 0, 0, .null)) rfl (fun _ => rfl) (Nat.le_refl _) ?_
  refine r_s (fr' := (8, lv, [.int 6, .int 46, .ref 80])) (hp' := xW B m) (q := (.bipush 6, 2, 0, 0, .null)) rfl (fun _ => rfl) (Nat.le_refl _) ?_
  refine q_li (k := 1) (i := 1) (q := (.iload_n 1, 1, 0, 0, .null)) rfl (fun _ => rfl) l1 ?_
  refine r_s (fr' := (10, lv, [.int (6 * v1), .int 46, .ref 80])) (hp' := xW B m) (q := (.imul, 1, 0, 0, .null)) rfl (fun _ => rfl) (Nat.le_refl _) ?_
  refine r_s (fr' := (11, lv, [.int (46 + (6 * v1)), .ref 80])) (hp' := xW B m) (q := (.iadd, 1, 0, 0, .null)) rfl (fun _ => rfl) (Nat.le_refl _) ?_
  refine q_li (k := 1) (i := 2) (q := (.iload_n 2, 1, 0, 0, .null)) rfl (fun _ => rfl) l2 ?_
  refine r_s (fr' := (13, lv, [.int ((46 + (6 * v1)) + v2), .ref 80])) (hp' := xW B m) (q := (.iadd, 1, 0, 0, .null)) rfl (fun _ => rfl) (Nat.le_refl _) ?_
  obtain ⟨c1, h⟩ := xif h
  refine q_al (n := 148) (v := (m.1 80 (((46 + (6 * v1)) + v2) : Int32).toNatClampNeg)) H (pc := 13) rfl (by decide) c1 rfl ?_
  refine r_s (fr' := (15, lv, [.int 1, .int (m.1 80 (((46 + (6 * v1)) + v2) : Int32).toNatClampNeg)])) (hp' := xW B m) (q := (.iconst 1, 1, 0, 0, .null)) rfl (fun _ => rfl) (Nat.le_refl _) ?_
  refine r_ifc (len := 3) (a := 22) (b := 0) (v0 := .null) (cn := .ne) (off := 7) rfl (fun c => ?_) (fun c => ?_)
  · rw [if_pos c] at h
    refine r_s (fr' := (23, lv, [.int 0])) (hp' := xW B m) (q := (.iconst 0, 1, 0, 0, .null)) rfl (fun _ => rfl) (Nat.le_refl _) ?_
    obtain rfl := Option.some.inj h
    exact q_ri (q := (.ireturn, 1, 0, 0, .null)) rfl (fun _ => rfl) rfl rfl
  · rw [if_neg (by rw [c]; decide)] at h
    refine r_s (fr' := (19, lv, [.int 1])) (hp' := xW B m) (q := (.iconst 1, 1, 0, 0, .null)) rfl (fun _ => rfl) (Nat.le_refl _) ?_
    refine r_s (fr' := (23, lv, [.int 1])) (hp' := xW B m) (q := (.goto 4, 3, 23, 0, .null)) rfl (fun _ => rfl) (Nat.le_refl _) ?_
    obtain rfl := Option.some.inj h
    exact q_ri (q := (.ireturn, 1, 0, 0, .null)) rfl (fun _ => rfl) rfl rfl
set_option maxRecDepth 20000 in
theorem Z210 {B : zHp} (H : yH0 B) {F : Nat} {a1 : Int32} {a2 : Int32} {m : xS} {x : Int32 × xS} (h : D210 F a1 a2 m = some x) {d : Nat} (hd : 1 ≤ d) : zCan d 210 [.ref 70, .int a1, .int a2] (xW B m) (some (.int x.1), xW B x.2) := by
  obtain ⟨e, rfl⟩ : ∃ e, d = e + 1 := ⟨d - 1, by omega⟩
  refine zCan_body (nL := 3) (rt := (some .boolean)) (cd := zc210) (xg210) ⟨Nat.le_of_ble_eq_true rfl, by decide⟩ (Nat.le_refl _) ?_
  exact T210 H hd F rfl rfl rfl h
/-- LentToolsModel.areTrusted -/
def D239_6 (F : Nat) : Nat → Int32 → Int32 → Int32 → Int32 → Int32 → xS → Option (Int32 × xS)
  | 0, _, _, _, _, _, _ => none
  | f + 1, v1, v2, v3, v4, v5, m =>
    if zcmp .ge v5 v3 = true then
      some (1, m)
    else
      (D236 F v2 v3 v5 m).bind fun q17 =>
        (D210 F v4 q17.1 q17.2).bind fun q27 =>
          if zcmp .ne q27.1 0 = true then
            D239_6 F f v1 v2 v3 q17.1 (v5 + Int32.ofInt 1) q27.2
          else
            some (0, q27.2)
set_option maxRecDepth 20000 in
theorem T239_6 {B : zHp} (H : yH0 B) {e : Nat} (he : 3 ≤ e + 1) (F : Nat) : ∀ (f : Nat) {v1 : Int32} {v2 : Int32} {v3 : Int32} {v4 : Int32} {v5 : Int32} {lv : List (Nat × Value)} {m : xS} {x : Int32 × xS}, zld lv 0 = some (.ref 70) → zld lv 1 = some (.int v1) → zld lv 2 = some (.int v2) → zld lv 3 = some (.int v3) → zld lv 4 = some (.int v4) → zld lv 5 = some (.int v5) → D239_6 F f v1 v2 v3 v4 v5 m = some x → zR none e 7 (some .boolean) zc239 (6, lv, []) (xW B m) (some (.int x.1), xW B x.2) := by
  intro f
  induction f with
  | zero => intro v1 v2 v3 v4 v5 lv m x l0 l1 l2 l3 l4 l5 h; cases h
  | succ f ih =>
    intro v1 v2 v3 v4 v5 lv m x l0 l1 l2 l3 l4 l5 h
    unfold D239_6 at h
    refine q_li (k := 2) (i := 5) (q := (.iload 5, 2, 0, 0, .null)) rfl (fun _ => rfl) l5 ?_
    refine q_li (k := 1) (i := 3) (q := (.iload_n 3, 1, 0, 0, .null)) rfl (fun _ => rfl) l3 ?_
    refine r_ifc (len := 3) (a := 45) (b := 0) (v0 := .null) (cn := .ge) (off := 36) rfl (fun c => ?_) (fun c => ?_)
    · rw [if_pos c] at h
      refine r_s (fr' := (46, lv, [.int 1])) (hp' := xW B m) (q := (.iconst 1, 1, 0, 0, .null)) rfl (fun _ => rfl) (Nat.le_refl _) ?_
      obtain rfl := Option.some.inj h
      exact q_ri (q := (.ireturn, 1, 0, 0, .null)) rfl (fun _ => rfl) rfl rfl
    · rw [if_neg (by rw [c]; decide)] at h
      refine q_lr (k := 1) (i := 0) (q := (.aload_n 0, 1, 0, 0, .null)) rfl (fun _ => rfl) l0 ?_
      refine q_li (k := 1) (i := 2) (q := (.iload_n 2, 1, 0, 0, .null)) rfl (fun _ => rfl) l2 ?_
      refine q_li (k := 1) (i := 3) (q := (.iload_n 3, 1, 0, 0, .null)) rfl (fun _ => rfl) l3 ?_
      refine q_li (k := 2) (i := 5) (q := (.iload 5, 2, 0, 0, .null)) rfl (fun _ => rfl) l5 ?_
      obtain ⟨q17, h17, h⟩ := xbind h
      refine r_call (ix := 70) (as := [.int v2, .int v3, .int v5]) (rest := []) (rv := some (.int q17.1)) (hp' := xW B q17.2) (pc := 17) rfl xr236 rfl rfl rfl (xkd H (by decide)) (Nat.le_of_ble_eq_true rfl) (Z236 H h17 (by omega)) (Nat.le_refl _) ?_
      refine q_si (k := 2) (i := 6) (q := (.istore 6, 2, 0, 0, .null)) rfl (fun _ => rfl) (by decide) ?_
      have l0_1 : zld (zs1 lv 6 (.int q17.1)) 0 = some (.ref 70) := x_o1 l0 rfl rfl
      have l1_1 : zld (zs1 lv 6 (.int q17.1)) 1 = some (.int v1) := x_o1 l1 rfl rfl
      have l2_1 : zld (zs1 lv 6 (.int q17.1)) 2 = some (.int v2) := x_o1 l2 rfl rfl
      have l3_1 : zld (zs1 lv 6 (.int q17.1)) 3 = some (.int v3) := x_o1 l3 rfl rfl
      have l4_1 : zld (zs1 lv 6 (.int q17.1)) 4 = some (.int v4) := x_o1 l4 rfl rfl
      have l5_1 : zld (zs1 lv 6 (.int q17.1)) 5 = some (.int v5) := x_o1 l5 rfl rfl
      have l6_1 : zld (zs1 lv 6 (.int q17.1)) 6 = some (.int q17.1) := zs1_ld _ _ _
      generalize (zs1 lv 6 (.int q17.1)) = lv1 at *
      refine q_lr (k := 1) (i := 0) (q := (.aload_n 0, 1, 0, 0, .null)) rfl (fun _ => rfl) l0_1 ?_
      refine q_li (k := 2) (i := 4) (q := (.iload 4, 2, 0, 0, .null)) rfl (fun _ => rfl) l4_1 ?_
      refine q_li (k := 2) (i := 6) (q := (.iload 6, 2, 0, 0, .null)) rfl (fun _ => rfl) l6_1 ?_
      obtain ⟨q27, h27, h⟩ := xbind h
      refine r_call (ix := 70) (as := [.int v4, .int q17.1]) (rest := []) (rv := some (.int q27.1)) (hp' := xW B q27.2) (pc := 27) rfl xr210 rfl rfl rfl (xkd H (by decide)) (Nat.le_of_ble_eq_true rfl) (Z210 H h27 (by omega)) (Nat.le_refl _) ?_
      refine r_if (len := 3) (a := 35) (b := 0) (v0 := .null) (cn := .ne) (off := 5) rfl (fun c => ?_) (fun c => ?_)
      · rw [if_pos c] at h
        refine q_li (k := 2) (i := 6) (q := (.iload 6, 2, 0, 0, .null)) rfl (fun _ => rfl) l6_1 ?_
        refine q_si (k := 2) (i := 4) (q := (.istore 4, 2, 0, 0, .null)) rfl (fun _ => rfl) (by decide) ?_
        have l0_2 : zld (zs1 lv1 4 (.int q17.1)) 0 = some (.ref 70) := x_o1 l0_1 rfl rfl
        have l1_2 : zld (zs1 lv1 4 (.int q17.1)) 1 = some (.int v1) := x_o1 l1_1 rfl rfl
        have l2_2 : zld (zs1 lv1 4 (.int q17.1)) 2 = some (.int v2) := x_o1 l2_1 rfl rfl
        have l3_2 : zld (zs1 lv1 4 (.int q17.1)) 3 = some (.int v3) := x_o1 l3_1 rfl rfl
        have l4_2 : zld (zs1 lv1 4 (.int q17.1)) 4 = some (.int q17.1) := zs1_ld _ _ _
        have l5_2 : zld (zs1 lv1 4 (.int q17.1)) 5 = some (.int v5) := x_o1 l5_1 rfl rfl
        have l6_2 : zld (zs1 lv1 4 (.int q17.1)) 6 = some (.int q17.1) := x_o1 l6_1 rfl rfl
        generalize (zs1 lv1 4 (.int q17.1)) = lv2 at *
        refine q_inc (i := 5) (n := 1) (q := (.iinc 5 1, 3, 0, 0, .null)) rfl (fun _ => rfl) l5_2 (by decide) ?_
        have l0_3 : zld (zs1 lv2 5 (.int (v5 + Int32.ofInt 1))) 0 = some (.ref 70) := x_o1 l0_2 rfl rfl
        have l1_3 : zld (zs1 lv2 5 (.int (v5 + Int32.ofInt 1))) 1 = some (.int v1) := x_o1 l1_2 rfl rfl
        have l2_3 : zld (zs1 lv2 5 (.int (v5 + Int32.ofInt 1))) 2 = some (.int v2) := x_o1 l2_2 rfl rfl
        have l3_3 : zld (zs1 lv2 5 (.int (v5 + Int32.ofInt 1))) 3 = some (.int v3) := x_o1 l3_2 rfl rfl
        have l4_3 : zld (zs1 lv2 5 (.int (v5 + Int32.ofInt 1))) 4 = some (.int q17.1) := x_o1 l4_2 rfl rfl
        have l5_3 : zld (zs1 lv2 5 (.int (v5 + Int32.ofInt 1))) 5 = some (.int (v5 + Int32.ofInt 1)) := zs1_ld _ _ _
        have l6_3 : zld (zs1 lv2 5 (.int (v5 + Int32.ofInt 1))) 6 = some (.int q17.1) := x_o1 l6_2 rfl rfl
        generalize (zs1 lv2 5 (.int (v5 + Int32.ofInt 1))) = lv3 at *
        refine r_s (fr' := (6, lv3, [])) (hp' := xW B q27.2) (q := (.goto (-36), 3, 6, 0, .null)) rfl (fun _ => rfl) (Nat.le_refl _) ?_
        exact ih l0_3 l1_3 l2_3 l3_3 l4_3 l5_3 h
      · rw [if_neg (by rw [c]; decide)] at h
        refine r_s (fr' := (34, lv1, [.int 0])) (hp' := xW B q27.2) (q := (.iconst 0, 1, 0, 0, .null)) rfl (fun _ => rfl) (Nat.le_refl _) ?_
        obtain rfl := Option.some.inj h
        exact q_ri (q := (.ireturn, 1, 0, 0, .null)) rfl (fun _ => rfl) rfl rfl
def D239 (F : Nat) (v1 : Int32) (v2 : Int32) (v3 : Int32) (m : xS) : Option (Int32 × xS) :=
  D239_6 F F v1 v2 v3 v1 0 m
set_option maxRecDepth 20000 in
theorem T239 {B : zHp} (H : yH0 B) {e : Nat} (he : 3 ≤ e + 1) (F : Nat) {v1 : Int32} {v2 : Int32} {v3 : Int32} {lv : List (Nat × Value)} {m : xS} {x : Int32 × xS} (l0 : zld lv 0 = some (.ref 70)) (l1 : zld lv 1 = some (.int v1)) (l2 : zld lv 2 = some (.int v2)) (l3 : zld lv 3 = some (.int v3)) (h : D239 F v1 v2 v3 m = some x) : zR none e 7 (some .boolean) zc239 (0, lv, []) (xW B m) (some (.int x.1), xW B x.2) := by
  unfold D239 at h
  refine q_li (k := 1) (i := 1) (q := (.iload_n 1, 1, 0, 0, .null)) rfl (fun _ => rfl) l1 ?_
  refine q_si (k := 2) (i := 4) (q := (.istore 4, 2, 0, 0, .null)) rfl (fun _ => rfl) (by decide) ?_
  have l0_1 : zld (zs1 lv 4 (.int v1)) 0 = some (.ref 70) := x_o1 l0 rfl rfl
  have l1_1 : zld (zs1 lv 4 (.int v1)) 1 = some (.int v1) := x_o1 l1 rfl rfl
  have l2_1 : zld (zs1 lv 4 (.int v1)) 2 = some (.int v2) := x_o1 l2 rfl rfl
  have l3_1 : zld (zs1 lv 4 (.int v1)) 3 = some (.int v3) := x_o1 l3 rfl rfl
  have l4_1 : zld (zs1 lv 4 (.int v1)) 4 = some (.int v1) := zs1_ld _ _ _
  generalize (zs1 lv 4 (.int v1)) = lv1 at *
  refine r_s (fr' := (4, lv1, [.int 0])) (hp' := xW B m) (q := (.iconst 0, 1, 0, 0, .null)) rfl (fun _ => rfl) (Nat.le_refl _) ?_
  refine q_si (k := 2) (i := 5) (q := (.istore 5, 2, 0, 0, .null)) rfl (fun _ => rfl) (by decide) ?_
  have l0_2 : zld (zs1 lv1 5 (.int 0)) 0 = some (.ref 70) := x_o1 l0_1 rfl rfl
  have l1_2 : zld (zs1 lv1 5 (.int 0)) 1 = some (.int v1) := x_o1 l1_1 rfl rfl
  have l2_2 : zld (zs1 lv1 5 (.int 0)) 2 = some (.int v2) := x_o1 l2_1 rfl rfl
  have l3_2 : zld (zs1 lv1 5 (.int 0)) 3 = some (.int v3) := x_o1 l3_1 rfl rfl
  have l4_2 : zld (zs1 lv1 5 (.int 0)) 4 = some (.int v1) := x_o1 l4_1 rfl rfl
  have l5_2 : zld (zs1 lv1 5 (.int 0)) 5 = some (.int 0) := zs1_ld _ _ _
  generalize (zs1 lv1 5 (.int 0)) = lv2 at *
  exact T239_6 H he F F l0_2 l1_2 l2_2 l3_2 l4_2 l5_2 h
set_option maxRecDepth 20000 in
theorem Z239 {B : zHp} (H : yH0 B) {F : Nat} {a1 : Int32} {a2 : Int32} {a3 : Int32} {m : xS} {x : Int32 × xS} (h : D239 F a1 a2 a3 m = some x) {d : Nat} (hd : 3 ≤ d) : zCan d 239 [.ref 70, .int a1, .int a2, .int a3] (xW B m) (some (.int x.1), xW B x.2) := by
  obtain ⟨e, rfl⟩ : ∃ e, d = e + 1 := ⟨d - 1, by omega⟩
  refine zCan_body (nL := 7) (rt := (some .boolean)) (cd := zc239) (xg239) ⟨Nat.le_of_ble_eq_true rfl, by decide⟩ (Nat.le_refl _) ?_
  exact T239 H hd F rfl rfl rfl rfl h
/-- LentToolsModel.findsRows -/
def D266_175 (F : Nat) (g18 : Int32 → Int32 → Int32 → xS → Option (Unit × xS)) (v1 : Int32) (v2 : Int32) (v3 : Int32) (v4 : Int32) (m : xS) : Option (Unit × xS) :=
  g18 v1 v2 (v3 + Int32.ofInt 1) m
set_option maxRecDepth 20000 in
theorem T266_175 {B : zHp} (H : yH0 B) {e : Nat} (he : 4 ≤ e + 1) (F : Nat) (g18 : Int32 → Int32 → Int32 → xS → Option (Unit × xS)) (k18 : ∀ {v1 : Int32} {v2 : Int32} {v3 : Int32} {lv : List (Nat × Value)} {m : xS} {x : Unit × xS}, zld lv 0 = some (.ref 70) → zld lv 1 = some (.int v1) → zld lv 2 = some (.int v2) → zld lv 3 = some (.int v3) → g18 v1 v2 v3 m = some x → zR none e 6 none zc266 (18, lv, []) (xW B m) (none, xW B x.2)) {v1 : Int32} {v2 : Int32} {v3 : Int32} {v4 : Int32} {lv : List (Nat × Value)} {m : xS} {x : Unit × xS} (l0 : zld lv 0 = some (.ref 70)) (l1 : zld lv 1 = some (.int v1)) (l2 : zld lv 2 = some (.int v2)) (l3 : zld lv 3 = some (.int v3)) (l4 : zld lv 4 = some (.int v4)) (h : D266_175 F g18 v1 v2 v3 v4 m = some x) : zR none e 6 none zc266 (175, lv, []) (xW B m) (none, xW B x.2) := by
  unfold D266_175 at h
  refine q_inc (i := 3) (n := 1) (q := (.iinc 3 1, 3, 0, 0, .null)) rfl (fun _ => rfl) l3 (by decide) ?_
  have l0_1 : zld (zs1 lv 3 (.int (v3 + Int32.ofInt 1))) 0 = some (.ref 70) := x_o1 l0 rfl rfl
  have l1_1 : zld (zs1 lv 3 (.int (v3 + Int32.ofInt 1))) 1 = some (.int v1) := x_o1 l1 rfl rfl
  have l2_1 : zld (zs1 lv 3 (.int (v3 + Int32.ofInt 1))) 2 = some (.int v2) := x_o1 l2 rfl rfl
  have l3_1 : zld (zs1 lv 3 (.int (v3 + Int32.ofInt 1))) 3 = some (.int (v3 + Int32.ofInt 1)) := zs1_ld _ _ _
  have l4_1 : zld (zs1 lv 3 (.int (v3 + Int32.ofInt 1))) 4 = some (.int v4) := x_o1 l4 rfl rfl
  generalize (zs1 lv 3 (.int (v3 + Int32.ofInt 1))) = lv1 at *
  refine r_s (fr' := (18, lv1, [])) (hp' := xW B m) (q := (.goto (-160), 3, 18, 0, .null)) rfl (fun _ => rfl) (Nat.le_refl _) ?_
  exact k18 l0_1 l1_1 l2_1 l3_1 h
def D266_152 (F : Nat) (g18 : Int32 → Int32 → Int32 → xS → Option (Unit × xS)) (v1 : Int32) (v2 : Int32) (v3 : Int32) (v4 : Int32) (v5 : Int32) (m : xS) : Option (Unit × xS) :=
  D266_175 F g18 v1 v2 v3 v4 (xu (xu m 70 33 ((m.1 70 33) ||| (1 <<< (v5 &&& 31)))) 70 32 ((m.1 70 32) + 1))
set_option maxRecDepth 20000 in
theorem T266_152 {B : zHp} (H : yH0 B) {e : Nat} (he : 4 ≤ e + 1) (F : Nat) (g18 : Int32 → Int32 → Int32 → xS → Option (Unit × xS)) (k18 : ∀ {v1 : Int32} {v2 : Int32} {v3 : Int32} {lv : List (Nat × Value)} {m : xS} {x : Unit × xS}, zld lv 0 = some (.ref 70) → zld lv 1 = some (.int v1) → zld lv 2 = some (.int v2) → zld lv 3 = some (.int v3) → g18 v1 v2 v3 m = some x → zR none e 6 none zc266 (18, lv, []) (xW B m) (none, xW B x.2)) {v1 : Int32} {v2 : Int32} {v3 : Int32} {v4 : Int32} {v5 : Int32} {lv : List (Nat × Value)} {m : xS} {x : Unit × xS} (l0 : zld lv 0 = some (.ref 70)) (l1 : zld lv 1 = some (.int v1)) (l2 : zld lv 2 = some (.int v2)) (l3 : zld lv 3 = some (.int v3)) (l4 : zld lv 4 = some (.int v4)) (l5 : zld lv 5 = some (.int v5)) (h : D266_152 F g18 v1 v2 v3 v4 v5 m = some x) : zR none e 6 none zc266 (152, lv, []) (xW B m) (none, xW B x.2) := by
  unfold D266_152 at h
  refine q_lr (k := 1) (i := 0) (q := (.aload_n 0, 1, 0, 0, .null)) rfl (fun _ => rfl) l0 ?_
  refine r_s (fr' := (154, lv, [.ref 70, .ref 70])) (hp' := xW B m) (q := (.dup, 1, 0, 0, .null)) rfl (fun _ => rfl) (Nat.le_refl _) ?_
  refine r_gi (v := (m.1 70 33)) H (pc := 154) (i := _) rfl (by decide) (by decide) rfl ?_
  refine r_s (fr' := (158, lv, [.int 1, .int (m.1 70 33), .ref 70])) (hp' := xW B m) (q := (.iconst 1, 1, 0, 0, .null)) rfl (fun _ => rfl) (Nat.le_refl _) ?_
  refine q_li (k := 2) (i := 5) (q := (.iload 5, 2, 0, 0, .null)) rfl (fun _ => rfl) l5 ?_
  refine r_s (fr' := (161, lv, [.int (1 <<< (v5 &&& 31)), .int (m.1 70 33), .ref 70])) (hp' := xW B m) (q := (.ishl, 1, 0, 0, .null)) rfl (fun _ => rfl) (Nat.le_refl _) ?_
  refine r_s (fr' := (162, lv, [.int ((m.1 70 33) ||| (1 <<< (v5 &&& 31))), .ref 70])) (hp' := xW B m) (q := (.ior, 1, 0, 0, .null)) rfl (fun _ => rfl) (Nat.le_refl _) ?_
  refine r_pi (s2 := (xu m 70 33 ((m.1 70 33) ||| (1 <<< (v5 &&& 31))))) H (pc := 162) rfl (by decide) rfl rfl ?_
  refine q_lr (k := 1) (i := 0) (q := (.aload_n 0, 1, 0, 0, .null)) rfl (fun _ => rfl) l0 ?_
  refine r_s (fr' := (167, lv, [.ref 70, .ref 70])) (hp' := xW B (xu m 70 33 ((m.1 70 33) ||| (1 <<< (v5 &&& 31))))) (q := (.dup, 1, 0, 0, .null)) rfl (fun _ => rfl) (Nat.le_refl _) ?_
  refine r_gi (v := (m.1 70 32)) H (pc := 167) (i := _) rfl (by decide) (by decide) rfl ?_
  refine r_s (fr' := (171, lv, [.int 1, .int (m.1 70 32), .ref 70])) (hp' := xW B (xu m 70 33 ((m.1 70 33) ||| (1 <<< (v5 &&& 31))))) (q := (.iconst 1, 1, 0, 0, .null)) rfl (fun _ => rfl) (Nat.le_refl _) ?_
  refine r_s (fr' := (172, lv, [.int ((m.1 70 32) + 1), .ref 70])) (hp' := xW B (xu m 70 33 ((m.1 70 33) ||| (1 <<< (v5 &&& 31))))) (q := (.iadd, 1, 0, 0, .null)) rfl (fun _ => rfl) (Nat.le_refl _) ?_
  refine r_pi (s2 := (xu (xu m 70 33 ((m.1 70 33) ||| (1 <<< (v5 &&& 31)))) 70 32 ((m.1 70 32) + 1))) H (pc := 172) rfl (by decide) rfl rfl ?_
  exact T266_175 H he F _ k18 l0 l1 l2 l3 l4 h
def D266_137 (F : Nat) (g18 : Int32 → Int32 → Int32 → xS → Option (Unit × xS)) (v1 : Int32) (v2 : Int32) (v3 : Int32) (v4 : Int32) (w0 : Int32) (m : xS) : Option (Unit × xS) :=
  if zcmp .ne (m.1 70 32) 0 = true then
    D266_152 F g18 v1 v2 v3 v4 w0 m
  else
    D266_152 F g18 v1 v2 v3 v4 w0 (xu m 70 34 w0)
set_option maxRecDepth 20000 in
theorem T266_137 {B : zHp} (H : yH0 B) {e : Nat} (he : 4 ≤ e + 1) (F : Nat) (g18 : Int32 → Int32 → Int32 → xS → Option (Unit × xS)) (k18 : ∀ {v1 : Int32} {v2 : Int32} {v3 : Int32} {lv : List (Nat × Value)} {m : xS} {x : Unit × xS}, zld lv 0 = some (.ref 70) → zld lv 1 = some (.int v1) → zld lv 2 = some (.int v2) → zld lv 3 = some (.int v3) → g18 v1 v2 v3 m = some x → zR none e 6 none zc266 (18, lv, []) (xW B m) (none, xW B x.2)) {v1 : Int32} {v2 : Int32} {v3 : Int32} {v4 : Int32} {w0 : Int32} {lv : List (Nat × Value)} {m : xS} {x : Unit × xS} (l0 : zld lv 0 = some (.ref 70)) (l1 : zld lv 1 = some (.int v1)) (l2 : zld lv 2 = some (.int v2)) (l3 : zld lv 3 = some (.int v3)) (l4 : zld lv 4 = some (.int v4)) (h : D266_137 F g18 v1 v2 v3 v4 w0 m = some x) : zR none e 6 none zc266 (137, lv, [.int w0]) (xW B m) (none, xW B x.2) := by
  unfold D266_137 at h
  refine q_si (k := 2) (i := 5) (q := (.istore 5, 2, 0, 0, .null)) rfl (fun _ => rfl) (by decide) ?_
  have l0_1 : zld (zs1 lv 5 (.int w0)) 0 = some (.ref 70) := x_o1 l0 rfl rfl
  have l1_1 : zld (zs1 lv 5 (.int w0)) 1 = some (.int v1) := x_o1 l1 rfl rfl
  have l2_1 : zld (zs1 lv 5 (.int w0)) 2 = some (.int v2) := x_o1 l2 rfl rfl
  have l3_1 : zld (zs1 lv 5 (.int w0)) 3 = some (.int v3) := x_o1 l3 rfl rfl
  have l4_1 : zld (zs1 lv 5 (.int w0)) 4 = some (.int v4) := x_o1 l4 rfl rfl
  have l5_1 : zld (zs1 lv 5 (.int w0)) 5 = some (.int w0) := zs1_ld _ _ _
  generalize (zs1 lv 5 (.int w0)) = lv1 at *
  refine q_lr (k := 1) (i := 0) (q := (.aload_n 0, 1, 0, 0, .null)) rfl (fun _ => rfl) l0_1 ?_
  refine r_gi (v := (m.1 70 32)) H (pc := 140) (i := _) rfl (by decide) (by decide) rfl ?_
  refine r_if (len := 3) (a := 152) (b := 0) (v0 := .null) (cn := .ne) (off := 9) rfl (fun c => ?_) (fun c => ?_)
  · rw [if_pos c] at h
    exact T266_152 H he F _ k18 l0_1 l1_1 l2_1 l3_1 l4_1 l5_1 h
  · rw [if_neg (by rw [c]; decide)] at h
    refine q_lr (k := 1) (i := 0) (q := (.aload_n 0, 1, 0, 0, .null)) rfl (fun _ => rfl) l0_1 ?_
    refine q_li (k := 2) (i := 5) (q := (.iload 5, 2, 0, 0, .null)) rfl (fun _ => rfl) l5_1 ?_
    refine r_pi (s2 := (xu m 70 34 w0)) H (pc := 149) rfl (by decide) rfl rfl ?_
    exact T266_152 H he F _ k18 l0_1 l1_1 l2_1 l3_1 l4_1 l5_1 h
def D266_89 (F : Nat) (g18 : Int32 → Int32 → Int32 → xS → Option (Unit × xS)) (v1 : Int32) (v2 : Int32) (v3 : Int32) (w0 : Int32) (m : xS) : Option (Unit × xS) :=
  if zcmp .eq w0 0 = true then
    D266_175 F g18 v1 v2 v3 w0 m
  else
    (D208 F v1 0 m).bind fun q100 =>
      (D239 F q100.1 v3 v2 q100.2).bind fun q105 =>
        if zcmp .ne q105.1 0 = true then
          if zcmp .ne v2 1 = true then
            (D236 F v3 v2 (v2 - 2) q105.2).bind fun q134 =>
              D266_137 F g18 v1 v2 v3 w0 q134.1 q134.2
          else
            (D208 F v1 0 q105.2).bind fun q122 =>
              D266_137 F g18 v1 v2 v3 w0 q122.1 q122.2
        else
          D266_175 F g18 v1 v2 v3 w0 q105.2
set_option maxRecDepth 20000 in
theorem T266_89 {B : zHp} (H : yH0 B) {e : Nat} (he : 4 ≤ e + 1) (F : Nat) (g18 : Int32 → Int32 → Int32 → xS → Option (Unit × xS)) (k18 : ∀ {v1 : Int32} {v2 : Int32} {v3 : Int32} {lv : List (Nat × Value)} {m : xS} {x : Unit × xS}, zld lv 0 = some (.ref 70) → zld lv 1 = some (.int v1) → zld lv 2 = some (.int v2) → zld lv 3 = some (.int v3) → g18 v1 v2 v3 m = some x → zR none e 6 none zc266 (18, lv, []) (xW B m) (none, xW B x.2)) {v1 : Int32} {v2 : Int32} {v3 : Int32} {w0 : Int32} {lv : List (Nat × Value)} {m : xS} {x : Unit × xS} (l0 : zld lv 0 = some (.ref 70)) (l1 : zld lv 1 = some (.int v1)) (l2 : zld lv 2 = some (.int v2)) (l3 : zld lv 3 = some (.int v3)) (h : D266_89 F g18 v1 v2 v3 w0 m = some x) : zR none e 6 none zc266 (89, lv, [.int w0]) (xW B m) (none, xW B x.2) := by
  unfold D266_89 at h
  refine q_si (k := 2) (i := 4) (q := (.istore 4, 2, 0, 0, .null)) rfl (fun _ => rfl) (by decide) ?_
  have l0_1 : zld (zs1 lv 4 (.int w0)) 0 = some (.ref 70) := x_o1 l0 rfl rfl
  have l1_1 : zld (zs1 lv 4 (.int w0)) 1 = some (.int v1) := x_o1 l1 rfl rfl
  have l2_1 : zld (zs1 lv 4 (.int w0)) 2 = some (.int v2) := x_o1 l2 rfl rfl
  have l3_1 : zld (zs1 lv 4 (.int w0)) 3 = some (.int v3) := x_o1 l3 rfl rfl
  have l4_1 : zld (zs1 lv 4 (.int w0)) 4 = some (.int w0) := zs1_ld _ _ _
  generalize (zs1 lv 4 (.int w0)) = lv1 at *
  refine q_li (k := 2) (i := 4) (q := (.iload 4, 2, 0, 0, .null)) rfl (fun _ => rfl) l4_1 ?_
  refine r_if (len := 3) (a := 175) (b := 0) (v0 := .null) (cn := .eq) (off := 82) rfl (fun c => ?_) (fun c => ?_)
  · rw [if_pos c] at h
    exact T266_175 H he F _ k18 l0_1 l1_1 l2_1 l3_1 l4_1 h
  · rw [if_neg (by rw [c]; decide)] at h
    refine q_lr (k := 1) (i := 0) (q := (.aload_n 0, 1, 0, 0, .null)) rfl (fun _ => rfl) l0_1 ?_
    refine q_lr (k := 1) (i := 0) (q := (.aload_n 0, 1, 0, 0, .null)) rfl (fun _ => rfl) l0_1 ?_
    refine q_li (k := 1) (i := 1) (q := (.iload_n 1, 1, 0, 0, .null)) rfl (fun _ => rfl) l1_1 ?_
    refine r_s (fr' := (100, lv1, [.int 0, .int v1, .ref 70, .ref 70])) (hp' := xW B m) (q := (.iconst 0, 1, 0, 0, .null)) rfl (fun _ => rfl) (Nat.le_refl _) ?_
    obtain ⟨q100, h100, h⟩ := xbind h
    refine r_call (ix := 70) (as := [.int v1, .int 0]) (rest := [.ref 70]) (rv := some (.int q100.1)) (hp' := xW B q100.2) (pc := 100) rfl xr208 rfl rfl rfl (xkd H (by decide)) (Nat.le_of_ble_eq_true rfl) (Z208 H h100 (by omega)) (Nat.le_refl _) ?_
    refine q_li (k := 1) (i := 3) (q := (.iload_n 3, 1, 0, 0, .null)) rfl (fun _ => rfl) l3_1 ?_
    refine q_li (k := 1) (i := 2) (q := (.iload_n 2, 1, 0, 0, .null)) rfl (fun _ => rfl) l2_1 ?_
    obtain ⟨q105, h105, h⟩ := xbind h
    refine r_call (ix := 70) (as := [.int q100.1, .int v3, .int v2]) (rest := []) (rv := some (.int q105.1)) (hp' := xW B q105.2) (pc := 105) rfl xr239 rfl rfl rfl (xkd H (by decide)) (Nat.le_of_ble_eq_true rfl) (Z239 H h105 (by omega)) (Nat.le_refl _) ?_
    refine r_if (len := 3) (a := 114) (b := 0) (v0 := .null) (cn := .ne) (off := 6) rfl (fun c => ?_) (fun c => ?_)
    · rw [if_pos c] at h
      refine q_li (k := 1) (i := 2) (q := (.iload_n 2, 1, 0, 0, .null)) rfl (fun _ => rfl) l2_1 ?_
      refine r_s (fr' := (116, lv1, [.int 1, .int v2])) (hp' := xW B q105.2) (q := (.iconst 1, 1, 0, 0, .null)) rfl (fun _ => rfl) (Nat.le_refl _) ?_
      refine r_ifc (len := 3) (a := 128) (b := 0) (v0 := .null) (cn := .ne) (off := 12) rfl (fun c => ?_) (fun c => ?_)
      · rw [if_pos c] at h
        refine q_lr (k := 1) (i := 0) (q := (.aload_n 0, 1, 0, 0, .null)) rfl (fun _ => rfl) l0_1 ?_
        refine q_li (k := 1) (i := 3) (q := (.iload_n 3, 1, 0, 0, .null)) rfl (fun _ => rfl) l3_1 ?_
        refine q_li (k := 1) (i := 2) (q := (.iload_n 2, 1, 0, 0, .null)) rfl (fun _ => rfl) l2_1 ?_
        refine q_li (k := 1) (i := 2) (q := (.iload_n 2, 1, 0, 0, .null)) rfl (fun _ => rfl) l2_1 ?_
        refine r_s (fr' := (133, lv1, [.int 2, .int v2, .int v2, .int v3, .ref 70])) (hp' := xW B q105.2) (q := (.iconst 2, 1, 0, 0, .null)) rfl (fun _ => rfl) (Nat.le_refl _) ?_
        refine r_s (fr' := (134, lv1, [.int (v2 - 2), .int v2, .int v3, .ref 70])) (hp' := xW B q105.2) (q := (.isub, 1, 0, 0, .null)) rfl (fun _ => rfl) (Nat.le_refl _) ?_
        obtain ⟨q134, h134, h⟩ := xbind h
        refine r_call (ix := 70) (as := [.int v3, .int v2, .int (v2 - 2)]) (rest := []) (rv := some (.int q134.1)) (hp' := xW B q134.2) (pc := 134) rfl xr236 rfl rfl rfl (xkd H (by decide)) (Nat.le_of_ble_eq_true rfl) (Z236 H h134 (by omega)) (Nat.le_refl _) ?_
        exact T266_137 H he F _ k18 l0_1 l1_1 l2_1 l3_1 l4_1 h
      · rw [if_neg (by rw [c]; decide)] at h
        refine q_lr (k := 1) (i := 0) (q := (.aload_n 0, 1, 0, 0, .null)) rfl (fun _ => rfl) l0_1 ?_
        refine q_li (k := 1) (i := 1) (q := (.iload_n 1, 1, 0, 0, .null)) rfl (fun _ => rfl) l1_1 ?_
        refine r_s (fr' := (122, lv1, [.int 0, .int v1, .ref 70])) (hp' := xW B q105.2) (q := (.iconst 0, 1, 0, 0, .null)) rfl (fun _ => rfl) (Nat.le_refl _) ?_
        obtain ⟨q122, h122, h⟩ := xbind h
        refine r_call (ix := 70) (as := [.int v1, .int 0]) (rest := []) (rv := some (.int q122.1)) (hp' := xW B q122.2) (pc := 122) rfl xr208 rfl rfl rfl (xkd H (by decide)) (Nat.le_of_ble_eq_true rfl) (Z208 H h122 (by omega)) (Nat.le_refl _) ?_
        refine r_s (fr' := (137, lv1, [.int q122.1])) (hp' := xW B q122.2) (q := (.goto 12, 3, 137, 0, .null)) rfl (fun _ => rfl) (Nat.le_refl _) ?_
        exact T266_137 H he F _ k18 l0_1 l1_1 l2_1 l3_1 l4_1 h
    · rw [if_neg (by rw [c]; decide)] at h
      refine r_s (fr' := (175, lv1, [])) (hp' := xW B q105.2) (q := (.goto 64, 3, 175, 0, .null)) rfl (fun _ => rfl) (Nat.le_refl _) ?_
      exact T266_175 H he F _ k18 l0_1 l1_1 l2_1 l3_1 l4_1 h
def D266_88 (F : Nat) (g18 : Int32 → Int32 → Int32 → xS → Option (Unit × xS)) (v1 : Int32) (v2 : Int32) (v3 : Int32) (m : xS) : Option (Unit × xS) :=
  D266_89 F g18 v1 v2 v3 0 m
set_option maxRecDepth 20000 in
theorem T266_88 {B : zHp} (H : yH0 B) {e : Nat} (he : 4 ≤ e + 1) (F : Nat) (g18 : Int32 → Int32 → Int32 → xS → Option (Unit × xS)) (k18 : ∀ {v1 : Int32} {v2 : Int32} {v3 : Int32} {lv : List (Nat × Value)} {m : xS} {x : Unit × xS}, zld lv 0 = some (.ref 70) → zld lv 1 = some (.int v1) → zld lv 2 = some (.int v2) → zld lv 3 = some (.int v3) → g18 v1 v2 v3 m = some x → zR none e 6 none zc266 (18, lv, []) (xW B m) (none, xW B x.2)) {v1 : Int32} {v2 : Int32} {v3 : Int32} {lv : List (Nat × Value)} {m : xS} {x : Unit × xS} (l0 : zld lv 0 = some (.ref 70)) (l1 : zld lv 1 = some (.int v1)) (l2 : zld lv 2 = some (.int v2)) (l3 : zld lv 3 = some (.int v3)) (h : D266_88 F g18 v1 v2 v3 m = some x) : zR none e 6 none zc266 (88, lv, []) (xW B m) (none, xW B x.2) := by
  unfold D266_88 at h
  refine r_s (fr' := (89, lv, [.int 0])) (hp' := xW B m) (q := (.iconst 0, 1, 0, 0, .null)) rfl (fun _ => rfl) (Nat.le_refl _) ?_
  exact T266_89 H he F _ k18 l0 l1 l2 l3 h
def D266_18 (F : Nat) : Nat → Int32 → Int32 → Int32 → xS → Option (Unit × xS)
  | 0, _, _, _, _ => none
  | f + 1, v1, v2, v3, m =>
    if zcmp .ge v2 (m.1 80 0) = true then
      some ((), m)
    else
      (D235 F (m.1 80 0) v2 m).bind fun q36 =>
        if zcmp .ge v3 q36.1 = true then
          some ((), q36.2)
        else
          (D236 F v3 v2 (v2 - 1) q36.2).bind fun q48 =>
            (D208 F v1 3 q48.2).bind fun q54 =>
              if zcmp .ne q48.1 q54.1 = true then
                D266_88 F (D266_18 F f) v1 v2 v3 q54.2
              else
                (D237 F v3 v2 q54.2).bind fun q63 =>
                  if zcmp .eq q63.1 0 = true then
                    D266_88 F (D266_18 F f) v1 v2 v3 q63.2
                  else
                    (D208 F v1 0 q63.2).bind fun q75 =>
                      (D238 F v3 v2 q75.1 q75.2).bind fun q78 =>
                        if zcmp .ne q78.1 0 = true then
                          D266_88 F (D266_18 F f) v1 v2 v3 q78.2
                        else
                          D266_89 F (D266_18 F f) v1 v2 v3 1 q78.2
set_option maxRecDepth 20000 in
theorem T266_18 {B : zHp} (H : yH0 B) {e : Nat} (he : 4 ≤ e + 1) (F : Nat) : ∀ (f : Nat) {v1 : Int32} {v2 : Int32} {v3 : Int32} {lv : List (Nat × Value)} {m : xS} {x : Unit × xS}, zld lv 0 = some (.ref 70) → zld lv 1 = some (.int v1) → zld lv 2 = some (.int v2) → zld lv 3 = some (.int v3) → D266_18 F f v1 v2 v3 m = some x → zR none e 6 none zc266 (18, lv, []) (xW B m) (none, xW B x.2) := by
  intro f
  induction f with
  | zero => intro v1 v2 v3 lv m x l0 l1 l2 l3 h; cases h
  | succ f ih =>
    intro v1 v2 v3 lv m x l0 l1 l2 l3 h
    unfold D266_18 at h
    refine q_li (k := 1) (i := 2) (q := (.iload_n 2, 1, 0, 0, .null)) rfl (fun _ => rfl) l2 ?_
    refine q_lr (k := 1) (i := 0) (q := (.aload_n 0, 1, 0, 0, .null)) rfl (fun _ => rfl) l0 ?_
    refine r_gr (c := 80) H (pc := 20) rfl (by decide) (by decide) ?_
    refine r_s (fr' := (24, lv, [.int 0, .ref 80, .int v2])) (hp' := xW B m) (q := (.iconst 0, 1, 0, 0, .null)) rfl (fun _ => rfl) (Nat.le_refl _) ?_
    refine q_al (n := 148) (v := (m.1 80 0)) H (pc := 24) rfl (by decide) (by decide) rfl ?_
    refine r_ifc (len := 3) (a := 181) (b := 0) (v0 := .null) (cn := .ge) (off := 156) rfl (fun c => ?_) (fun c => ?_)
    · rw [if_pos c] at h
      obtain rfl := Option.some.inj h
      exact r_ret (q := (.return_, 1, 0, 0, .null)) rfl rfl (fun _ => rfl)
    · rw [if_neg (by rw [c]; decide)] at h
      refine q_li (k := 1) (i := 3) (q := (.iload_n 3, 1, 0, 0, .null)) rfl (fun _ => rfl) l3 ?_
      refine q_lr (k := 1) (i := 0) (q := (.aload_n 0, 1, 0, 0, .null)) rfl (fun _ => rfl) l0 ?_
      refine r_gr (c := 80) H (pc := 30) rfl (by decide) (by decide) ?_
      refine r_s (fr' := (34, lv, [.int 0, .ref 80, .int v3])) (hp' := xW B m) (q := (.iconst 0, 1, 0, 0, .null)) rfl (fun _ => rfl) (Nat.le_refl _) ?_
      refine q_al (n := 148) (v := (m.1 80 0)) H (pc := 34) rfl (by decide) (by decide) rfl ?_
      refine q_li (k := 1) (i := 2) (q := (.iload_n 2, 1, 0, 0, .null)) rfl (fun _ => rfl) l2 ?_
      obtain ⟨q36, h36, h⟩ := xbind h
      refine r_callS (as := [.int (m.1 80 0), .int v2]) (rest := [.int v3]) (rv := some (.int q36.1)) (hp' := xW B q36.2) (pc := 36) rfl xr235 rfl rfl rfl (Nat.le_of_ble_eq_true rfl) (Z235 H h36 (by omega)) (Nat.le_refl _) ?_
      refine r_ifc (len := 3) (a := 181) (b := 0) (v0 := .null) (cn := .ge) (off := 142) rfl (fun c => ?_) (fun c => ?_)
      · rw [if_pos c] at h
        obtain rfl := Option.some.inj h
        exact r_ret (q := (.return_, 1, 0, 0, .null)) rfl rfl (fun _ => rfl)
      · rw [if_neg (by rw [c]; decide)] at h
        refine q_lr (k := 1) (i := 0) (q := (.aload_n 0, 1, 0, 0, .null)) rfl (fun _ => rfl) l0 ?_
        refine q_li (k := 1) (i := 3) (q := (.iload_n 3, 1, 0, 0, .null)) rfl (fun _ => rfl) l3 ?_
        refine q_li (k := 1) (i := 2) (q := (.iload_n 2, 1, 0, 0, .null)) rfl (fun _ => rfl) l2 ?_
        refine q_li (k := 1) (i := 2) (q := (.iload_n 2, 1, 0, 0, .null)) rfl (fun _ => rfl) l2 ?_
        refine r_s (fr' := (47, lv, [.int 1, .int v2, .int v2, .int v3, .ref 70])) (hp' := xW B q36.2) (q := (.iconst 1, 1, 0, 0, .null)) rfl (fun _ => rfl) (Nat.le_refl _) ?_
        refine r_s (fr' := (48, lv, [.int (v2 - 1), .int v2, .int v3, .ref 70])) (hp' := xW B q36.2) (q := (.isub, 1, 0, 0, .null)) rfl (fun _ => rfl) (Nat.le_refl _) ?_
        obtain ⟨q48, h48, h⟩ := xbind h
        refine r_call (ix := 70) (as := [.int v3, .int v2, .int (v2 - 1)]) (rest := []) (rv := some (.int q48.1)) (hp' := xW B q48.2) (pc := 48) rfl xr236 rfl rfl rfl (xkd H (by decide)) (Nat.le_of_ble_eq_true rfl) (Z236 H h48 (by omega)) (Nat.le_refl _) ?_
        refine q_lr (k := 1) (i := 0) (q := (.aload_n 0, 1, 0, 0, .null)) rfl (fun _ => rfl) l0 ?_
        refine q_li (k := 1) (i := 1) (q := (.iload_n 1, 1, 0, 0, .null)) rfl (fun _ => rfl) l1 ?_
        refine r_s (fr' := (54, lv, [.int 3, .int v1, .ref 70, .int q48.1])) (hp' := xW B q48.2) (q := (.iconst 3, 1, 0, 0, .null)) rfl (fun _ => rfl) (Nat.le_refl _) ?_
        obtain ⟨q54, h54, h⟩ := xbind h
        refine r_call (ix := 70) (as := [.int v1, .int 3]) (rest := [.int q48.1]) (rv := some (.int q54.1)) (hp' := xW B q54.2) (pc := 54) rfl xr208 rfl rfl rfl (xkd H (by decide)) (Nat.le_of_ble_eq_true rfl) (Z208 H h54 (by omega)) (Nat.le_refl _) ?_
        refine r_ifc (len := 3) (a := 88) (b := 0) (v0 := .null) (cn := .ne) (off := 31) rfl (fun c => ?_) (fun c => ?_)
        · rw [if_pos c] at h
          exact T266_88 H he F _ ih l0 l1 l2 l3 h
        · rw [if_neg (by rw [c]; decide)] at h
          refine q_lr (k := 1) (i := 0) (q := (.aload_n 0, 1, 0, 0, .null)) rfl (fun _ => rfl) l0 ?_
          refine q_li (k := 1) (i := 3) (q := (.iload_n 3, 1, 0, 0, .null)) rfl (fun _ => rfl) l3 ?_
          refine q_li (k := 1) (i := 2) (q := (.iload_n 2, 1, 0, 0, .null)) rfl (fun _ => rfl) l2 ?_
          obtain ⟨q63, h63, h⟩ := xbind h
          refine r_call (ix := 70) (as := [.int v3, .int v2]) (rest := []) (rv := some (.int q63.1)) (hp' := xW B q63.2) (pc := 63) rfl xr237 rfl rfl rfl (xkd H (by decide)) (Nat.le_of_ble_eq_true rfl) (Z237 H h63 (by omega)) (Nat.le_refl _) ?_
          refine r_if (len := 3) (a := 88) (b := 0) (v0 := .null) (cn := .eq) (off := 22) rfl (fun c => ?_) (fun c => ?_)
          · rw [if_pos c] at h
            exact T266_88 H he F _ ih l0 l1 l2 l3 h
          · rw [if_neg (by rw [c]; decide)] at h
            refine q_lr (k := 1) (i := 0) (q := (.aload_n 0, 1, 0, 0, .null)) rfl (fun _ => rfl) l0 ?_
            refine q_li (k := 1) (i := 3) (q := (.iload_n 3, 1, 0, 0, .null)) rfl (fun _ => rfl) l3 ?_
            refine q_li (k := 1) (i := 2) (q := (.iload_n 2, 1, 0, 0, .null)) rfl (fun _ => rfl) l2 ?_
            refine q_lr (k := 1) (i := 0) (q := (.aload_n 0, 1, 0, 0, .null)) rfl (fun _ => rfl) l0 ?_
            refine q_li (k := 1) (i := 1) (q := (.iload_n 1, 1, 0, 0, .null)) rfl (fun _ => rfl) l1 ?_
            refine r_s (fr' := (75, lv, [.int 0, .int v1, .ref 70, .int v2, .int v3, .ref 70])) (hp' := xW B q63.2) (q := (.iconst 0, 1, 0, 0, .null)) rfl (fun _ => rfl) (Nat.le_refl _) ?_
            obtain ⟨q75, h75, h⟩ := xbind h
            refine r_call (ix := 70) (as := [.int v1, .int 0]) (rest := [.int v2, .int v3, .ref 70]) (rv := some (.int q75.1)) (hp' := xW B q75.2) (pc := 75) rfl xr208 rfl rfl rfl (xkd H (by decide)) (Nat.le_of_ble_eq_true rfl) (Z208 H h75 (by omega)) (Nat.le_refl _) ?_
            obtain ⟨q78, h78, h⟩ := xbind h
            refine r_call (ix := 70) (as := [.int v3, .int v2, .int q75.1]) (rest := []) (rv := some (.int q78.1)) (hp' := xW B q78.2) (pc := 78) rfl xr238 rfl rfl rfl (xkd H (by decide)) (Nat.le_of_ble_eq_true rfl) (Z238 H h78 (by omega)) (Nat.le_refl _) ?_
            refine r_if (len := 3) (a := 88) (b := 0) (v0 := .null) (cn := .ne) (off := 7) rfl (fun c => ?_) (fun c => ?_)
            · rw [if_pos c] at h
              exact T266_88 H he F _ ih l0 l1 l2 l3 h
            · rw [if_neg (by rw [c]; decide)] at h
              refine r_s (fr' := (85, lv, [.int 1])) (hp' := xW B q78.2) (q := (.iconst 1, 1, 0, 0, .null)) rfl (fun _ => rfl) (Nat.le_refl _) ?_
              refine r_s (fr' := (89, lv, [.int 1])) (hp' := xW B q78.2) (q := (.goto 4, 3, 89, 0, .null)) rfl (fun _ => rfl) (Nat.le_refl _) ?_
              exact T266_89 H he F _ ih l0 l1 l2 l3 h
def D266 (F : Nat) (v1 : Int32) (v2 : Int32) (m : xS) : Option (Unit × xS) :=
  D266_18 F F v1 v2 0 (xu (xu (xu m 70 32 0) 70 33 0) 70 34 (-2))
set_option maxRecDepth 20000 in
theorem T266 {B : zHp} (H : yH0 B) {e : Nat} (he : 4 ≤ e + 1) (F : Nat) {v1 : Int32} {v2 : Int32} {lv : List (Nat × Value)} {m : xS} {x : Unit × xS} (l0 : zld lv 0 = some (.ref 70)) (l1 : zld lv 1 = some (.int v1)) (l2 : zld lv 2 = some (.int v2)) (h : D266 F v1 v2 m = some x) : zR none e 6 none zc266 (0, lv, []) (xW B m) (none, xW B x.2) := by
  unfold D266 at h
  refine q_lr (k := 1) (i := 0) (q := (.aload_n 0, 1, 0, 0, .null)) rfl (fun _ => rfl) l0 ?_
  refine r_s (fr' := (2, lv, [.int 0, .ref 70])) (hp' := xW B m) (q := (.iconst 0, 1, 0, 0, .null)) rfl (fun _ => rfl) (Nat.le_refl _) ?_
  refine r_pi (s2 := (xu m 70 32 0)) H (pc := 2) rfl (by decide) rfl rfl ?_
  refine q_lr (k := 1) (i := 0) (q := (.aload_n 0, 1, 0, 0, .null)) rfl (fun _ => rfl) l0 ?_
  refine r_s (fr' := (7, lv, [.int 0, .ref 70])) (hp' := xW B (xu m 70 32 0)) (q := (.iconst 0, 1, 0, 0, .null)) rfl (fun _ => rfl) (Nat.le_refl _) ?_
  refine r_pi (s2 := (xu (xu m 70 32 0) 70 33 0)) H (pc := 7) rfl (by decide) rfl rfl ?_
  refine q_lr (k := 1) (i := 0) (q := (.aload_n 0, 1, 0, 0, .null)) rfl (fun _ => rfl) l0 ?_
  refine r_s (fr' := (13, lv, [.int (-2), .ref 70])) (hp' := xW B (xu (xu m 70 32 0) 70 33 0)) (q := (.bipush (-2), 2, 0, 0, .null)) rfl (fun _ => rfl) (Nat.le_refl _) ?_
  refine r_pi (s2 := (xu (xu (xu m 70 32 0) 70 33 0) 70 34 (-2))) H (pc := 13) rfl (by decide) rfl rfl ?_
  refine r_s (fr' := (17, lv, [.int 0])) (hp' := xW B (xu (xu (xu m 70 32 0) 70 33 0) 70 34 (-2))) (q := (.iconst 0, 1, 0, 0, .null)) rfl (fun _ => rfl) (Nat.le_refl _) ?_
  refine q_si (k := 1) (i := 3) (q := (.istore_n 3, 1, 0, 0, .null)) rfl (fun _ => rfl) (by decide) ?_
  have l0_1 : zld (zs1 lv 3 (.int 0)) 0 = some (.ref 70) := x_o1 l0 rfl rfl
  have l1_1 : zld (zs1 lv 3 (.int 0)) 1 = some (.int v1) := x_o1 l1 rfl rfl
  have l2_1 : zld (zs1 lv 3 (.int 0)) 2 = some (.int v2) := x_o1 l2 rfl rfl
  have l3_1 : zld (zs1 lv 3 (.int 0)) 3 = some (.int 0) := zs1_ld _ _ _
  generalize (zs1 lv 3 (.int 0)) = lv1 at *
  exact T266_18 H he F F l0_1 l1_1 l2_1 l3_1 h
set_option maxRecDepth 20000 in
theorem Z266 {B : zHp} (H : yH0 B) {F : Nat} {a1 : Int32} {a2 : Int32} {m : xS} {x : Unit × xS} (h : D266 F a1 a2 m = some x) {d : Nat} (hd : 4 ≤ d) : zCan d 266 [.ref 70, .int a1, .int a2] (xW B m) (none, xW B x.2) := by
  obtain ⟨e, rfl⟩ : ∃ e, d = e + 1 := ⟨d - 1, by omega⟩
  refine zCan_body (nL := 6) (rt := none) (cd := zc266) (xg266) ⟨Nat.le_of_ble_eq_true rfl, by decide⟩ (Nat.le_refl _) ?_
  exact T266 H hd F rfl rfl rfl h
/-- LentToolsModel.came -/
def D267_20 (F : Nat) (v1 : Int32) (v2 : Int32) (m : xS) : Option (Int32 × xS) :=
  some ((-1), m)
set_option maxRecDepth 20000 in
theorem T267_20 {B : zHp} (H : yH0 B) {e : Nat} (he : 5 ≤ e + 1) (F : Nat) {v1 : Int32} {v2 : Int32} {lv : List (Nat × Value)} {m : xS} {x : Int32 × xS} (l0 : zld lv 0 = some (.ref 70)) (l1 : zld lv 1 = some (.int v1)) (l2 : zld lv 2 = some (.int v2)) (h : D267_20 F v1 v2 m = some x) : zR none e 3 (some .int) zc267 (20, lv, []) (xW B m) (some (.int x.1), xW B x.2) := by
  unfold D267_20 at h
  refine r_s (fr' := (21, lv, [.int (-1)])) (hp' := xW B m) (q := (.iconst (-1), 1, 0, 0, .null)) rfl (fun _ => rfl) (Nat.le_refl _) ?_
  obtain rfl := Option.some.inj h
  exact q_ri (q := (.ireturn, 1, 0, 0, .null)) rfl (fun _ => rfl) rfl rfl
def D267 (F : Nat) (v1 : Int32) (v2 : Int32) (m : xS) : Option (Int32 × xS) :=
  (D206 F v1 m).bind fun q2 =>
    if zcmp .eq q2.1 0 = true then
      D267_20 F v1 v2 q2.2
    else
      (D158 F (v2 : Int32).toInt64 0 2 q2.2).bind fun q14 =>
        if zcmp .ne q14.1 0 = true then
          (D212 F v1 q14.2).bind fun q24 =>
            if zcmp .eq q24.1 0 = true then
              (D208 F v1 4 q24.2).bind fun q55 =>
                (D266 F v1 q55.1 q55.2).bind fun q58 =>
                  if zcmp .ne v2 0 = true then
                    if zcmp .ne v2 1 = true then
                      some ((q58.2.1 70 34), q58.2)
                    else
                      some ((q58.2.1 70 33), q58.2)
                  else
                    some ((q58.2.1 70 32), q58.2)
            else
              if zcmp .ne v2 0 = true then
                if zcmp .ne v2 1 = true then
                  some ((-2), q24.2)
                else
                  some (0, q24.2)
              else
                some (1, q24.2)
        else
          D267_20 F v1 v2 q14.2
set_option maxRecDepth 20000 in
theorem T267 {B : zHp} (H : yH0 B) {e : Nat} (he : 5 ≤ e + 1) (F : Nat) {v1 : Int32} {v2 : Int32} {lv : List (Nat × Value)} {m : xS} {x : Int32 × xS} (l0 : zld lv 0 = some (.ref 70)) (l1 : zld lv 1 = some (.int v1)) (l2 : zld lv 2 = some (.int v2)) (h : D267 F v1 v2 m = some x) : zR none e 3 (some .int) zc267 (0, lv, []) (xW B m) (some (.int x.1), xW B x.2) := by
  unfold D267 at h
  refine q_lr (k := 1) (i := 0) (q := (.aload_n 0, 1, 0, 0, .null)) rfl (fun _ => rfl) l0 ?_
  refine q_li (k := 1) (i := 1) (q := (.iload_n 1, 1, 0, 0, .null)) rfl (fun _ => rfl) l1 ?_
  obtain ⟨q2, h2, h⟩ := xbind h
  refine r_call (ix := 70) (as := [.int v1]) (rest := []) (rv := some (.int q2.1)) (hp' := xW B q2.2) (pc := 2) rfl xr206 rfl rfl rfl (xkd H (by decide)) (Nat.le_of_ble_eq_true rfl) (Z206 H h2 (by omega)) (Nat.le_refl _) ?_
  refine r_if (len := 3) (a := 20) (b := 0) (v0 := .null) (cn := .eq) (off := 15) rfl (fun c => ?_) (fun c => ?_)
  · rw [if_pos c] at h
    exact T267_20 H he F l0 l1 l2 h
  · rw [if_neg (by rw [c]; decide)] at h
    refine q_li (k := 1) (i := 2) (q := (.iload_n 2, 1, 0, 0, .null)) rfl (fun _ => rfl) l2 ?_
    refine r_s (fr' := (10, lv, [.long (v2 : Int32).toInt64])) (hp' := xW B q2.2) (q := (.i2l, 1, 0, 0, .null)) rfl (fun _ => rfl) (Nat.le_refl _) ?_
    refine r_s (fr' := (11, lv, [.long 0, .long (v2 : Int32).toInt64])) (hp' := xW B q2.2) (q := (.lconst 0, 1, 0, 0, .null)) rfl (fun _ => rfl) (Nat.le_refl _) ?_
    refine r_s (fr' := (14, lv, [.long 2, .long 0, .long (v2 : Int32).toInt64])) (hp' := xW B q2.2) (q := (.ldc2_w 440, 3, 0, 0, .long 2)) rfl (fun _ => rfl) (Nat.le_refl _) ?_
    obtain ⟨q14, h14, h⟩ := xbind h
    refine r_callS (as := [.long (v2 : Int32).toInt64, .long 0, .long 2]) (rest := []) (rv := some (.int q14.1)) (hp' := xW B q14.2) (pc := 14) rfl xr158 rfl rfl rfl (Nat.le_of_ble_eq_true rfl) (Z158 H h14 (by omega)) (Nat.le_refl _) ?_
    refine r_if (len := 3) (a := 22) (b := 0) (v0 := .null) (cn := .ne) (off := 5) rfl (fun c => ?_) (fun c => ?_)
    · rw [if_pos c] at h
      refine q_lr (k := 1) (i := 0) (q := (.aload_n 0, 1, 0, 0, .null)) rfl (fun _ => rfl) l0 ?_
      refine q_li (k := 1) (i := 1) (q := (.iload_n 1, 1, 0, 0, .null)) rfl (fun _ => rfl) l1 ?_
      obtain ⟨q24, h24, h⟩ := xbind h
      refine r_call (ix := 70) (as := [.int v1]) (rest := []) (rv := some (.int q24.1)) (hp' := xW B q24.2) (pc := 24) rfl xr212 rfl rfl rfl (xkd H (by decide)) (Nat.le_of_ble_eq_true rfl) (Z212 H h24 (by omega)) (Nat.le_refl _) ?_
      refine r_if (len := 3) (a := 50) (b := 0) (v0 := .null) (cn := .eq) (off := 23) rfl (fun c => ?_) (fun c => ?_)
      · rw [if_pos c] at h
        refine q_lr (k := 1) (i := 0) (q := (.aload_n 0, 1, 0, 0, .null)) rfl (fun _ => rfl) l0 ?_
        refine q_li (k := 1) (i := 1) (q := (.iload_n 1, 1, 0, 0, .null)) rfl (fun _ => rfl) l1 ?_
        refine q_lr (k := 1) (i := 0) (q := (.aload_n 0, 1, 0, 0, .null)) rfl (fun _ => rfl) l0 ?_
        refine q_li (k := 1) (i := 1) (q := (.iload_n 1, 1, 0, 0, .null)) rfl (fun _ => rfl) l1 ?_
        refine r_s (fr' := (55, lv, [.int 4, .int v1, .ref 70, .int v1, .ref 70])) (hp' := xW B q24.2) (q := (.iconst 4, 1, 0, 0, .null)) rfl (fun _ => rfl) (Nat.le_refl _) ?_
        obtain ⟨q55, h55, h⟩ := xbind h
        refine r_call (ix := 70) (as := [.int v1, .int 4]) (rest := [.int v1, .ref 70]) (rv := some (.int q55.1)) (hp' := xW B q55.2) (pc := 55) rfl xr208 rfl rfl rfl (xkd H (by decide)) (Nat.le_of_ble_eq_true rfl) (Z208 H h55 (by omega)) (Nat.le_refl _) ?_
        obtain ⟨q58, h58, h⟩ := xbind h
        refine r_call (ix := 70) (as := [.int v1, .int q55.1]) (rest := []) (rv := none) (hp' := xW B q58.2) (pc := 58) rfl xr266 rfl rfl rfl (xkd H (by decide)) (Nat.le_of_ble_eq_true rfl) (Z266 H h58 (by omega)) (Nat.le_refl _) ?_
        refine q_li (k := 1) (i := 2) (q := (.iload_n 2, 1, 0, 0, .null)) rfl (fun _ => rfl) l2 ?_
        refine r_if (len := 3) (a := 72) (b := 0) (v0 := .null) (cn := .ne) (off := 10) rfl (fun c => ?_) (fun c => ?_)
        · rw [if_pos c] at h
          refine q_li (k := 1) (i := 2) (q := (.iload_n 2, 1, 0, 0, .null)) rfl (fun _ => rfl) l2 ?_
          refine r_s (fr' := (74, lv, [.int 1, .int v2])) (hp' := xW B q58.2) (q := (.iconst 1, 1, 0, 0, .null)) rfl (fun _ => rfl) (Nat.le_refl _) ?_
          refine r_ifc (len := 3) (a := 84) (b := 0) (v0 := .null) (cn := .ne) (off := 10) rfl (fun c => ?_) (fun c => ?_)
          · rw [if_pos c] at h
            refine q_lr (k := 1) (i := 0) (q := (.aload_n 0, 1, 0, 0, .null)) rfl (fun _ => rfl) l0 ?_
            refine r_gi (v := (q58.2.1 70 34)) H (pc := 85) (i := _) rfl (by decide) (by decide) rfl ?_
            obtain rfl := Option.some.inj h
            exact q_ri (q := (.ireturn, 1, 0, 0, .null)) rfl (fun _ => rfl) rfl rfl
          · rw [if_neg (by rw [c]; decide)] at h
            refine q_lr (k := 1) (i := 0) (q := (.aload_n 0, 1, 0, 0, .null)) rfl (fun _ => rfl) l0 ?_
            refine r_gi (v := (q58.2.1 70 33)) H (pc := 78) (i := _) rfl (by decide) (by decide) rfl ?_
            refine r_s (fr' := (88, lv, [.int (q58.2.1 70 33)])) (hp' := xW B q58.2) (q := (.goto 7, 3, 88, 0, .null)) rfl (fun _ => rfl) (Nat.le_refl _) ?_
            obtain rfl := Option.some.inj h
            exact q_ri (q := (.ireturn, 1, 0, 0, .null)) rfl (fun _ => rfl) rfl rfl
        · rw [if_neg (by rw [c]; decide)] at h
          refine q_lr (k := 1) (i := 0) (q := (.aload_n 0, 1, 0, 0, .null)) rfl (fun _ => rfl) l0 ?_
          refine r_gi (v := (q58.2.1 70 32)) H (pc := 66) (i := _) rfl (by decide) (by decide) rfl ?_
          refine r_s (fr' := (88, lv, [.int (q58.2.1 70 32)])) (hp' := xW B q58.2) (q := (.goto 19, 3, 88, 0, .null)) rfl (fun _ => rfl) (Nat.le_refl _) ?_
          obtain rfl := Option.some.inj h
          exact q_ri (q := (.ireturn, 1, 0, 0, .null)) rfl (fun _ => rfl) rfl rfl
      · rw [if_neg (by rw [c]; decide)] at h
        refine q_li (k := 1) (i := 2) (q := (.iload_n 2, 1, 0, 0, .null)) rfl (fun _ => rfl) l2 ?_
        refine r_if (len := 3) (a := 38) (b := 0) (v0 := .null) (cn := .ne) (off := 7) rfl (fun c => ?_) (fun c => ?_)
        · rw [if_pos c] at h
          refine q_li (k := 1) (i := 2) (q := (.iload_n 2, 1, 0, 0, .null)) rfl (fun _ => rfl) l2 ?_
          refine r_s (fr' := (40, lv, [.int 1, .int v2])) (hp' := xW B q24.2) (q := (.iconst 1, 1, 0, 0, .null)) rfl (fun _ => rfl) (Nat.le_refl _) ?_
          refine r_ifc (len := 3) (a := 47) (b := 0) (v0 := .null) (cn := .ne) (off := 7) rfl (fun c => ?_) (fun c => ?_)
          · rw [if_pos c] at h
            refine r_s (fr' := (49, lv, [.int (-2)])) (hp' := xW B q24.2) (q := (.bipush (-2), 2, 0, 0, .null)) rfl (fun _ => rfl) (Nat.le_refl _) ?_
            obtain rfl := Option.some.inj h
            exact q_ri (q := (.ireturn, 1, 0, 0, .null)) rfl (fun _ => rfl) rfl rfl
          · rw [if_neg (by rw [c]; decide)] at h
            refine r_s (fr' := (44, lv, [.int 0])) (hp' := xW B q24.2) (q := (.iconst 0, 1, 0, 0, .null)) rfl (fun _ => rfl) (Nat.le_refl _) ?_
            refine r_s (fr' := (49, lv, [.int 0])) (hp' := xW B q24.2) (q := (.goto 5, 3, 49, 0, .null)) rfl (fun _ => rfl) (Nat.le_refl _) ?_
            obtain rfl := Option.some.inj h
            exact q_ri (q := (.ireturn, 1, 0, 0, .null)) rfl (fun _ => rfl) rfl rfl
        · rw [if_neg (by rw [c]; decide)] at h
          refine r_s (fr' := (35, lv, [.int 1])) (hp' := xW B q24.2) (q := (.iconst 1, 1, 0, 0, .null)) rfl (fun _ => rfl) (Nat.le_refl _) ?_
          refine r_s (fr' := (49, lv, [.int 1])) (hp' := xW B q24.2) (q := (.goto 14, 3, 49, 0, .null)) rfl (fun _ => rfl) (Nat.le_refl _) ?_
          obtain rfl := Option.some.inj h
          exact q_ri (q := (.ireturn, 1, 0, 0, .null)) rfl (fun _ => rfl) rfl rfl
    · rw [if_neg (by rw [c]; decide)] at h
      exact T267_20 H he F l0 l1 l2 h
set_option maxRecDepth 20000 in
theorem Z267 {B : zHp} (H : yH0 B) {F : Nat} {a1 : Int32} {a2 : Int32} {m : xS} {x : Int32 × xS} (h : D267 F a1 a2 m = some x) {d : Nat} (hd : 5 ≤ d) : zCan d 267 [.ref 70, .int a1, .int a2] (xW B m) (some (.int x.1), xW B x.2) := by
  obtain ⟨e, rfl⟩ : ∃ e, d = e + 1 := ⟨d - 1, by omega⟩
  refine zCan_body (nL := 3) (rt := (some .int)) (cd := zc267) (xg267) ⟨Nat.le_of_ble_eq_true rfl, by decide⟩ (Nat.le_refl _) ?_
  exact T267 H hd F rfl rfl rfl h
/-- LentToolsModel.keepsAct -/
def D220_52 (F : Nat) : Nat → Int32 → xS → Option (Unit × xS)
  | 0, _, _ => none
  | f + 1, v1, m =>
    if zcmp .ge v1 124 = true then
      some ((), (xu m 70 25 ((m.1 70 25) + 1)))
    else
      if xib v1 148 = true then
        if xib ((124 * (m.1 70 25)) + v1) 2480 = true then
          D220_52 F f (v1 + Int32.ofInt 1) (xu m 81 (((124 * (m.1 70 25)) + v1) : Int32).toNatClampNeg (m.1 80 (v1 : Int32).toNatClampNeg))
        else none
      else none
set_option maxRecDepth 20000 in
theorem T220_52 {B : zHp} (H : yH0 B) {e : Nat} (he : 1 ≤ e + 1) (F : Nat) : ∀ (f : Nat) {v1 : Int32} {lv : List (Nat × Value)} {m : xS} {x : Unit × xS}, zld lv 0 = some (.ref 70) → zld lv 1 = some (.int v1) → D220_52 F f v1 m = some x → zR none e 2 none zc220 (52, lv, []) (xW B m) (none, xW B x.2) := by
  intro f
  induction f with
  | zero => intro v1 lv m x l0 l1 h; cases h
  | succ f ih =>
    intro v1 lv m x l0 l1 h
    unfold D220_52 at h
    refine q_li (k := 1) (i := 1) (q := (.iload_n 1, 1, 0, 0, .null)) rfl (fun _ => rfl) l1 ?_
    refine r_s (fr' := (55, lv, [.int 124, .int v1])) (hp' := xW B m) (q := (.bipush 124, 2, 0, 0, .null)) rfl (fun _ => rfl) (Nat.le_refl _) ?_
    refine r_ifc (len := 3) (a := 84) (b := 0) (v0 := .null) (cn := .ge) (off := 29) rfl (fun c => ?_) (fun c => ?_)
    · rw [if_pos c] at h
      refine q_lr (k := 1) (i := 0) (q := (.aload_n 0, 1, 0, 0, .null)) rfl (fun _ => rfl) l0 ?_
      refine r_s (fr' := (86, lv, [.ref 70, .ref 70])) (hp' := xW B m) (q := (.dup, 1, 0, 0, .null)) rfl (fun _ => rfl) (Nat.le_refl _) ?_
      refine r_gi (v := (m.1 70 25)) H (pc := 86) (i := _) rfl (by decide) (by decide) rfl ?_
      refine r_s (fr' := (90, lv, [.int 1, .int (m.1 70 25), .ref 70])) (hp' := xW B m) (q := (.iconst 1, 1, 0, 0, .null)) rfl (fun _ => rfl) (Nat.le_refl _) ?_
      refine r_s (fr' := (91, lv, [.int ((m.1 70 25) + 1), .ref 70])) (hp' := xW B m) (q := (.iadd, 1, 0, 0, .null)) rfl (fun _ => rfl) (Nat.le_refl _) ?_
      refine r_pi (s2 := (xu m 70 25 ((m.1 70 25) + 1))) H (pc := 91) rfl (by decide) rfl rfl ?_
      obtain rfl := Option.some.inj h
      exact r_ret (q := (.return_, 1, 0, 0, .null)) rfl rfl (fun _ => rfl)
    · rw [if_neg (by rw [c]; decide)] at h
      refine q_lr (k := 1) (i := 0) (q := (.aload_n 0, 1, 0, 0, .null)) rfl (fun _ => rfl) l0 ?_
      refine r_gr (c := 81) H (pc := 59) rfl (by decide) (by decide) ?_
      refine r_s (fr' := (64, lv, [.int 124, .ref 81])) (hp' := xW B m) (q := (.bipush 124, 2, 0, 0, .null)) rfl (fun _ => rfl) (Nat.le_refl _) ?_
      refine q_lr (k := 1) (i := 0) (q := (.aload_n 0, 1, 0, 0, .null)) rfl (fun _ => rfl) l0 ?_
      refine r_gi (v := (m.1 70 25)) H (pc := 65) (i := _) rfl (by decide) (by decide) rfl ?_
      refine r_s (fr' := (69, lv, [.int (124 * (m.1 70 25)), .ref 81])) (hp' := xW B m) (q := (.imul, 1, 0, 0, .null)) rfl (fun _ => rfl) (Nat.le_refl _) ?_
      refine q_li (k := 1) (i := 1) (q := (.iload_n 1, 1, 0, 0, .null)) rfl (fun _ => rfl) l1 ?_
      refine r_s (fr' := (71, lv, [.int ((124 * (m.1 70 25)) + v1), .ref 81])) (hp' := xW B m) (q := (.iadd, 1, 0, 0, .null)) rfl (fun _ => rfl) (Nat.le_refl _) ?_
      refine q_lr (k := 1) (i := 0) (q := (.aload_n 0, 1, 0, 0, .null)) rfl (fun _ => rfl) l0 ?_
      refine r_gr (c := 80) H (pc := 72) rfl (by decide) (by decide) ?_
      refine q_li (k := 1) (i := 1) (q := (.iload_n 1, 1, 0, 0, .null)) rfl (fun _ => rfl) l1 ?_
      obtain ⟨c1, h⟩ := xif h
      refine q_al (n := 148) (v := (m.1 80 (v1 : Int32).toNatClampNeg)) H (pc := 76) rfl (by decide) c1 rfl ?_
      obtain ⟨c2, h⟩ := xif h
      refine q_as (n := 2480) (s2 := (xu m 81 (((124 * (m.1 70 25)) + v1) : Int32).toNatClampNeg (m.1 80 (v1 : Int32).toNatClampNeg))) H (pc := 77) rfl (by decide) c2 rfl ?_
      refine q_inc (i := 1) (n := 1) (q := (.iinc 1 1, 3, 0, 0, .null)) rfl (fun _ => rfl) l1 (by decide) ?_
      have l0_3 : zld (zs1 lv 1 (.int (v1 + Int32.ofInt 1))) 0 = some (.ref 70) := x_o1 l0 rfl rfl
      have l1_3 : zld (zs1 lv 1 (.int (v1 + Int32.ofInt 1))) 1 = some (.int (v1 + Int32.ofInt 1)) := zs1_ld _ _ _
      generalize (zs1 lv 1 (.int (v1 + Int32.ofInt 1))) = lv3 at *
      refine r_s (fr' := (52, lv3, [])) (hp' := xW B (xu m 81 (((124 * (m.1 70 25)) + v1) : Int32).toNatClampNeg (m.1 80 (v1 : Int32).toNatClampNeg))) (q := (.goto (-29), 3, 52, 0, .null)) rfl (fun _ => rfl) (Nat.le_refl _) ?_
      exact ih l0_3 l1_3 h
def D220_50 (F : Nat) (m : xS) : Option (Unit × xS) :=
  D220_52 F F 0 m
set_option maxRecDepth 20000 in
theorem T220_50 {B : zHp} (H : yH0 B) {e : Nat} (he : 1 ≤ e + 1) (F : Nat) {lv : List (Nat × Value)} {m : xS} {x : Unit × xS} (l0 : zld lv 0 = some (.ref 70)) (h : D220_50 F m = some x) : zR none e 2 none zc220 (50, lv, []) (xW B m) (none, xW B x.2) := by
  unfold D220_50 at h
  refine r_s (fr' := (51, lv, [.int 0])) (hp' := xW B m) (q := (.iconst 0, 1, 0, 0, .null)) rfl (fun _ => rfl) (Nat.le_refl _) ?_
  refine q_si (k := 1) (i := 1) (q := (.istore_n 1, 1, 0, 0, .null)) rfl (fun _ => rfl) (by decide) ?_
  have l0_1 : zld (zs1 lv 1 (.int 0)) 0 = some (.ref 70) := x_o1 l0 rfl rfl
  have l1_1 : zld (zs1 lv 1 (.int 0)) 1 = some (.int 0) := zs1_ld _ _ _
  generalize (zs1 lv 1 (.int 0)) = lv1 at *
  exact T220_52 H he F F l0_1 l1_1 h
def D220_12 (F : Nat) : Nat → Int32 → xS → Option (Unit × xS)
  | 0, _, _ => none
  | f + 1, v1, m =>
    if zcmp .ge v1 2480 = true then
      D220_50 F (xu m 70 25 ((m.1 70 25) - 1))
    else
      if xib v1 2480 = true then
        if xib (v1 - 124) 2480 = true then
          D220_12 F f (v1 + Int32.ofInt 1) (xu m 81 ((v1 - 124) : Int32).toNatClampNeg (m.1 81 (v1 : Int32).toNatClampNeg))
        else none
      else none
set_option maxRecDepth 20000 in
theorem T220_12 {B : zHp} (H : yH0 B) {e : Nat} (he : 1 ≤ e + 1) (F : Nat) : ∀ (f : Nat) {v1 : Int32} {lv : List (Nat × Value)} {m : xS} {x : Unit × xS}, zld lv 0 = some (.ref 70) → zld lv 1 = some (.int v1) → D220_12 F f v1 m = some x → zR none e 2 none zc220 (12, lv, []) (xW B m) (none, xW B x.2) := by
  intro f
  induction f with
  | zero => intro v1 lv m x l0 l1 h; cases h
  | succ f ih =>
    intro v1 lv m x l0 l1 h
    unfold D220_12 at h
    refine q_li (k := 1) (i := 1) (q := (.iload_n 1, 1, 0, 0, .null)) rfl (fun _ => rfl) l1 ?_
    refine r_s (fr' := (16, lv, [.int 2480, .int v1])) (hp' := xW B m) (q := (.sipush 2480, 3, 0, 0, .null)) rfl (fun _ => rfl) (Nat.le_refl _) ?_
    refine r_ifc (len := 3) (a := 40) (b := 0) (v0 := .null) (cn := .ge) (off := 24) rfl (fun c => ?_) (fun c => ?_)
    · rw [if_pos c] at h
      refine q_lr (k := 1) (i := 0) (q := (.aload_n 0, 1, 0, 0, .null)) rfl (fun _ => rfl) l0 ?_
      refine r_s (fr' := (42, lv, [.ref 70, .ref 70])) (hp' := xW B m) (q := (.dup, 1, 0, 0, .null)) rfl (fun _ => rfl) (Nat.le_refl _) ?_
      refine r_gi (v := (m.1 70 25)) H (pc := 42) (i := _) rfl (by decide) (by decide) rfl ?_
      refine r_s (fr' := (46, lv, [.int 1, .int (m.1 70 25), .ref 70])) (hp' := xW B m) (q := (.iconst 1, 1, 0, 0, .null)) rfl (fun _ => rfl) (Nat.le_refl _) ?_
      refine r_s (fr' := (47, lv, [.int ((m.1 70 25) - 1), .ref 70])) (hp' := xW B m) (q := (.isub, 1, 0, 0, .null)) rfl (fun _ => rfl) (Nat.le_refl _) ?_
      refine r_pi (s2 := (xu m 70 25 ((m.1 70 25) - 1))) H (pc := 47) rfl (by decide) rfl rfl ?_
      exact T220_50 H he F l0 h
    · rw [if_neg (by rw [c]; decide)] at h
      refine q_lr (k := 1) (i := 0) (q := (.aload_n 0, 1, 0, 0, .null)) rfl (fun _ => rfl) l0 ?_
      refine r_gr (c := 81) H (pc := 20) rfl (by decide) (by decide) ?_
      refine q_li (k := 1) (i := 1) (q := (.iload_n 1, 1, 0, 0, .null)) rfl (fun _ => rfl) l1 ?_
      refine r_s (fr' := (26, lv, [.int 124, .int v1, .ref 81])) (hp' := xW B m) (q := (.bipush 124, 2, 0, 0, .null)) rfl (fun _ => rfl) (Nat.le_refl _) ?_
      refine r_s (fr' := (27, lv, [.int (v1 - 124), .ref 81])) (hp' := xW B m) (q := (.isub, 1, 0, 0, .null)) rfl (fun _ => rfl) (Nat.le_refl _) ?_
      refine q_lr (k := 1) (i := 0) (q := (.aload_n 0, 1, 0, 0, .null)) rfl (fun _ => rfl) l0 ?_
      refine r_gr (c := 81) H (pc := 28) rfl (by decide) (by decide) ?_
      refine q_li (k := 1) (i := 1) (q := (.iload_n 1, 1, 0, 0, .null)) rfl (fun _ => rfl) l1 ?_
      obtain ⟨c1, h⟩ := xif h
      refine q_al (n := 2480) (v := (m.1 81 (v1 : Int32).toNatClampNeg)) H (pc := 32) rfl (by decide) c1 rfl ?_
      obtain ⟨c2, h⟩ := xif h
      refine q_as (n := 2480) (s2 := (xu m 81 ((v1 - 124) : Int32).toNatClampNeg (m.1 81 (v1 : Int32).toNatClampNeg))) H (pc := 33) rfl (by decide) c2 rfl ?_
      refine q_inc (i := 1) (n := 1) (q := (.iinc 1 1, 3, 0, 0, .null)) rfl (fun _ => rfl) l1 (by decide) ?_
      have l0_3 : zld (zs1 lv 1 (.int (v1 + Int32.ofInt 1))) 0 = some (.ref 70) := x_o1 l0 rfl rfl
      have l1_3 : zld (zs1 lv 1 (.int (v1 + Int32.ofInt 1))) 1 = some (.int (v1 + Int32.ofInt 1)) := zs1_ld _ _ _
      generalize (zs1 lv 1 (.int (v1 + Int32.ofInt 1))) = lv3 at *
      refine r_s (fr' := (12, lv3, [])) (hp' := xW B (xu m 81 ((v1 - 124) : Int32).toNatClampNeg (m.1 81 (v1 : Int32).toNatClampNeg))) (q := (.goto (-25), 3, 12, 0, .null)) rfl (fun _ => rfl) (Nat.le_refl _) ?_
      exact ih l0_3 l1_3 h
def D220 (F : Nat) (m : xS) : Option (Unit × xS) :=
  if zcmp .ne (m.1 70 25) 20 = true then
    D220_50 F m
  else
    D220_12 F F 124 m
set_option maxRecDepth 20000 in
theorem T220 {B : zHp} (H : yH0 B) {e : Nat} (he : 1 ≤ e + 1) (F : Nat) {lv : List (Nat × Value)} {m : xS} {x : Unit × xS} (l0 : zld lv 0 = some (.ref 70)) (h : D220 F m = some x) : zR none e 2 none zc220 (0, lv, []) (xW B m) (none, xW B x.2) := by
  unfold D220 at h
  refine q_lr (k := 1) (i := 0) (q := (.aload_n 0, 1, 0, 0, .null)) rfl (fun _ => rfl) l0 ?_
  refine r_gi (v := (m.1 70 25)) H (pc := 1) (i := _) rfl (by decide) (by decide) rfl ?_
  refine r_s (fr' := (6, lv, [.int 20, .int (m.1 70 25)])) (hp' := xW B m) (q := (.bipush 20, 2, 0, 0, .null)) rfl (fun _ => rfl) (Nat.le_refl _) ?_
  refine r_ifc (len := 3) (a := 50) (b := 0) (v0 := .null) (cn := .ne) (off := 44) rfl (fun c => ?_) (fun c => ?_)
  · rw [if_pos c] at h
    exact T220_50 H he F l0 h
  · rw [if_neg (by rw [c]; decide)] at h
    refine r_s (fr' := (11, lv, [.int 124])) (hp' := xW B m) (q := (.bipush 124, 2, 0, 0, .null)) rfl (fun _ => rfl) (Nat.le_refl _) ?_
    refine q_si (k := 1) (i := 1) (q := (.istore_n 1, 1, 0, 0, .null)) rfl (fun _ => rfl) (by decide) ?_
    have l0_1 : zld (zs1 lv 1 (.int 124)) 0 = some (.ref 70) := x_o1 l0 rfl rfl
    have l1_1 : zld (zs1 lv 1 (.int 124)) 1 = some (.int 124) := zs1_ld _ _ _
    generalize (zs1 lv 1 (.int 124)) = lv1 at *
    exact T220_12 H he F F l0_1 l1_1 h
set_option maxRecDepth 20000 in
theorem Z220 {B : zHp} (H : yH0 B) {F : Nat} {m : xS} {x : Unit × xS} (h : D220 F m = some x) {d : Nat} (hd : 1 ≤ d) : zCan d 220 [.ref 70] (xW B m) (none, xW B x.2) := by
  obtain ⟨e, rfl⟩ : ∃ e, d = e + 1 := ⟨d - 1, by omega⟩
  refine zCan_body (nL := 2) (rt := none) (cd := zc220) (xg220) ⟨Nat.le_of_ble_eq_true rfl, by decide⟩ (Nat.le_refl _) ?_
  exact T220 H hd F rfl h
