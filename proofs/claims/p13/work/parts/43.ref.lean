/-! Methods as functions over the memory. -/
set_option maxRecDepth 4000 in
theorem xg158 : zg zms 158 = some (zm158.2.2.1, zm158.2.2.2.1, zc158) := rfl
theorem xr158 : zar 158 = (3, 200) := by decide +kernel
set_option maxRecDepth 4000 in
theorem xg163 : zg zms 163 = some (zm163.2.2.1, zm163.2.2.2.1, zc163) := rfl
theorem xr163 : zar 163 = (2, 11) := by decide +kernel
set_option maxRecDepth 4000 in
theorem xg164 : zg zms 164 = some (zm164.2.2.1, zm164.2.2.2.1, zc164) := rfl
theorem xr164 : zar 164 = (0, 11) := by decide +kernel
set_option maxRecDepth 4000 in
theorem xg165 : zg zms 165 = some (zm165.2.2.1, zm165.2.2.2.1, zc165) := rfl
theorem xr165 : zar 165 = (1, 11) := by decide +kernel
set_option maxRecDepth 4000 in
theorem xg166 : zg zms 166 = some (zm166.2.2.1, zm166.2.2.2.1, zc166) := rfl
theorem xr166 : zar 166 = (1, 11) := by decide +kernel
set_option maxRecDepth 4000 in
theorem xg167 : zg zms 167 = some (zm167.2.2.1, zm167.2.2.2.1, zc167) := rfl
theorem xr167 : zar 167 = (1, 11) := by decide +kernel
set_option maxRecDepth 4000 in
theorem xg168 : zg zms 168 = some (zm168.2.2.1, zm168.2.2.2.1, zc168) := rfl
theorem xr168 : zar 168 = (0, 11) := by decide +kernel
set_option maxRecDepth 4000 in
theorem xg169 : zg zms 169 = some (zm169.2.2.1, zm169.2.2.2.1, zc169) := rfl
theorem xr169 : zar 169 = (1, 11) := by decide +kernel
set_option maxRecDepth 4000 in
theorem xg170 : zg zms 170 = some (zm170.2.2.1, zm170.2.2.2.1, zc170) := rfl
theorem xr170 : zar 170 = (2, 11) := by decide +kernel
set_option maxRecDepth 4000 in
theorem xg171 : zg zms 171 = some (zm171.2.2.1, zm171.2.2.2.1, zc171) := rfl
theorem xr171 : zar 171 = (0, 11) := by decide +kernel
set_option maxRecDepth 4000 in
theorem xg172 : zg zms 172 = some (zm172.2.2.1, zm172.2.2.2.1, zc172) := rfl
theorem xr172 : zar 172 = (2, 11) := by decide +kernel
set_option maxRecDepth 4000 in
theorem xg173 : zg zms 173 = some (zm173.2.2.1, zm173.2.2.2.1, zc173) := rfl
theorem xr173 : zar 173 = (1, 11) := by decide +kernel
set_option maxRecDepth 4000 in
theorem xg174 : zg zms 174 = some (zm174.2.2.1, zm174.2.2.2.1, zc174) := rfl
theorem xr174 : zar 174 = (1, 11) := by decide +kernel
set_option maxRecDepth 4000 in
theorem xg175 : zg zms 175 = some (zm175.2.2.1, zm175.2.2.2.1, zc175) := rfl
theorem xr175 : zar 175 = (1, 200) := by decide +kernel
set_option maxRecDepth 4000 in
theorem xg176 : zg zms 176 = some (zm176.2.2.1, zm176.2.2.2.1, zc176) := rfl
theorem xr176 : zar 176 = (1, 11) := by decide +kernel
set_option maxRecDepth 4000 in
theorem xg177 : zg zms 177 = some (zm177.2.2.1, zm177.2.2.2.1, zc177) := rfl
theorem xr177 : zar 177 = (0, 11) := by decide +kernel
set_option maxRecDepth 4000 in
theorem xg178 : zg zms 178 = some (zm178.2.2.1, zm178.2.2.2.1, zc178) := rfl
theorem xr178 : zar 178 = (0, 11) := by decide +kernel
set_option maxRecDepth 4000 in
theorem xg179 : zg zms 179 = some (zm179.2.2.1, zm179.2.2.2.1, zc179) := rfl
theorem xr179 : zar 179 = (0, 11) := by decide +kernel
set_option maxRecDepth 4000 in
theorem xg180 : zg zms 180 = some (zm180.2.2.1, zm180.2.2.2.1, zc180) := rfl
theorem xr180 : zar 180 = (0, 11) := by decide +kernel
set_option maxRecDepth 4000 in
theorem xg181 : zg zms 181 = some (zm181.2.2.1, zm181.2.2.2.1, zc181) := rfl
theorem xr181 : zar 181 = (0, 11) := by decide +kernel
set_option maxRecDepth 4000 in
theorem xg182 : zg zms 182 = some (zm182.2.2.1, zm182.2.2.2.1, zc182) := rfl
theorem xr182 : zar 182 = (0, 11) := by decide +kernel
set_option maxRecDepth 4000 in
theorem xg183 : zg zms 183 = some (zm183.2.2.1, zm183.2.2.2.1, zc183) := rfl
theorem xr183 : zar 183 = (0, 11) := by decide +kernel
set_option maxRecDepth 4000 in
theorem xg184 : zg zms 184 = some (zm184.2.2.1, zm184.2.2.2.1, zc184) := rfl
theorem xr184 : zar 184 = (0, 11) := by decide +kernel
set_option maxRecDepth 4000 in
theorem xg185 : zg zms 185 = some (zm185.2.2.1, zm185.2.2.2.1, zc185) := rfl
theorem xr185 : zar 185 = (0, 11) := by decide +kernel
set_option maxRecDepth 4000 in
theorem xg186 : zg zms 186 = some (zm186.2.2.1, zm186.2.2.2.1, zc186) := rfl
theorem xr186 : zar 186 = (3, 11) := by decide +kernel
set_option maxRecDepth 4000 in
theorem xg187 : zg zms 187 = some (zm187.2.2.1, zm187.2.2.2.1, zc187) := rfl
theorem xr187 : zar 187 = (1, 11) := by decide +kernel
set_option maxRecDepth 4000 in
theorem xg188 : zg zms 188 = some (zm188.2.2.1, zm188.2.2.2.1, zc188) := rfl
theorem xr188 : zar 188 = (1, 11) := by decide +kernel
set_option maxRecDepth 4000 in
theorem xg189 : zg zms 189 = some (zm189.2.2.1, zm189.2.2.2.1, zc189) := rfl
theorem xr189 : zar 189 = (0, 11) := by decide +kernel
set_option maxRecDepth 4000 in
theorem xg190 : zg zms 190 = some (zm190.2.2.1, zm190.2.2.2.1, zc190) := rfl
theorem xr190 : zar 190 = (0, 11) := by decide +kernel
set_option maxRecDepth 4000 in
theorem xg191 : zg zms 191 = some (zm191.2.2.1, zm191.2.2.2.1, zc191) := rfl
theorem xr191 : zar 191 = (0, 11) := by decide +kernel
set_option maxRecDepth 4000 in
theorem xg192 : zg zms 192 = some (zm192.2.2.1, zm192.2.2.2.1, zc192) := rfl
theorem xr192 : zar 192 = (1, 11) := by decide +kernel
set_option maxRecDepth 4000 in
theorem xg193 : zg zms 193 = some (zm193.2.2.1, zm193.2.2.2.1, zc193) := rfl
theorem xr193 : zar 193 = (1, 11) := by decide +kernel
set_option maxRecDepth 4000 in
theorem xg194 : zg zms 194 = some (zm194.2.2.1, zm194.2.2.2.1, zc194) := rfl
theorem xr194 : zar 194 = (0, 11) := by decide +kernel
set_option maxRecDepth 4000 in
theorem xg195 : zg zms 195 = some (zm195.2.2.1, zm195.2.2.2.1, zc195) := rfl
theorem xr195 : zar 195 = (0, 11) := by decide +kernel
set_option maxRecDepth 4000 in
theorem xg196 : zg zms 196 = some (zm196.2.2.1, zm196.2.2.2.1, zc196) := rfl
theorem xr196 : zar 196 = (0, 11) := by decide +kernel
set_option maxRecDepth 4000 in
theorem xg197 : zg zms 197 = some (zm197.2.2.1, zm197.2.2.2.1, zc197) := rfl
theorem xr197 : zar 197 = (0, 11) := by decide +kernel
set_option maxRecDepth 4000 in
theorem xg198 : zg zms 198 = some (zm198.2.2.1, zm198.2.2.2.1, zc198) := rfl
theorem xr198 : zar 198 = (0, 11) := by decide +kernel
/-- LentToolsModel.see -/
def D164_38 (F : Nat) (m : xS) : Option (Int32 × xS) :=
  if zcmp .ge (m.1 70 8) (m.1 70 1) = true then
    some ((-1), m)
  else
    if xib (m.1 70 8) 400 = true then
      some (((m.1 71 ((m.1 70 8) : Int32).toNatClampNeg) &&& 255), m)
    else none
set_option maxRecDepth 20000 in
theorem T164_38 {B : zHp} (H : yH0 B) {e : Nat} (he : 1 ≤ e + 1) (F : Nat) {lv : List (Nat × Value)} {m : xS} {x : Int32 × xS} (l0 : zld lv 0 = some (.ref 70)) (h : D164_38 F m = some x) : zR none e 1 (some .int) zc164 (38, lv, []) (xW B m) (some (.int x.1), xW B x.2) := by
  unfold D164_38 at h
  refine q_lr (k := 1) (i := 0) (q := (.aload_n 0, 1, 0, 0, .null)) rfl (fun _ => rfl) l0 ?_
  refine r_gi (v := (m.1 70 8)) H (pc := 39) (i := _) rfl (by decide) (by decide) rfl ?_
  refine q_lr (k := 1) (i := 0) (q := (.aload_n 0, 1, 0, 0, .null)) rfl (fun _ => rfl) l0 ?_
  refine r_gi (v := (m.1 70 1)) H (pc := 43) (i := _) rfl (by decide) (by decide) rfl ?_
  refine r_ifc (len := 3) (a := 65) (b := 0) (v0 := .null) (cn := .ge) (off := 19) rfl (fun c => ?_) (fun c => ?_)
  · rw [if_pos c] at h
    refine r_s (fr' := (66, lv, [.int (-1)])) (hp' := xW B m) (q := (.iconst (-1), 1, 0, 0, .null)) rfl (fun _ => rfl) (Nat.le_refl _) ?_
    obtain rfl := Option.some.inj h
    exact q_ri (q := (.ireturn, 1, 0, 0, .null)) rfl (fun _ => rfl) rfl rfl
  · rw [if_neg (by rw [c]; decide)] at h
    refine q_lr (k := 1) (i := 0) (q := (.aload_n 0, 1, 0, 0, .null)) rfl (fun _ => rfl) l0 ?_
    refine r_gr (c := 71) H (pc := 50) rfl (by decide) (by decide) ?_
    refine q_lr (k := 1) (i := 0) (q := (.aload_n 0, 1, 0, 0, .null)) rfl (fun _ => rfl) l0 ?_
    refine r_gi (v := (m.1 70 8)) H (pc := 54) (i := _) rfl (by decide) (by decide) rfl ?_
    obtain ⟨c1, h⟩ := xif h
    refine q_bl (n := 400) (v := (m.1 71 ((m.1 70 8) : Int32).toNatClampNeg)) (k := 1) H (pc := 57) rfl (by decide) (by decide) c1 rfl ?_
    refine r_s (fr' := (61, lv, [.int 255, .int (m.1 71 ((m.1 70 8) : Int32).toNatClampNeg)])) (hp' := xW B m) (q := (.sipush 255, 3, 0, 0, .null)) rfl (fun _ => rfl) (Nat.le_refl _) ?_
    refine r_s (fr' := (62, lv, [.int ((m.1 71 ((m.1 70 8) : Int32).toNatClampNeg) &&& 255)])) (hp' := xW B m) (q := (.iand, 1, 0, 0, .null)) rfl (fun _ => rfl) (Nat.le_refl _) ?_
    refine r_s (fr' := (66, lv, [.int ((m.1 71 ((m.1 70 8) : Int32).toNatClampNeg) &&& 255)])) (hp' := xW B m) (q := (.goto 4, 3, 66, 0, .null)) rfl (fun _ => rfl) (Nat.le_refl _) ?_
    obtain rfl := Option.some.inj h
    exact q_ri (q := (.ireturn, 1, 0, 0, .null)) rfl (fun _ => rfl) rfl rfl
def D164_0 (F : Nat) : Nat → xS → Option (Int32 × xS)
  | 0, _ => none
  | f + 1, m =>
    if zcmp .ge (m.1 70 8) (m.1 70 1) = true then
      D164_38 F m
    else
      if xib (m.1 70 8) 400 = true then
        if zcmp .ne (m.1 71 ((m.1 70 8) : Int32).toNatClampNeg) 32 = true then
          D164_38 F m
        else
          D164_0 F f (xu m 70 8 ((m.1 70 8) + 1))
      else none
set_option maxRecDepth 20000 in
theorem T164_0 {B : zHp} (H : yH0 B) {e : Nat} (he : 1 ≤ e + 1) (F : Nat) : ∀ (f : Nat) {lv : List (Nat × Value)} {m : xS} {x : Int32 × xS}, zld lv 0 = some (.ref 70) → D164_0 F f m = some x → zR none e 1 (some .int) zc164 (0, lv, []) (xW B m) (some (.int x.1), xW B x.2) := by
  intro f
  induction f with
  | zero => intro lv m x l0 h; cases h
  | succ f ih =>
    intro lv m x l0 h
    unfold D164_0 at h
    refine q_lr (k := 1) (i := 0) (q := (.aload_n 0, 1, 0, 0, .null)) rfl (fun _ => rfl) l0 ?_
    refine r_gi (v := (m.1 70 8)) H (pc := 1) (i := _) rfl (by decide) (by decide) rfl ?_
    refine q_lr (k := 1) (i := 0) (q := (.aload_n 0, 1, 0, 0, .null)) rfl (fun _ => rfl) l0 ?_
    refine r_gi (v := (m.1 70 1)) H (pc := 5) (i := _) rfl (by decide) (by decide) rfl ?_
    refine r_ifc (len := 3) (a := 38) (b := 0) (v0 := .null) (cn := .ge) (off := 30) rfl (fun c => ?_) (fun c => ?_)
    · rw [if_pos c] at h
      exact T164_38 H he F l0 h
    · rw [if_neg (by rw [c]; decide)] at h
      refine q_lr (k := 1) (i := 0) (q := (.aload_n 0, 1, 0, 0, .null)) rfl (fun _ => rfl) l0 ?_
      refine r_gr (c := 71) H (pc := 12) rfl (by decide) (by decide) ?_
      refine q_lr (k := 1) (i := 0) (q := (.aload_n 0, 1, 0, 0, .null)) rfl (fun _ => rfl) l0 ?_
      refine r_gi (v := (m.1 70 8)) H (pc := 16) (i := _) rfl (by decide) (by decide) rfl ?_
      obtain ⟨c1, h⟩ := xif h
      refine q_bl (n := 400) (v := (m.1 71 ((m.1 70 8) : Int32).toNatClampNeg)) (k := 1) H (pc := 19) rfl (by decide) (by decide) c1 rfl ?_
      refine r_s (fr' := (22, lv, [.int 32, .int (m.1 71 ((m.1 70 8) : Int32).toNatClampNeg)])) (hp' := xW B m) (q := (.bipush 32, 2, 0, 0, .null)) rfl (fun _ => rfl) (Nat.le_refl _) ?_
      refine r_ifc (len := 3) (a := 38) (b := 0) (v0 := .null) (cn := .ne) (off := 16) rfl (fun c => ?_) (fun c => ?_)
      · rw [if_pos c] at h
        exact T164_38 H he F l0 h
      · rw [if_neg (by rw [c]; decide)] at h
        refine q_lr (k := 1) (i := 0) (q := (.aload_n 0, 1, 0, 0, .null)) rfl (fun _ => rfl) l0 ?_
        refine r_s (fr' := (27, lv, [.ref 70, .ref 70])) (hp' := xW B m) (q := (.dup, 1, 0, 0, .null)) rfl (fun _ => rfl) (Nat.le_refl _) ?_
        refine r_gi (v := (m.1 70 8)) H (pc := 27) (i := _) rfl (by decide) (by decide) rfl ?_
        refine r_s (fr' := (31, lv, [.int 1, .int (m.1 70 8), .ref 70])) (hp' := xW B m) (q := (.iconst 1, 1, 0, 0, .null)) rfl (fun _ => rfl) (Nat.le_refl _) ?_
        refine r_s (fr' := (32, lv, [.int ((m.1 70 8) + 1), .ref 70])) (hp' := xW B m) (q := (.iadd, 1, 0, 0, .null)) rfl (fun _ => rfl) (Nat.le_refl _) ?_
        refine r_pi (s2 := (xu m 70 8 ((m.1 70 8) + 1))) H (pc := 32) rfl (by decide) rfl rfl ?_
        refine r_s (fr' := (0, lv, [])) (hp' := xW B (xu m 70 8 ((m.1 70 8) + 1))) (q := (.goto (-35), 3, 0, 0, .null)) rfl (fun _ => rfl) (Nat.le_refl _) ?_
        exact ih l0 h
def D164 (F : Nat) (m : xS) : Option (Int32 × xS) := D164_0 F F m
set_option maxRecDepth 20000 in
theorem Z164 {B : zHp} (H : yH0 B) {F : Nat} {m : xS} {x : Int32 × xS} (h : D164 F m = some x) {d : Nat} (hd : 1 ≤ d) : zCan d 164 [.ref 70] (xW B m) (some (.int x.1), xW B x.2) := by
  obtain ⟨e, rfl⟩ : ∃ e, d = e + 1 := ⟨d - 1, by omega⟩
  refine zCan_body (nL := 1) (rt := (some .int)) (cd := zc164) (xg164) ⟨Nat.le_of_ble_eq_true rfl, by decide⟩ (Nat.le_refl _) ?_
  exact T164_0 H hd F F rfl h
/-- LentToolsModel.isLetter -/
def D166_34 (F : Nat) (v1 : Int32) (m : xS) : Option (Int32 × xS) :=
  some (0, m)
set_option maxRecDepth 20000 in
theorem T166_34 {B : zHp} (H : yH0 B) {e : Nat} (he : 1 ≤ e + 1) (F : Nat) {v1 : Int32} {lv : List (Nat × Value)} {m : xS} {x : Int32 × xS} (l0 : zld lv 0 = some (.ref 70)) (l1 : zld lv 1 = some (.int v1)) (h : D166_34 F v1 m = some x) : zR none e 2 (some .boolean) zc166 (34, lv, []) (xW B m) (some (.int x.1), xW B x.2) := by
  unfold D166_34 at h
  refine r_s (fr' := (35, lv, [.int 0])) (hp' := xW B m) (q := (.iconst 0, 1, 0, 0, .null)) rfl (fun _ => rfl) (Nat.le_refl _) ?_
  obtain rfl := Option.some.inj h
  exact q_ri (q := (.ireturn, 1, 0, 0, .null)) rfl (fun _ => rfl) rfl rfl
def D166 (F : Nat) (v1 : Int32) (m : xS) : Option (Int32 × xS) :=
  if zcmp .ge v1 (m.1 70 1) = true then
    D166_34 F v1 m
  else
    if xib v1 400 = true then
      if zcmp .lt (m.1 71 (v1 : Int32).toNatClampNeg) 97 = true then
        D166_34 F v1 m
      else
        if xib v1 400 = true then
          if zcmp .gt (m.1 71 (v1 : Int32).toNatClampNeg) 122 = true then
            D166_34 F v1 m
          else
            some (1, m)
        else none
    else none
set_option maxRecDepth 20000 in
theorem T166 {B : zHp} (H : yH0 B) {e : Nat} (he : 1 ≤ e + 1) (F : Nat) {v1 : Int32} {lv : List (Nat × Value)} {m : xS} {x : Int32 × xS} (l0 : zld lv 0 = some (.ref 70)) (l1 : zld lv 1 = some (.int v1)) (h : D166 F v1 m = some x) : zR none e 2 (some .boolean) zc166 (0, lv, []) (xW B m) (some (.int x.1), xW B x.2) := by
  unfold D166 at h
  refine q_li (k := 1) (i := 1) (q := (.iload_n 1, 1, 0, 0, .null)) rfl (fun _ => rfl) l1 ?_
  refine q_lr (k := 1) (i := 0) (q := (.aload_n 0, 1, 0, 0, .null)) rfl (fun _ => rfl) l0 ?_
  refine r_gi (v := (m.1 70 1)) H (pc := 2) (i := _) rfl (by decide) (by decide) rfl ?_
  refine r_ifc (len := 3) (a := 34) (b := 0) (v0 := .null) (cn := .ge) (off := 29) rfl (fun c => ?_) (fun c => ?_)
  · rw [if_pos c] at h
    exact T166_34 H he F l0 l1 h
  · rw [if_neg (by rw [c]; decide)] at h
    refine q_lr (k := 1) (i := 0) (q := (.aload_n 0, 1, 0, 0, .null)) rfl (fun _ => rfl) l0 ?_
    refine r_gr (c := 71) H (pc := 9) rfl (by decide) (by decide) ?_
    refine q_li (k := 1) (i := 1) (q := (.iload_n 1, 1, 0, 0, .null)) rfl (fun _ => rfl) l1 ?_
    obtain ⟨c1, h⟩ := xif h
    refine q_bl (n := 400) (v := (m.1 71 (v1 : Int32).toNatClampNeg)) (k := 1) H (pc := 13) rfl (by decide) (by decide) c1 rfl ?_
    refine r_s (fr' := (16, lv, [.int 97, .int (m.1 71 (v1 : Int32).toNatClampNeg)])) (hp' := xW B m) (q := (.bipush 97, 2, 0, 0, .null)) rfl (fun _ => rfl) (Nat.le_refl _) ?_
    refine r_ifc (len := 3) (a := 34) (b := 0) (v0 := .null) (cn := .lt) (off := 18) rfl (fun c => ?_) (fun c => ?_)
    · rw [if_pos c] at h
      exact T166_34 H he F l0 l1 h
    · rw [if_neg (by rw [c]; decide)] at h
      refine q_lr (k := 1) (i := 0) (q := (.aload_n 0, 1, 0, 0, .null)) rfl (fun _ => rfl) l0 ?_
      refine r_gr (c := 71) H (pc := 20) rfl (by decide) (by decide) ?_
      refine q_li (k := 1) (i := 1) (q := (.iload_n 1, 1, 0, 0, .null)) rfl (fun _ => rfl) l1 ?_
      obtain ⟨c2, h⟩ := xif h
      refine q_bl (n := 400) (v := (m.1 71 (v1 : Int32).toNatClampNeg)) (k := 1) H (pc := 24) rfl (by decide) (by decide) c2 rfl ?_
      refine r_s (fr' := (27, lv, [.int 122, .int (m.1 71 (v1 : Int32).toNatClampNeg)])) (hp' := xW B m) (q := (.bipush 122, 2, 0, 0, .null)) rfl (fun _ => rfl) (Nat.le_refl _) ?_
      refine r_ifc (len := 3) (a := 34) (b := 0) (v0 := .null) (cn := .gt) (off := 7) rfl (fun c => ?_) (fun c => ?_)
      · rw [if_pos c] at h
        exact T166_34 H he F l0 l1 h
      · rw [if_neg (by rw [c]; decide)] at h
        refine r_s (fr' := (31, lv, [.int 1])) (hp' := xW B m) (q := (.iconst 1, 1, 0, 0, .null)) rfl (fun _ => rfl) (Nat.le_refl _) ?_
        refine r_s (fr' := (35, lv, [.int 1])) (hp' := xW B m) (q := (.goto 4, 3, 35, 0, .null)) rfl (fun _ => rfl) (Nat.le_refl _) ?_
        obtain rfl := Option.some.inj h
        exact q_ri (q := (.ireturn, 1, 0, 0, .null)) rfl (fun _ => rfl) rfl rfl
set_option maxRecDepth 20000 in
theorem Z166 {B : zHp} (H : yH0 B) {F : Nat} {a1 : Int32} {m : xS} {x : Int32 × xS} (h : D166 F a1 m = some x) {d : Nat} (hd : 1 ≤ d) : zCan d 166 [.ref 70, .int a1] (xW B m) (some (.int x.1), xW B x.2) := by
  obtain ⟨e, rfl⟩ : ∃ e, d = e + 1 := ⟨d - 1, by omega⟩
  refine zCan_body (nL := 2) (rt := (some .boolean)) (cd := zc166) (xg166) ⟨Nat.le_of_ble_eq_true rfl, by decide⟩ (Nat.le_refl _) ?_
  exact T166 H hd F rfl rfl h
/-- LentToolsModel.isWord -/
def D167_50 (F : Nat) (g10 : Int64 → Int64 → Int32 → xS → Option (Int32 × xS)) (v1 : Int64) (v3 : Int64) (v5 : Int32) (m : xS) : Option (Int32 × xS) :=
  g10 v1 v3 (v5 + Int32.ofInt 1) m
set_option maxRecDepth 20000 in
theorem T167_50 {B : zHp} (H : yH0 B) {e : Nat} (he : 2 ≤ e + 1) (F : Nat) (g10 : Int64 → Int64 → Int32 → xS → Option (Int32 × xS)) (k10 : ∀ {v1 : Int64} {v3 : Int64} {v5 : Int32} {lv : List (Nat × Value)} {m : xS} {x : Int32 × xS}, zld lv 0 = some (.ref 70) → zld lv 1 = some (.long v1) → zld lv 3 = some (.long v3) → zld lv 5 = some (.int v5) → g10 v1 v3 v5 m = some x → zR none e 6 (some .boolean) zc167 (10, lv, []) (xW B m) (some (.int x.1), xW B x.2)) {v1 : Int64} {v3 : Int64} {v5 : Int32} {lv : List (Nat × Value)} {m : xS} {x : Int32 × xS} (l0 : zld lv 0 = some (.ref 70)) (l1 : zld lv 1 = some (.long v1)) (l3 : zld lv 3 = some (.long v3)) (l5 : zld lv 5 = some (.int v5)) (h : D167_50 F g10 v1 v3 v5 m = some x) : zR none e 6 (some .boolean) zc167 (50, lv, []) (xW B m) (some (.int x.1), xW B x.2) := by
  unfold D167_50 at h
  refine q_inc (i := 5) (n := 1) (q := (.iinc 5 1, 3, 0, 0, .null)) rfl (fun _ => rfl) l5 (by decide) ?_
  have l0_1 : zld (zs1 lv 5 (.int (v5 + Int32.ofInt 1))) 0 = some (.ref 70) := x_o1 l0 rfl rfl
  have l1_1 : zld (zs1 lv 5 (.int (v5 + Int32.ofInt 1))) 1 = some (.long v1) := x_o1 l1 rfl rfl
  have l3_1 : zld (zs1 lv 5 (.int (v5 + Int32.ofInt 1))) 3 = some (.long v3) := x_o1 l3 rfl rfl
  have l5_1 : zld (zs1 lv 5 (.int (v5 + Int32.ofInt 1))) 5 = some (.int (v5 + Int32.ofInt 1)) := zs1_ld _ _ _
  generalize (zs1 lv 5 (.int (v5 + Int32.ofInt 1))) = lv1 at *
  refine r_s (fr' := (10, lv1, [])) (hp' := xW B m) (q := (.goto (-43), 3, 10, 0, .null)) rfl (fun _ => rfl) (Nat.le_refl _) ?_
  exact k10 l0_1 l1_1 l3_1 l5_1 h
def D167_78 (F : Nat) (v1 : Int64) (v3 : Int64) (v5 : Int32) (m : xS) : Option (Int32 × xS) :=
  some (0, m)
set_option maxRecDepth 20000 in
theorem T167_78 {B : zHp} (H : yH0 B) {e : Nat} (he : 2 ≤ e + 1) (F : Nat) {v1 : Int64} {v3 : Int64} {v5 : Int32} {lv : List (Nat × Value)} {m : xS} {x : Int32 × xS} (l0 : zld lv 0 = some (.ref 70)) (l1 : zld lv 1 = some (.long v1)) (l3 : zld lv 3 = some (.long v3)) (l5 : zld lv 5 = some (.int v5)) (h : D167_78 F v1 v3 v5 m = some x) : zR none e 6 (some .boolean) zc167 (78, lv, []) (xW B m) (some (.int x.1), xW B x.2) := by
  unfold D167_78 at h
  refine r_s (fr' := (79, lv, [.int 0])) (hp' := xW B m) (q := (.iconst 0, 1, 0, 0, .null)) rfl (fun _ => rfl) (Nat.le_refl _) ?_
  obtain rfl := Option.some.inj h
  exact q_ri (q := (.ireturn, 1, 0, 0, .null)) rfl (fun _ => rfl) rfl rfl
def D167_10 (F : Nat) : Nat → Int64 → Int64 → Int32 → xS → Option (Int32 × xS)
  | 0, _, _, _, _ => none
  | f + 1, v1, v3, v5, m =>
    (D166 F ((m.1 70 8) + v5) m).bind fun q18 =>
      if zcmp .eq q18.1 0 = true then
        if zcmp .le v5 0 = true then
          D167_78 F v1 v3 v5 q18.2
        else
          if zcmp .ge v5 8 = true then
            D167_78 F v1 v3 v5 q18.2
          else
            if zcmp .ne (lg_cmp v3 v1) 0 = true then
              D167_78 F v1 v3 v5 q18.2
            else
              some (1, q18.2)
      else
        if zcmp .ge v5 8 = true then
          D167_50 F (D167_10 F f) v1 v3 v5 q18.2
        else
          if xib ((q18.2.1 70 8) + v5) 400 = true then
            D167_50 F (D167_10 F f) v1 ((v3 <<< ((8 : Int32).toInt64 &&& 63)) ||| ((q18.2.1 71 (((q18.2.1 70 8) + v5) : Int32).toNatClampNeg) : Int32).toInt64) v5 q18.2
          else none
set_option maxRecDepth 20000 in
theorem T167_10 {B : zHp} (H : yH0 B) {e : Nat} (he : 2 ≤ e + 1) (F : Nat) : ∀ (f : Nat) {v1 : Int64} {v3 : Int64} {v5 : Int32} {lv : List (Nat × Value)} {m : xS} {x : Int32 × xS}, zld lv 0 = some (.ref 70) → zld lv 1 = some (.long v1) → zld lv 3 = some (.long v3) → zld lv 5 = some (.int v5) → D167_10 F f v1 v3 v5 m = some x → zR none e 6 (some .boolean) zc167 (10, lv, []) (xW B m) (some (.int x.1), xW B x.2) := by
  intro f
  induction f with
  | zero => intro v1 v3 v5 lv m x l0 l1 l3 l5 h; cases h
  | succ f ih =>
    intro v1 v3 v5 lv m x l0 l1 l3 l5 h
    unfold D167_10 at h
    refine q_lr (k := 1) (i := 0) (q := (.aload_n 0, 1, 0, 0, .null)) rfl (fun _ => rfl) l0 ?_
    refine q_lr (k := 1) (i := 0) (q := (.aload_n 0, 1, 0, 0, .null)) rfl (fun _ => rfl) l0 ?_
    refine r_gi (v := (m.1 70 8)) H (pc := 12) (i := _) rfl (by decide) (by decide) rfl ?_
    refine q_li (k := 2) (i := 5) (q := (.iload 5, 2, 0, 0, .null)) rfl (fun _ => rfl) l5 ?_
    refine r_s (fr' := (18, lv, [.int ((m.1 70 8) + v5), .ref 70])) (hp' := xW B m) (q := (.iadd, 1, 0, 0, .null)) rfl (fun _ => rfl) (Nat.le_refl _) ?_
    obtain ⟨q18, h18, h⟩ := xbind h
    refine r_call (ix := 70) (as := [.int ((m.1 70 8) + v5)]) (rest := []) (rv := some (.int q18.1)) (hp' := xW B q18.2) (pc := 18) rfl xr166 rfl rfl rfl (xkd H (by decide)) (Nat.le_of_ble_eq_true rfl) (Z166 H h18 (by omega)) (Nat.le_refl _) ?_
    refine r_if (len := 3) (a := 56) (b := 0) (v0 := .null) (cn := .eq) (off := 35) rfl (fun c => ?_) (fun c => ?_)
    · rw [if_pos c] at h
      refine q_li (k := 2) (i := 5) (q := (.iload 5, 2, 0, 0, .null)) rfl (fun _ => rfl) l5 ?_
      refine r_if (len := 3) (a := 78) (b := 0) (v0 := .null) (cn := .le) (off := 20) rfl (fun c => ?_) (fun c => ?_)
      · rw [if_pos c] at h
        exact T167_78 H he F l0 l1 l3 l5 h
      · rw [if_neg (by rw [c]; decide)] at h
        refine q_li (k := 2) (i := 5) (q := (.iload 5, 2, 0, 0, .null)) rfl (fun _ => rfl) l5 ?_
        refine r_s (fr' := (65, lv, [.int 8, .int v5])) (hp' := xW B q18.2) (q := (.bipush 8, 2, 0, 0, .null)) rfl (fun _ => rfl) (Nat.le_refl _) ?_
        refine r_ifc (len := 3) (a := 78) (b := 0) (v0 := .null) (cn := .ge) (off := 13) rfl (fun c => ?_) (fun c => ?_)
        · rw [if_pos c] at h
          exact T167_78 H he F l0 l1 l3 l5 h
        · rw [if_neg (by rw [c]; decide)] at h
          refine q_ll (k := 1) (i := 3) (q := (.lload_n 3, 1, 0, 0, .null)) rfl (fun _ => rfl) l3 ?_
          refine q_ll (k := 1) (i := 1) (q := (.lload_n 1, 1, 0, 0, .null)) rfl (fun _ => rfl) l1 ?_
          refine r_s (fr' := (71, lv, [.int (lg_cmp v3 v1)])) (hp' := xW B q18.2) (q := (.lcmp, 1, 0, 0, .null)) rfl (fun _ => rfl) (Nat.le_refl _) ?_
          refine r_if (len := 3) (a := 78) (b := 0) (v0 := .null) (cn := .ne) (off := 7) rfl (fun c => ?_) (fun c => ?_)
          · rw [if_pos c] at h
            exact T167_78 H he F l0 l1 l3 l5 h
          · rw [if_neg (by rw [c]; decide)] at h
            refine r_s (fr' := (75, lv, [.int 1])) (hp' := xW B q18.2) (q := (.iconst 1, 1, 0, 0, .null)) rfl (fun _ => rfl) (Nat.le_refl _) ?_
            refine r_s (fr' := (79, lv, [.int 1])) (hp' := xW B q18.2) (q := (.goto 4, 3, 79, 0, .null)) rfl (fun _ => rfl) (Nat.le_refl _) ?_
            obtain rfl := Option.some.inj h
            exact q_ri (q := (.ireturn, 1, 0, 0, .null)) rfl (fun _ => rfl) rfl rfl
    · rw [if_neg (by rw [c]; decide)] at h
      refine q_li (k := 2) (i := 5) (q := (.iload 5, 2, 0, 0, .null)) rfl (fun _ => rfl) l5 ?_
      refine r_s (fr' := (28, lv, [.int 8, .int v5])) (hp' := xW B q18.2) (q := (.bipush 8, 2, 0, 0, .null)) rfl (fun _ => rfl) (Nat.le_refl _) ?_
      refine r_ifc (len := 3) (a := 50) (b := 0) (v0 := .null) (cn := .ge) (off := 22) rfl (fun c => ?_) (fun c => ?_)
      · rw [if_pos c] at h
        exact T167_50 H he F _ ih l0 l1 l3 l5 h
      · rw [if_neg (by rw [c]; decide)] at h
        refine q_ll (k := 1) (i := 3) (q := (.lload_n 3, 1, 0, 0, .null)) rfl (fun _ => rfl) l3 ?_
        refine r_s (fr' := (34, lv, [.int 8, .long v3])) (hp' := xW B q18.2) (q := (.bipush 8, 2, 0, 0, .null)) rfl (fun _ => rfl) (Nat.le_refl _) ?_
        refine r_s (fr' := (35, lv, [.long (v3 <<< ((8 : Int32).toInt64 &&& 63))])) (hp' := xW B q18.2) (q := (.lshl, 1, 0, 0, .null)) rfl (fun _ => rfl) (Nat.le_refl _) ?_
        refine q_lr (k := 1) (i := 0) (q := (.aload_n 0, 1, 0, 0, .null)) rfl (fun _ => rfl) l0 ?_
        refine r_gr (c := 71) H (pc := 36) rfl (by decide) (by decide) ?_
        refine q_lr (k := 1) (i := 0) (q := (.aload_n 0, 1, 0, 0, .null)) rfl (fun _ => rfl) l0 ?_
        refine r_gi (v := (q18.2.1 70 8)) H (pc := 40) (i := _) rfl (by decide) (by decide) rfl ?_
        refine q_li (k := 2) (i := 5) (q := (.iload 5, 2, 0, 0, .null)) rfl (fun _ => rfl) l5 ?_
        refine r_s (fr' := (46, lv, [.int ((q18.2.1 70 8) + v5), .ref 71, .long (v3 <<< ((8 : Int32).toInt64 &&& 63))])) (hp' := xW B q18.2) (q := (.iadd, 1, 0, 0, .null)) rfl (fun _ => rfl) (Nat.le_refl _) ?_
        obtain ⟨c1, h⟩ := xif h
        refine q_bl (n := 400) (v := (q18.2.1 71 (((q18.2.1 70 8) + v5) : Int32).toNatClampNeg)) (k := 1) H (pc := 46) rfl (by decide) (by decide) c1 rfl ?_
        refine r_s (fr' := (48, lv, [.long ((q18.2.1 71 (((q18.2.1 70 8) + v5) : Int32).toNatClampNeg) : Int32).toInt64, .long (v3 <<< ((8 : Int32).toInt64 &&& 63))])) (hp' := xW B q18.2) (q := (.i2l, 1, 0, 0, .null)) rfl (fun _ => rfl) (Nat.le_refl _) ?_
        refine r_s (fr' := (49, lv, [.long ((v3 <<< ((8 : Int32).toInt64 &&& 63)) ||| ((q18.2.1 71 (((q18.2.1 70 8) + v5) : Int32).toNatClampNeg) : Int32).toInt64)])) (hp' := xW B q18.2) (q := (.lor, 1, 0, 0, .null)) rfl (fun _ => rfl) (Nat.le_refl _) ?_
        refine q_sl (k := 1) (i := 3) (q := (.lstore_n 3, 1, 0, 0, .null)) rfl (fun _ => rfl) (by decide) ?_
        have l0_2 : zld (zs2 lv 3 (.long ((v3 <<< ((8 : Int32).toInt64 &&& 63)) ||| ((q18.2.1 71 (((q18.2.1 70 8) + v5) : Int32).toNatClampNeg) : Int32).toInt64))) 0 = some (.ref 70) := x_o2 l0 rfl rfl rfl
        have l1_2 : zld (zs2 lv 3 (.long ((v3 <<< ((8 : Int32).toInt64 &&& 63)) ||| ((q18.2.1 71 (((q18.2.1 70 8) + v5) : Int32).toNatClampNeg) : Int32).toInt64))) 1 = some (.long v1) := x_o2 l1 rfl rfl rfl
        have l3_2 : zld (zs2 lv 3 (.long ((v3 <<< ((8 : Int32).toInt64 &&& 63)) ||| ((q18.2.1 71 (((q18.2.1 70 8) + v5) : Int32).toNatClampNeg) : Int32).toInt64))) 3 = some (.long ((v3 <<< ((8 : Int32).toInt64 &&& 63)) ||| ((q18.2.1 71 (((q18.2.1 70 8) + v5) : Int32).toNatClampNeg) : Int32).toInt64)) := zs2_ld _ _ _
        have l5_2 : zld (zs2 lv 3 (.long ((v3 <<< ((8 : Int32).toInt64 &&& 63)) ||| ((q18.2.1 71 (((q18.2.1 70 8) + v5) : Int32).toNatClampNeg) : Int32).toInt64))) 5 = some (.int v5) := x_o2 l5 rfl rfl rfl
        generalize (zs2 lv 3 (.long ((v3 <<< ((8 : Int32).toInt64 &&& 63)) ||| ((q18.2.1 71 (((q18.2.1 70 8) + v5) : Int32).toNatClampNeg) : Int32).toInt64))) = lv2 at *
        exact T167_50 H he F _ ih l0_2 l1_2 l3_2 l5_2 h
def D167 (F : Nat) (v1 : Int64) (m : xS) : Option (Int32 × xS) :=
  (D164 F m).bind fun q1 =>
    D167_10 F F v1 0 0 q1.2
set_option maxRecDepth 20000 in
theorem T167 {B : zHp} (H : yH0 B) {e : Nat} (he : 2 ≤ e + 1) (F : Nat) {v1 : Int64} {lv : List (Nat × Value)} {m : xS} {x : Int32 × xS} (l0 : zld lv 0 = some (.ref 70)) (l1 : zld lv 1 = some (.long v1)) (h : D167 F v1 m = some x) : zR none e 6 (some .boolean) zc167 (0, lv, []) (xW B m) (some (.int x.1), xW B x.2) := by
  unfold D167 at h
  refine q_lr (k := 1) (i := 0) (q := (.aload_n 0, 1, 0, 0, .null)) rfl (fun _ => rfl) l0 ?_
  obtain ⟨q1, h1, h⟩ := xbind h
  refine r_call (ix := 70) (as := []) (rest := []) (rv := some (.int q1.1)) (hp' := xW B q1.2) (pc := 1) rfl xr164 rfl rfl rfl (xkd H (by decide)) (Nat.le_of_ble_eq_true rfl) (Z164 H h1 (by omega)) (Nat.le_refl _) ?_
  refine r_s (fr' := (5, lv, [])) (hp' := xW B q1.2) (q := (.pop, 1, 0, 0, .null)) rfl (fun _ => rfl) (Nat.le_refl _) ?_
  refine r_s (fr' := (6, lv, [.long 0])) (hp' := xW B q1.2) (q := (.lconst 0, 1, 0, 0, .null)) rfl (fun _ => rfl) (Nat.le_refl _) ?_
  refine q_sl (k := 1) (i := 3) (q := (.lstore_n 3, 1, 0, 0, .null)) rfl (fun _ => rfl) (by decide) ?_
  have l0_1 : zld (zs2 lv 3 (.long 0)) 0 = some (.ref 70) := x_o2 l0 rfl rfl rfl
  have l1_1 : zld (zs2 lv 3 (.long 0)) 1 = some (.long v1) := x_o2 l1 rfl rfl rfl
  have l3_1 : zld (zs2 lv 3 (.long 0)) 3 = some (.long 0) := zs2_ld _ _ _
  generalize (zs2 lv 3 (.long 0)) = lv1 at *
  refine r_s (fr' := (8, lv1, [.int 0])) (hp' := xW B q1.2) (q := (.iconst 0, 1, 0, 0, .null)) rfl (fun _ => rfl) (Nat.le_refl _) ?_
  refine q_si (k := 2) (i := 5) (q := (.istore 5, 2, 0, 0, .null)) rfl (fun _ => rfl) (by decide) ?_
  have l0_2 : zld (zs1 lv1 5 (.int 0)) 0 = some (.ref 70) := x_o1 l0_1 rfl rfl
  have l1_2 : zld (zs1 lv1 5 (.int 0)) 1 = some (.long v1) := x_o1 l1_1 rfl rfl
  have l3_2 : zld (zs1 lv1 5 (.int 0)) 3 = some (.long 0) := x_o1 l3_1 rfl rfl
  have l5_2 : zld (zs1 lv1 5 (.int 0)) 5 = some (.int 0) := zs1_ld _ _ _
  generalize (zs1 lv1 5 (.int 0)) = lv2 at *
  exact T167_10 H he F F l0_2 l1_2 l3_2 l5_2 h
set_option maxRecDepth 20000 in
theorem Z167 {B : zHp} (H : yH0 B) {F : Nat} {a1 : Int64} {m : xS} {x : Int32 × xS} (h : D167 F a1 m = some x) {d : Nat} (hd : 2 ≤ d) : zCan d 167 [.ref 70, .long a1] (xW B m) (some (.int x.1), xW B x.2) := by
  obtain ⟨e, rfl⟩ : ∃ e, d = e + 1 := ⟨d - 1, by omega⟩
  refine zCan_body (nL := 6) (rt := (some .boolean)) (cd := zc167) (xg167) ⟨Nat.le_of_ble_eq_true rfl, by decide⟩ (Nat.le_refl _) ?_
  exact T167 H hd F rfl rfl h
/-- LentToolsModel.isVillageWord -/
def D194_50 (F : Nat) (m : xS) : Option (Int32 × xS) :=
  some (1, m)
set_option maxRecDepth 20000 in
theorem T194_50 {B : zHp} (H : yH0 B) {e : Nat} (he : 3 ≤ e + 1) (F : Nat) {lv : List (Nat × Value)} {m : xS} {x : Int32 × xS} (l0 : zld lv 0 = some (.ref 70)) (h : D194_50 F m = some x) : zR none e 1 (some .boolean) zc194 (50, lv, []) (xW B m) (some (.int x.1), xW B x.2) := by
  unfold D194_50 at h
  refine r_s (fr' := (51, lv, [.int 1])) (hp' := xW B m) (q := (.iconst 1, 1, 0, 0, .null)) rfl (fun _ => rfl) (Nat.le_refl _) ?_
  refine r_s (fr' := (55, lv, [.int 1])) (hp' := xW B m) (q := (.goto 4, 3, 55, 0, .null)) rfl (fun _ => rfl) (Nat.le_refl _) ?_
  obtain rfl := Option.some.inj h
  exact q_ri (q := (.ireturn, 1, 0, 0, .null)) rfl (fun _ => rfl) rfl rfl
def D194 (F : Nat) (m : xS) : Option (Int32 × xS) :=
  (D167 F 33329961647564645 m).bind fun q4 =>
    if zcmp .ne q4.1 0 = true then
      D194_50 F q4.2
    else
      (D167 F 1953460076 q4.2).bind fun q14 =>
        if zcmp .ne q14.1 0 = true then
          D194_50 F q14.2
        else
          (D167 F 500136506228 q14.2).bind fun q24 =>
            if zcmp .ne q24.1 0 = true then
              D194_50 F q24.2
            else
              (D167 F 2003792491 q24.2).bind fun q34 =>
                if zcmp .ne q34.1 0 = true then
                  D194_50 F q34.2
                else
                  (D167 F 127991660047219 q34.2).bind fun q44 =>
                    if zcmp .eq q44.1 0 = true then
                      some (0, q44.2)
                    else
                      D194_50 F q44.2
set_option maxRecDepth 20000 in
theorem T194 {B : zHp} (H : yH0 B) {e : Nat} (he : 3 ≤ e + 1) (F : Nat) {lv : List (Nat × Value)} {m : xS} {x : Int32 × xS} (l0 : zld lv 0 = some (.ref 70)) (h : D194 F m = some x) : zR none e 1 (some .boolean) zc194 (0, lv, []) (xW B m) (some (.int x.1), xW B x.2) := by
  unfold D194 at h
  refine q_lr (k := 1) (i := 0) (q := (.aload_n 0, 1, 0, 0, .null)) rfl (fun _ => rfl) l0 ?_
  refine r_s (fr' := (4, lv, [.long 33329961647564645, .ref 70])) (hp' := xW B m) (q := (.ldc2_w 218, 3, 0, 0, .long 33329961647564645)) rfl (fun _ => rfl) (Nat.le_refl _) ?_
  obtain ⟨q4, h4, h⟩ := xbind h
  refine r_call (ix := 70) (as := [.long 33329961647564645]) (rest := []) (rv := some (.int q4.1)) (hp' := xW B q4.2) (pc := 4) rfl xr167 rfl rfl rfl (xkd H (by decide)) (Nat.le_of_ble_eq_true rfl) (Z167 H h4 (by omega)) (Nat.le_refl _) ?_
  refine r_if (len := 3) (a := 50) (b := 0) (v0 := .null) (cn := .ne) (off := 43) rfl (fun c => ?_) (fun c => ?_)
  · rw [if_pos c] at h
    exact T194_50 H he F l0 h
  · rw [if_neg (by rw [c]; decide)] at h
    refine q_lr (k := 1) (i := 0) (q := (.aload_n 0, 1, 0, 0, .null)) rfl (fun _ => rfl) l0 ?_
    refine r_s (fr' := (14, lv, [.long 1953460076, .ref 70])) (hp' := xW B q4.2) (q := (.ldc2_w 107, 3, 0, 0, .long 1953460076)) rfl (fun _ => rfl) (Nat.le_refl _) ?_
    obtain ⟨q14, h14, h⟩ := xbind h
    refine r_call (ix := 70) (as := [.long 1953460076]) (rest := []) (rv := some (.int q14.1)) (hp' := xW B q14.2) (pc := 14) rfl xr167 rfl rfl rfl (xkd H (by decide)) (Nat.le_of_ble_eq_true rfl) (Z167 H h14 (by omega)) (Nat.le_refl _) ?_
    refine r_if (len := 3) (a := 50) (b := 0) (v0 := .null) (cn := .ne) (off := 33) rfl (fun c => ?_) (fun c => ?_)
    · rw [if_pos c] at h
      exact T194_50 H he F l0 h
    · rw [if_neg (by rw [c]; decide)] at h
      refine q_lr (k := 1) (i := 0) (q := (.aload_n 0, 1, 0, 0, .null)) rfl (fun _ => rfl) l0 ?_
      refine r_s (fr' := (24, lv, [.long 500136506228, .ref 70])) (hp' := xW B q14.2) (q := (.ldc2_w 226, 3, 0, 0, .long 500136506228)) rfl (fun _ => rfl) (Nat.le_refl _) ?_
      obtain ⟨q24, h24, h⟩ := xbind h
      refine r_call (ix := 70) (as := [.long 500136506228]) (rest := []) (rv := some (.int q24.1)) (hp' := xW B q24.2) (pc := 24) rfl xr167 rfl rfl rfl (xkd H (by decide)) (Nat.le_of_ble_eq_true rfl) (Z167 H h24 (by omega)) (Nat.le_refl _) ?_
      refine r_if (len := 3) (a := 50) (b := 0) (v0 := .null) (cn := .ne) (off := 23) rfl (fun c => ?_) (fun c => ?_)
      · rw [if_pos c] at h
        exact T194_50 H he F l0 h
      · rw [if_neg (by rw [c]; decide)] at h
        refine q_lr (k := 1) (i := 0) (q := (.aload_n 0, 1, 0, 0, .null)) rfl (fun _ => rfl) l0 ?_
        refine r_s (fr' := (34, lv, [.long 2003792491, .ref 70])) (hp' := xW B q24.2) (q := (.ldc2_w 231, 3, 0, 0, .long 2003792491)) rfl (fun _ => rfl) (Nat.le_refl _) ?_
        obtain ⟨q34, h34, h⟩ := xbind h
        refine r_call (ix := 70) (as := [.long 2003792491]) (rest := []) (rv := some (.int q34.1)) (hp' := xW B q34.2) (pc := 34) rfl xr167 rfl rfl rfl (xkd H (by decide)) (Nat.le_of_ble_eq_true rfl) (Z167 H h34 (by omega)) (Nat.le_refl _) ?_
        refine r_if (len := 3) (a := 50) (b := 0) (v0 := .null) (cn := .ne) (off := 13) rfl (fun c => ?_) (fun c => ?_)
        · rw [if_pos c] at h
          exact T194_50 H he F l0 h
        · rw [if_neg (by rw [c]; decide)] at h
          refine q_lr (k := 1) (i := 0) (q := (.aload_n 0, 1, 0, 0, .null)) rfl (fun _ => rfl) l0 ?_
          refine r_s (fr' := (44, lv, [.long 127991660047219, .ref 70])) (hp' := xW B q34.2) (q := (.ldc2_w 239, 3, 0, 0, .long 127991660047219)) rfl (fun _ => rfl) (Nat.le_refl _) ?_
          obtain ⟨q44, h44, h⟩ := xbind h
          refine r_call (ix := 70) (as := [.long 127991660047219]) (rest := []) (rv := some (.int q44.1)) (hp' := xW B q44.2) (pc := 44) rfl xr167 rfl rfl rfl (xkd H (by decide)) (Nat.le_of_ble_eq_true rfl) (Z167 H h44 (by omega)) (Nat.le_refl _) ?_
          refine r_if (len := 3) (a := 54) (b := 0) (v0 := .null) (cn := .eq) (off := 7) rfl (fun c => ?_) (fun c => ?_)
          · rw [if_pos c] at h
            refine r_s (fr' := (55, lv, [.int 0])) (hp' := xW B q44.2) (q := (.iconst 0, 1, 0, 0, .null)) rfl (fun _ => rfl) (Nat.le_refl _) ?_
            obtain rfl := Option.some.inj h
            exact q_ri (q := (.ireturn, 1, 0, 0, .null)) rfl (fun _ => rfl) rfl rfl
          · rw [if_neg (by rw [c]; decide)] at h
            exact T194_50 H he F l0 h
set_option maxRecDepth 20000 in
theorem Z194 {B : zHp} (H : yH0 B) {F : Nat} {m : xS} {x : Int32 × xS} (h : D194 F m = some x) {d : Nat} (hd : 3 ≤ d) : zCan d 194 [.ref 70] (xW B m) (some (.int x.1), xW B x.2) := by
  obtain ⟨e, rfl⟩ : ∃ e, d = e + 1 := ⟨d - 1, by omega⟩
  refine zCan_body (nL := 1) (rt := (some .boolean)) (cd := zc194) (xg194) ⟨Nat.le_of_ble_eq_true rfl, by decide⟩ (Nat.le_refl _) ?_
  exact T194 H hd F rfl h
/-- LentToolsModel.fails -/
def D163_19 (F : Nat) (v1 : Int32) (v2 : Int32) (m : xS) : Option (Int32 × xS) :=
  some (0, m)
set_option maxRecDepth 20000 in
theorem T163_19 {B : zHp} (H : yH0 B) {e : Nat} (he : 1 ≤ e + 1) (F : Nat) {v1 : Int32} {v2 : Int32} {lv : List (Nat × Value)} {m : xS} {x : Int32 × xS} (l0 : zld lv 0 = some (.ref 70)) (l1 : zld lv 1 = some (.int v1)) (l2 : zld lv 2 = some (.int v2)) (h : D163_19 F v1 v2 m = some x) : zR none e 3 (some .boolean) zc163 (19, lv, []) (xW B m) (some (.int x.1), xW B x.2) := by
  unfold D163_19 at h
  refine r_s (fr' := (20, lv, [.int 0])) (hp' := xW B m) (q := (.iconst 0, 1, 0, 0, .null)) rfl (fun _ => rfl) (Nat.le_refl _) ?_
  obtain rfl := Option.some.inj h
  exact q_ri (q := (.ireturn, 1, 0, 0, .null)) rfl (fun _ => rfl) rfl rfl
def D163 (F : Nat) (v1 : Int32) (v2 : Int32) (m : xS) : Option (Int32 × xS) :=
  if zcmp .ne (m.1 70 9) 0 = true then
    D163_19 F v1 v2 m
  else
    D163_19 F v1 v2 (xu m 70 9 ((1 + (8 * v2)) + v1))
set_option maxRecDepth 20000 in
theorem T163 {B : zHp} (H : yH0 B) {e : Nat} (he : 1 ≤ e + 1) (F : Nat) {v1 : Int32} {v2 : Int32} {lv : List (Nat × Value)} {m : xS} {x : Int32 × xS} (l0 : zld lv 0 = some (.ref 70)) (l1 : zld lv 1 = some (.int v1)) (l2 : zld lv 2 = some (.int v2)) (h : D163 F v1 v2 m = some x) : zR none e 3 (some .boolean) zc163 (0, lv, []) (xW B m) (some (.int x.1), xW B x.2) := by
  unfold D163 at h
  refine q_lr (k := 1) (i := 0) (q := (.aload_n 0, 1, 0, 0, .null)) rfl (fun _ => rfl) l0 ?_
  refine r_gi (v := (m.1 70 9)) H (pc := 1) (i := _) rfl (by decide) (by decide) rfl ?_
  refine r_if (len := 3) (a := 19) (b := 0) (v0 := .null) (cn := .ne) (off := 15) rfl (fun c => ?_) (fun c => ?_)
  · rw [if_pos c] at h
    exact T163_19 H he F l0 l1 l2 h
  · rw [if_neg (by rw [c]; decide)] at h
    refine q_lr (k := 1) (i := 0) (q := (.aload_n 0, 1, 0, 0, .null)) rfl (fun _ => rfl) l0 ?_
    refine r_s (fr' := (9, lv, [.int 1, .ref 70])) (hp' := xW B m) (q := (.iconst 1, 1, 0, 0, .null)) rfl (fun _ => rfl) (Nat.le_refl _) ?_
    refine r_s (fr' := (11, lv, [.int 8, .int 1, .ref 70])) (hp' := xW B m) (q := (.bipush 8, 2, 0, 0, .null)) rfl (fun _ => rfl) (Nat.le_refl _) ?_
    refine q_li (k := 1) (i := 2) (q := (.iload_n 2, 1, 0, 0, .null)) rfl (fun _ => rfl) l2 ?_
    refine r_s (fr' := (13, lv, [.int (8 * v2), .int 1, .ref 70])) (hp' := xW B m) (q := (.imul, 1, 0, 0, .null)) rfl (fun _ => rfl) (Nat.le_refl _) ?_
    refine r_s (fr' := (14, lv, [.int (1 + (8 * v2)), .ref 70])) (hp' := xW B m) (q := (.iadd, 1, 0, 0, .null)) rfl (fun _ => rfl) (Nat.le_refl _) ?_
    refine q_li (k := 1) (i := 1) (q := (.iload_n 1, 1, 0, 0, .null)) rfl (fun _ => rfl) l1 ?_
    refine r_s (fr' := (16, lv, [.int ((1 + (8 * v2)) + v1), .ref 70])) (hp' := xW B m) (q := (.iadd, 1, 0, 0, .null)) rfl (fun _ => rfl) (Nat.le_refl _) ?_
    refine r_pi (s2 := (xu m 70 9 ((1 + (8 * v2)) + v1))) H (pc := 16) rfl (by decide) rfl rfl ?_
    exact T163_19 H he F l0 l1 l2 h
set_option maxRecDepth 20000 in
theorem Z163 {B : zHp} (H : yH0 B) {F : Nat} {a1 : Int32} {a2 : Int32} {m : xS} {x : Int32 × xS} (h : D163 F a1 a2 m = some x) {d : Nat} (hd : 1 ≤ d) : zCan d 163 [.ref 70, .int a1, .int a2] (xW B m) (some (.int x.1), xW B x.2) := by
  obtain ⟨e, rfl⟩ : ∃ e, d = e + 1 := ⟨d - 1, by omega⟩
  refine zCan_body (nL := 3) (rt := (some .boolean)) (cd := zc163) (xg163) ⟨Nat.le_of_ble_eq_true rfl, by decide⟩ (Nat.le_refl _) ?_
  exact T163 H hd F rfl rfl rfl h
/-- LentToolsModel.passWord -/
def D168_0 (F : Nat) : Nat → xS → Option (Unit × xS)
  | 0, _ => none
  | f + 1, m =>
    (D166 F (m.1 70 8) m).bind fun q5 =>
      if zcmp .eq q5.1 0 = true then
        some ((), q5.2)
      else
        D168_0 F f (xu q5.2 70 8 ((q5.2.1 70 8) + 1))
set_option maxRecDepth 20000 in
theorem T168_0 {B : zHp} (H : yH0 B) {e : Nat} (he : 2 ≤ e + 1) (F : Nat) : ∀ (f : Nat) {lv : List (Nat × Value)} {m : xS} {x : Unit × xS}, zld lv 0 = some (.ref 70) → D168_0 F f m = some x → zR none e 1 none zc168 (0, lv, []) (xW B m) (none, xW B x.2) := by
  intro f
  induction f with
  | zero => intro lv m x l0 h; cases h
  | succ f ih =>
    intro lv m x l0 h
    unfold D168_0 at h
    refine q_lr (k := 1) (i := 0) (q := (.aload_n 0, 1, 0, 0, .null)) rfl (fun _ => rfl) l0 ?_
    refine q_lr (k := 1) (i := 0) (q := (.aload_n 0, 1, 0, 0, .null)) rfl (fun _ => rfl) l0 ?_
    refine r_gi (v := (m.1 70 8)) H (pc := 2) (i := _) rfl (by decide) (by decide) rfl ?_
    obtain ⟨q5, h5, h⟩ := xbind h
    refine r_call (ix := 70) (as := [.int (m.1 70 8)]) (rest := []) (rv := some (.int q5.1)) (hp' := xW B q5.2) (pc := 5) rfl xr166 rfl rfl rfl (xkd H (by decide)) (Nat.le_of_ble_eq_true rfl) (Z166 H h5 (by omega)) (Nat.le_refl _) ?_
    refine r_if (len := 3) (a := 24) (b := 0) (v0 := .null) (cn := .eq) (off := 16) rfl (fun c => ?_) (fun c => ?_)
    · rw [if_pos c] at h
      obtain rfl := Option.some.inj h
      exact r_ret (q := (.return_, 1, 0, 0, .null)) rfl rfl (fun _ => rfl)
    · rw [if_neg (by rw [c]; decide)] at h
      refine q_lr (k := 1) (i := 0) (q := (.aload_n 0, 1, 0, 0, .null)) rfl (fun _ => rfl) l0 ?_
      refine r_s (fr' := (13, lv, [.ref 70, .ref 70])) (hp' := xW B q5.2) (q := (.dup, 1, 0, 0, .null)) rfl (fun _ => rfl) (Nat.le_refl _) ?_
      refine r_gi (v := (q5.2.1 70 8)) H (pc := 13) (i := _) rfl (by decide) (by decide) rfl ?_
      refine r_s (fr' := (17, lv, [.int 1, .int (q5.2.1 70 8), .ref 70])) (hp' := xW B q5.2) (q := (.iconst 1, 1, 0, 0, .null)) rfl (fun _ => rfl) (Nat.le_refl _) ?_
      refine r_s (fr' := (18, lv, [.int ((q5.2.1 70 8) + 1), .ref 70])) (hp' := xW B q5.2) (q := (.iadd, 1, 0, 0, .null)) rfl (fun _ => rfl) (Nat.le_refl _) ?_
      refine r_pi (s2 := (xu q5.2 70 8 ((q5.2.1 70 8) + 1))) H (pc := 18) rfl (by decide) rfl rfl ?_
      refine r_s (fr' := (0, lv, [])) (hp' := xW B (xu q5.2 70 8 ((q5.2.1 70 8) + 1))) (q := (.goto (-21), 3, 0, 0, .null)) rfl (fun _ => rfl) (Nat.le_refl _) ?_
      exact ih l0 h
def D168 (F : Nat) (m : xS) : Option (Unit × xS) := D168_0 F F m
set_option maxRecDepth 20000 in
theorem Z168 {B : zHp} (H : yH0 B) {F : Nat} {m : xS} {x : Unit × xS} (h : D168 F m = some x) {d : Nat} (hd : 2 ≤ d) : zCan d 168 [.ref 70] (xW B m) (none, xW B x.2) := by
  obtain ⟨e, rfl⟩ : ∃ e, d = e + 1 := ⟨d - 1, by omega⟩
  refine zCan_body (nL := 1) (rt := none) (cd := zc168) (xg168) ⟨Nat.le_of_ble_eq_true rfl, by decide⟩ (Nat.le_refl _) ?_
  exact T168_0 H hd F F rfl h
/-- LentToolsModel.isDigit -/
def D165_34 (F : Nat) (v1 : Int32) (m : xS) : Option (Int32 × xS) :=
  some (0, m)
set_option maxRecDepth 20000 in
theorem T165_34 {B : zHp} (H : yH0 B) {e : Nat} (he : 1 ≤ e + 1) (F : Nat) {v1 : Int32} {lv : List (Nat × Value)} {m : xS} {x : Int32 × xS} (l0 : zld lv 0 = some (.ref 70)) (l1 : zld lv 1 = some (.int v1)) (h : D165_34 F v1 m = some x) : zR none e 2 (some .boolean) zc165 (34, lv, []) (xW B m) (some (.int x.1), xW B x.2) := by
  unfold D165_34 at h
  refine r_s (fr' := (35, lv, [.int 0])) (hp' := xW B m) (q := (.iconst 0, 1, 0, 0, .null)) rfl (fun _ => rfl) (Nat.le_refl _) ?_
  obtain rfl := Option.some.inj h
  exact q_ri (q := (.ireturn, 1, 0, 0, .null)) rfl (fun _ => rfl) rfl rfl
def D165 (F : Nat) (v1 : Int32) (m : xS) : Option (Int32 × xS) :=
  if zcmp .ge v1 (m.1 70 1) = true then
    D165_34 F v1 m
  else
    if xib v1 400 = true then
      if zcmp .lt (m.1 71 (v1 : Int32).toNatClampNeg) 48 = true then
        D165_34 F v1 m
      else
        if xib v1 400 = true then
          if zcmp .gt (m.1 71 (v1 : Int32).toNatClampNeg) 57 = true then
            D165_34 F v1 m
          else
            some (1, m)
        else none
    else none
set_option maxRecDepth 20000 in
theorem T165 {B : zHp} (H : yH0 B) {e : Nat} (he : 1 ≤ e + 1) (F : Nat) {v1 : Int32} {lv : List (Nat × Value)} {m : xS} {x : Int32 × xS} (l0 : zld lv 0 = some (.ref 70)) (l1 : zld lv 1 = some (.int v1)) (h : D165 F v1 m = some x) : zR none e 2 (some .boolean) zc165 (0, lv, []) (xW B m) (some (.int x.1), xW B x.2) := by
  unfold D165 at h
  refine q_li (k := 1) (i := 1) (q := (.iload_n 1, 1, 0, 0, .null)) rfl (fun _ => rfl) l1 ?_
  refine q_lr (k := 1) (i := 0) (q := (.aload_n 0, 1, 0, 0, .null)) rfl (fun _ => rfl) l0 ?_
  refine r_gi (v := (m.1 70 1)) H (pc := 2) (i := _) rfl (by decide) (by decide) rfl ?_
  refine r_ifc (len := 3) (a := 34) (b := 0) (v0 := .null) (cn := .ge) (off := 29) rfl (fun c => ?_) (fun c => ?_)
  · rw [if_pos c] at h
    exact T165_34 H he F l0 l1 h
  · rw [if_neg (by rw [c]; decide)] at h
    refine q_lr (k := 1) (i := 0) (q := (.aload_n 0, 1, 0, 0, .null)) rfl (fun _ => rfl) l0 ?_
    refine r_gr (c := 71) H (pc := 9) rfl (by decide) (by decide) ?_
    refine q_li (k := 1) (i := 1) (q := (.iload_n 1, 1, 0, 0, .null)) rfl (fun _ => rfl) l1 ?_
    obtain ⟨c1, h⟩ := xif h
    refine q_bl (n := 400) (v := (m.1 71 (v1 : Int32).toNatClampNeg)) (k := 1) H (pc := 13) rfl (by decide) (by decide) c1 rfl ?_
    refine r_s (fr' := (16, lv, [.int 48, .int (m.1 71 (v1 : Int32).toNatClampNeg)])) (hp' := xW B m) (q := (.bipush 48, 2, 0, 0, .null)) rfl (fun _ => rfl) (Nat.le_refl _) ?_
    refine r_ifc (len := 3) (a := 34) (b := 0) (v0 := .null) (cn := .lt) (off := 18) rfl (fun c => ?_) (fun c => ?_)
    · rw [if_pos c] at h
      exact T165_34 H he F l0 l1 h
    · rw [if_neg (by rw [c]; decide)] at h
      refine q_lr (k := 1) (i := 0) (q := (.aload_n 0, 1, 0, 0, .null)) rfl (fun _ => rfl) l0 ?_
      refine r_gr (c := 71) H (pc := 20) rfl (by decide) (by decide) ?_
      refine q_li (k := 1) (i := 1) (q := (.iload_n 1, 1, 0, 0, .null)) rfl (fun _ => rfl) l1 ?_
      obtain ⟨c2, h⟩ := xif h
      refine q_bl (n := 400) (v := (m.1 71 (v1 : Int32).toNatClampNeg)) (k := 1) H (pc := 24) rfl (by decide) (by decide) c2 rfl ?_
      refine r_s (fr' := (27, lv, [.int 57, .int (m.1 71 (v1 : Int32).toNatClampNeg)])) (hp' := xW B m) (q := (.bipush 57, 2, 0, 0, .null)) rfl (fun _ => rfl) (Nat.le_refl _) ?_
      refine r_ifc (len := 3) (a := 34) (b := 0) (v0 := .null) (cn := .gt) (off := 7) rfl (fun c => ?_) (fun c => ?_)
      · rw [if_pos c] at h
        exact T165_34 H he F l0 l1 h
      · rw [if_neg (by rw [c]; decide)] at h
        refine r_s (fr' := (31, lv, [.int 1])) (hp' := xW B m) (q := (.iconst 1, 1, 0, 0, .null)) rfl (fun _ => rfl) (Nat.le_refl _) ?_
        refine r_s (fr' := (35, lv, [.int 1])) (hp' := xW B m) (q := (.goto 4, 3, 35, 0, .null)) rfl (fun _ => rfl) (Nat.le_refl _) ?_
        obtain rfl := Option.some.inj h
        exact q_ri (q := (.ireturn, 1, 0, 0, .null)) rfl (fun _ => rfl) rfl rfl
set_option maxRecDepth 20000 in
theorem Z165 {B : zHp} (H : yH0 B) {F : Nat} {a1 : Int32} {m : xS} {x : Int32 × xS} (h : D165 F a1 m = some x) {d : Nat} (hd : 1 ≤ d) : zCan d 165 [.ref 70, .int a1] (xW B m) (some (.int x.1), xW B x.2) := by
  obtain ⟨e, rfl⟩ : ∃ e, d = e + 1 := ⟨d - 1, by omega⟩
  refine zCan_body (nL := 2) (rt := (some .boolean)) (cd := zc165) (xg165) ⟨Nat.le_of_ble_eq_true rfl, by decide⟩ (Nat.le_refl _) ?_
  exact T165 H hd F rfl rfl h
/-- LentToolsModel.in -/
def D158_17 (F : Nat) (v0 : Int64) (v2 : Int64) (v4 : Int64) (m : xS) : Option (Int32 × xS) :=
  some (0, m)
set_option maxRecDepth 20000 in
theorem T158_17 {B : zHp} (H : yH0 B) {e : Nat} (he : 1 ≤ e + 1) (F : Nat) {v0 : Int64} {v2 : Int64} {v4 : Int64} {lv : List (Nat × Value)} {m : xS} {x : Int32 × xS} (l0 : zld lv 0 = some (.long v0)) (l2 : zld lv 2 = some (.long v2)) (l4 : zld lv 4 = some (.long v4)) (h : D158_17 F v0 v2 v4 m = some x) : zR none e 6 (some .boolean) zc158 (17, lv, []) (xW B m) (some (.int x.1), xW B x.2) := by
  unfold D158_17 at h
  refine r_s (fr' := (18, lv, [.int 0])) (hp' := xW B m) (q := (.iconst 0, 1, 0, 0, .null)) rfl (fun _ => rfl) (Nat.le_refl _) ?_
  obtain rfl := Option.some.inj h
  exact q_ri (q := (.ireturn, 1, 0, 0, .null)) rfl (fun _ => rfl) rfl rfl
def D158 (F : Nat) (v0 : Int64) (v2 : Int64) (v4 : Int64) (m : xS) : Option (Int32 × xS) :=
  if zcmp .lt (lg_cmp v0 v2) 0 = true then
    D158_17 F v0 v2 v4 m
  else
    if zcmp .gt (lg_cmp v0 v4) 0 = true then
      D158_17 F v0 v2 v4 m
    else
      some (1, m)
set_option maxRecDepth 20000 in
theorem T158 {B : zHp} (H : yH0 B) {e : Nat} (he : 1 ≤ e + 1) (F : Nat) {v0 : Int64} {v2 : Int64} {v4 : Int64} {lv : List (Nat × Value)} {m : xS} {x : Int32 × xS} (l0 : zld lv 0 = some (.long v0)) (l2 : zld lv 2 = some (.long v2)) (l4 : zld lv 4 = some (.long v4)) (h : D158 F v0 v2 v4 m = some x) : zR none e 6 (some .boolean) zc158 (0, lv, []) (xW B m) (some (.int x.1), xW B x.2) := by
  unfold D158 at h
  refine q_ll (k := 1) (i := 0) (q := (.lload_n 0, 1, 0, 0, .null)) rfl (fun _ => rfl) l0 ?_
  refine q_ll (k := 1) (i := 2) (q := (.lload_n 2, 1, 0, 0, .null)) rfl (fun _ => rfl) l2 ?_
  refine r_s (fr' := (3, lv, [.int (lg_cmp v0 v2)])) (hp' := xW B m) (q := (.lcmp, 1, 0, 0, .null)) rfl (fun _ => rfl) (Nat.le_refl _) ?_
  refine r_if (len := 3) (a := 17) (b := 0) (v0 := .null) (cn := .lt) (off := 14) rfl (fun c => ?_) (fun c => ?_)
  · rw [if_pos c] at h
    exact T158_17 H he F l0 l2 l4 h
  · rw [if_neg (by rw [c]; decide)] at h
    refine q_ll (k := 1) (i := 0) (q := (.lload_n 0, 1, 0, 0, .null)) rfl (fun _ => rfl) l0 ?_
    refine q_ll (k := 2) (i := 4) (q := (.lload 4, 2, 0, 0, .null)) rfl (fun _ => rfl) l4 ?_
    refine r_s (fr' := (10, lv, [.int (lg_cmp v0 v4)])) (hp' := xW B m) (q := (.lcmp, 1, 0, 0, .null)) rfl (fun _ => rfl) (Nat.le_refl _) ?_
    refine r_if (len := 3) (a := 17) (b := 0) (v0 := .null) (cn := .gt) (off := 7) rfl (fun c => ?_) (fun c => ?_)
    · rw [if_pos c] at h
      exact T158_17 H he F l0 l2 l4 h
    · rw [if_neg (by rw [c]; decide)] at h
      refine r_s (fr' := (14, lv, [.int 1])) (hp' := xW B m) (q := (.iconst 1, 1, 0, 0, .null)) rfl (fun _ => rfl) (Nat.le_refl _) ?_
      refine r_s (fr' := (18, lv, [.int 1])) (hp' := xW B m) (q := (.goto 4, 3, 18, 0, .null)) rfl (fun _ => rfl) (Nat.le_refl _) ?_
      obtain rfl := Option.some.inj h
      exact q_ri (q := (.ireturn, 1, 0, 0, .null)) rfl (fun _ => rfl) rfl rfl
set_option maxRecDepth 20000 in
theorem Z158 {B : zHp} (H : yH0 B) {F : Nat} {a0 : Int64} {a2 : Int64} {a4 : Int64} {m : xS} {x : Int32 × xS} (h : D158 F a0 a2 a4 m = some x) {d : Nat} (hd : 1 ≤ d) : zCan d 158 [.long a0, .long a2, .long a4] (xW B m) (some (.int x.1), xW B x.2) := by
  obtain ⟨e, rfl⟩ : ∃ e, d = e + 1 := ⟨d - 1, by omega⟩
  refine zCan_body (nL := 6) (rt := (some .boolean)) (cd := zc158) (xg158) ⟨Nat.le_of_ble_eq_true rfl, by decide⟩ (Nat.le_refl _) ?_
  exact T158 H hd F rfl rfl rfl h
/-- LentToolsModel.numberHere -/
def D170_75 (F : Nat) (g34 : Int32 → Int32 → Int32 → Int32 → xS → Option (Int32 × xS)) (v1 : Int32) (v2 : Int32) (v3 : Int32) (v4 : Int32) (m : xS) : Option (Int32 × xS) :=
  g34 v1 v2 v3 v4 (xu m 70 8 ((m.1 70 8) + 1))
set_option maxRecDepth 20000 in
theorem T170_75 {B : zHp} (H : yH0 B) {e : Nat} (he : 2 ≤ e + 1) (F : Nat) (g34 : Int32 → Int32 → Int32 → Int32 → xS → Option (Int32 × xS)) (k34 : ∀ {v1 : Int32} {v2 : Int32} {v3 : Int32} {v4 : Int32} {lv : List (Nat × Value)} {m : xS} {x : Int32 × xS}, zld lv 0 = some (.ref 70) → zld lv 1 = some (.int v1) → zld lv 2 = some (.int v2) → zld lv 3 = some (.int v3) → zld lv 4 = some (.int v4) → g34 v1 v2 v3 v4 m = some x → zR none e 5 (some .boolean) zc170 (34, lv, []) (xW B m) (some (.int x.1), xW B x.2)) {v1 : Int32} {v2 : Int32} {v3 : Int32} {v4 : Int32} {lv : List (Nat × Value)} {m : xS} {x : Int32 × xS} (l0 : zld lv 0 = some (.ref 70)) (l1 : zld lv 1 = some (.int v1)) (l2 : zld lv 2 = some (.int v2)) (l3 : zld lv 3 = some (.int v3)) (l4 : zld lv 4 = some (.int v4)) (h : D170_75 F g34 v1 v2 v3 v4 m = some x) : zR none e 5 (some .boolean) zc170 (75, lv, []) (xW B m) (some (.int x.1), xW B x.2) := by
  unfold D170_75 at h
  refine q_lr (k := 1) (i := 0) (q := (.aload_n 0, 1, 0, 0, .null)) rfl (fun _ => rfl) l0 ?_
  refine r_s (fr' := (77, lv, [.ref 70, .ref 70])) (hp' := xW B m) (q := (.dup, 1, 0, 0, .null)) rfl (fun _ => rfl) (Nat.le_refl _) ?_
  refine r_gi (v := (m.1 70 8)) H (pc := 77) (i := _) rfl (by decide) (by decide) rfl ?_
  refine r_s (fr' := (81, lv, [.int 1, .int (m.1 70 8), .ref 70])) (hp' := xW B m) (q := (.iconst 1, 1, 0, 0, .null)) rfl (fun _ => rfl) (Nat.le_refl _) ?_
  refine r_s (fr' := (82, lv, [.int ((m.1 70 8) + 1), .ref 70])) (hp' := xW B m) (q := (.iadd, 1, 0, 0, .null)) rfl (fun _ => rfl) (Nat.le_refl _) ?_
  refine r_pi (s2 := (xu m 70 8 ((m.1 70 8) + 1))) H (pc := 82) rfl (by decide) rfl rfl ?_
  refine r_s (fr' := (34, lv, [])) (hp' := xW B (xu m 70 8 ((m.1 70 8) + 1))) (q := (.goto (-51), 3, 34, 0, .null)) rfl (fun _ => rfl) (Nat.le_refl _) ?_
  exact k34 l0 l1 l2 l3 l4 h
def D170_126 (F : Nat) (v1 : Int32) (v2 : Int32) (v3 : Int32) (v4 : Int32) (m : xS) : Option (Int32 × xS) :=
  some (1, m)
set_option maxRecDepth 20000 in
theorem T170_126 {B : zHp} (H : yH0 B) {e : Nat} (he : 2 ≤ e + 1) (F : Nat) {v1 : Int32} {v2 : Int32} {v3 : Int32} {v4 : Int32} {lv : List (Nat × Value)} {m : xS} {x : Int32 × xS} (l0 : zld lv 0 = some (.ref 70)) (l1 : zld lv 1 = some (.int v1)) (l2 : zld lv 2 = some (.int v2)) (l3 : zld lv 3 = some (.int v3)) (l4 : zld lv 4 = some (.int v4)) (h : D170_126 F v1 v2 v3 v4 m = some x) : zR none e 5 (some .boolean) zc170 (126, lv, []) (xW B m) (some (.int x.1), xW B x.2) := by
  unfold D170_126 at h
  refine r_s (fr' := (127, lv, [.int 1])) (hp' := xW B m) (q := (.iconst 1, 1, 0, 0, .null)) rfl (fun _ => rfl) (Nat.le_refl _) ?_
  refine r_s (fr' := (131, lv, [.int 1])) (hp' := xW B m) (q := (.goto 4, 3, 131, 0, .null)) rfl (fun _ => rfl) (Nat.le_refl _) ?_
  obtain rfl := Option.some.inj h
  exact q_ri (q := (.ireturn, 1, 0, 0, .null)) rfl (fun _ => rfl) rfl rfl
def D170_117 (F : Nat) (v1 : Int32) (v2 : Int32) (v3 : Int32) (v4 : Int32) (m : xS) : Option (Int32 × xS) :=
  (D163 F 1 v3 m).bind fun q120 =>
    if zcmp .eq q120.1 0 = true then
      some (0, q120.2)
    else
      D170_126 F v1 v2 v3 v4 q120.2
set_option maxRecDepth 20000 in
theorem T170_117 {B : zHp} (H : yH0 B) {e : Nat} (he : 2 ≤ e + 1) (F : Nat) {v1 : Int32} {v2 : Int32} {v3 : Int32} {v4 : Int32} {lv : List (Nat × Value)} {m : xS} {x : Int32 × xS} (l0 : zld lv 0 = some (.ref 70)) (l1 : zld lv 1 = some (.int v1)) (l2 : zld lv 2 = some (.int v2)) (l3 : zld lv 3 = some (.int v3)) (l4 : zld lv 4 = some (.int v4)) (h : D170_117 F v1 v2 v3 v4 m = some x) : zR none e 5 (some .boolean) zc170 (117, lv, []) (xW B m) (some (.int x.1), xW B x.2) := by
  unfold D170_117 at h
  refine q_lr (k := 1) (i := 0) (q := (.aload_n 0, 1, 0, 0, .null)) rfl (fun _ => rfl) l0 ?_
  refine r_s (fr' := (119, lv, [.int 1, .ref 70])) (hp' := xW B m) (q := (.iconst 1, 1, 0, 0, .null)) rfl (fun _ => rfl) (Nat.le_refl _) ?_
  refine q_li (k := 1) (i := 3) (q := (.iload_n 3, 1, 0, 0, .null)) rfl (fun _ => rfl) l3 ?_
  obtain ⟨q120, h120, h⟩ := xbind h
  refine r_call (ix := 70) (as := [.int 1, .int v3]) (rest := []) (rv := some (.int q120.1)) (hp' := xW B q120.2) (pc := 120) rfl xr163 rfl rfl rfl (xkd H (by decide)) (Nat.le_of_ble_eq_true rfl) (Z163 H h120 (by omega)) (Nat.le_refl _) ?_
  refine r_if (len := 3) (a := 130) (b := 0) (v0 := .null) (cn := .eq) (off := 7) rfl (fun c => ?_) (fun c => ?_)
  · rw [if_pos c] at h
    refine r_s (fr' := (131, lv, [.int 0])) (hp' := xW B q120.2) (q := (.iconst 0, 1, 0, 0, .null)) rfl (fun _ => rfl) (Nat.le_refl _) ?_
    obtain rfl := Option.some.inj h
    exact q_ri (q := (.ireturn, 1, 0, 0, .null)) rfl (fun _ => rfl) rfl rfl
  · rw [if_neg (by rw [c]; decide)] at h
    exact T170_126 H he F l0 l1 l2 l3 l4 h
def D170_34 (F : Nat) : Nat → Int32 → Int32 → Int32 → Int32 → xS → Option (Int32 × xS)
  | 0, _, _, _, _, _ => none
  | f + 1, v1, v2, v3, v4, m =>
    (D165 F (m.1 70 8) m).bind fun q39 =>
      if zcmp .eq q39.1 0 = true then
        if zcmp .gt ((q39.2.1 70 8) - v3) 5 = true then
          D170_117 F v1 v2 v3 v4 (xu q39.2 70 10 v4)
        else
          (D158 F (v4 : Int32).toInt64 (v1 : Int32).toInt64 (v2 : Int32).toInt64 (xu q39.2 70 10 v4)).bind fun q111 =>
            if zcmp .ne q111.1 0 = true then
              D170_126 F v1 v2 v3 v4 q111.2
            else
              D170_117 F v1 v2 v3 v4 q111.2
      else
        if zcmp .ge ((q39.2.1 70 8) - v3) 5 = true then
          D170_75 F (D170_34 F f) v1 v2 v3 v4 q39.2
        else
          if xib (q39.2.1 70 8) 400 = true then
            D170_75 F (D170_34 F f) v1 v2 v3 (((10 * v4) + (q39.2.1 71 ((q39.2.1 70 8) : Int32).toNatClampNeg)) - 48) q39.2
          else none
set_option maxRecDepth 20000 in
theorem T170_34 {B : zHp} (H : yH0 B) {e : Nat} (he : 2 ≤ e + 1) (F : Nat) : ∀ (f : Nat) {v1 : Int32} {v2 : Int32} {v3 : Int32} {v4 : Int32} {lv : List (Nat × Value)} {m : xS} {x : Int32 × xS}, zld lv 0 = some (.ref 70) → zld lv 1 = some (.int v1) → zld lv 2 = some (.int v2) → zld lv 3 = some (.int v3) → zld lv 4 = some (.int v4) → D170_34 F f v1 v2 v3 v4 m = some x → zR none e 5 (some .boolean) zc170 (34, lv, []) (xW B m) (some (.int x.1), xW B x.2) := by
  intro f
  induction f with
  | zero => intro v1 v2 v3 v4 lv m x l0 l1 l2 l3 l4 h; cases h
  | succ f ih =>
    intro v1 v2 v3 v4 lv m x l0 l1 l2 l3 l4 h
    unfold D170_34 at h
    refine q_lr (k := 1) (i := 0) (q := (.aload_n 0, 1, 0, 0, .null)) rfl (fun _ => rfl) l0 ?_
    refine q_lr (k := 1) (i := 0) (q := (.aload_n 0, 1, 0, 0, .null)) rfl (fun _ => rfl) l0 ?_
    refine r_gi (v := (m.1 70 8)) H (pc := 36) (i := _) rfl (by decide) (by decide) rfl ?_
    obtain ⟨q39, h39, h⟩ := xbind h
    refine r_call (ix := 70) (as := [.int (m.1 70 8)]) (rest := []) (rv := some (.int q39.1)) (hp' := xW B q39.2) (pc := 39) rfl xr165 rfl rfl rfl (xkd H (by decide)) (Nat.le_of_ble_eq_true rfl) (Z165 H h39 (by omega)) (Nat.le_refl _) ?_
    refine r_if (len := 3) (a := 88) (b := 0) (v0 := .null) (cn := .eq) (off := 46) rfl (fun c => ?_) (fun c => ?_)
    · rw [if_pos c] at h
      refine q_lr (k := 1) (i := 0) (q := (.aload_n 0, 1, 0, 0, .null)) rfl (fun _ => rfl) l0 ?_
      refine q_li (k := 2) (i := 4) (q := (.iload 4, 2, 0, 0, .null)) rfl (fun _ => rfl) l4 ?_
      refine r_pi (s2 := (xu q39.2 70 10 v4)) H (pc := 91) rfl (by decide) rfl rfl ?_
      refine q_lr (k := 1) (i := 0) (q := (.aload_n 0, 1, 0, 0, .null)) rfl (fun _ => rfl) l0 ?_
      refine r_gi (v := (q39.2.1 70 8)) H (pc := 95) (i := _) rfl (by decide) (by decide) rfl ?_
      refine q_li (k := 1) (i := 3) (q := (.iload_n 3, 1, 0, 0, .null)) rfl (fun _ => rfl) l3 ?_
      refine r_s (fr' := (100, lv, [.int ((q39.2.1 70 8) - v3)])) (hp' := xW B (xu q39.2 70 10 v4)) (q := (.isub, 1, 0, 0, .null)) rfl (fun _ => rfl) (Nat.le_refl _) ?_
      refine r_s (fr' := (101, lv, [.int 5, .int ((q39.2.1 70 8) - v3)])) (hp' := xW B (xu q39.2 70 10 v4)) (q := (.iconst 5, 1, 0, 0, .null)) rfl (fun _ => rfl) (Nat.le_refl _) ?_
      refine r_ifc (len := 3) (a := 117) (b := 0) (v0 := .null) (cn := .gt) (off := 16) rfl (fun c => ?_) (fun c => ?_)
      · rw [if_pos c] at h
        exact T170_117 H he F l0 l1 l2 l3 l4 h
      · rw [if_neg (by rw [c]; decide)] at h
        refine q_li (k := 2) (i := 4) (q := (.iload 4, 2, 0, 0, .null)) rfl (fun _ => rfl) l4 ?_
        refine r_s (fr' := (107, lv, [.long (v4 : Int32).toInt64])) (hp' := xW B (xu q39.2 70 10 v4)) (q := (.i2l, 1, 0, 0, .null)) rfl (fun _ => rfl) (Nat.le_refl _) ?_
        refine q_li (k := 1) (i := 1) (q := (.iload_n 1, 1, 0, 0, .null)) rfl (fun _ => rfl) l1 ?_
        refine r_s (fr' := (109, lv, [.long (v1 : Int32).toInt64, .long (v4 : Int32).toInt64])) (hp' := xW B (xu q39.2 70 10 v4)) (q := (.i2l, 1, 0, 0, .null)) rfl (fun _ => rfl) (Nat.le_refl _) ?_
        refine q_li (k := 1) (i := 2) (q := (.iload_n 2, 1, 0, 0, .null)) rfl (fun _ => rfl) l2 ?_
        refine r_s (fr' := (111, lv, [.long (v2 : Int32).toInt64, .long (v1 : Int32).toInt64, .long (v4 : Int32).toInt64])) (hp' := xW B (xu q39.2 70 10 v4)) (q := (.i2l, 1, 0, 0, .null)) rfl (fun _ => rfl) (Nat.le_refl _) ?_
        obtain ⟨q111, h111, h⟩ := xbind h
        refine r_callS (as := [.long (v4 : Int32).toInt64, .long (v1 : Int32).toInt64, .long (v2 : Int32).toInt64]) (rest := []) (rv := some (.int q111.1)) (hp' := xW B q111.2) (pc := 111) rfl xr158 rfl rfl rfl (Nat.le_of_ble_eq_true rfl) (Z158 H h111 (by omega)) (Nat.le_refl _) ?_
        refine r_if (len := 3) (a := 126) (b := 0) (v0 := .null) (cn := .ne) (off := 12) rfl (fun c => ?_) (fun c => ?_)
        · rw [if_pos c] at h
          exact T170_126 H he F l0 l1 l2 l3 l4 h
        · rw [if_neg (by rw [c]; decide)] at h
          exact T170_117 H he F l0 l1 l2 l3 l4 h
    · rw [if_neg (by rw [c]; decide)] at h
      refine q_lr (k := 1) (i := 0) (q := (.aload_n 0, 1, 0, 0, .null)) rfl (fun _ => rfl) l0 ?_
      refine r_gi (v := (q39.2.1 70 8)) H (pc := 46) (i := _) rfl (by decide) (by decide) rfl ?_
      refine q_li (k := 1) (i := 3) (q := (.iload_n 3, 1, 0, 0, .null)) rfl (fun _ => rfl) l3 ?_
      refine r_s (fr' := (51, lv, [.int ((q39.2.1 70 8) - v3)])) (hp' := xW B q39.2) (q := (.isub, 1, 0, 0, .null)) rfl (fun _ => rfl) (Nat.le_refl _) ?_
      refine r_s (fr' := (52, lv, [.int 5, .int ((q39.2.1 70 8) - v3)])) (hp' := xW B q39.2) (q := (.iconst 5, 1, 0, 0, .null)) rfl (fun _ => rfl) (Nat.le_refl _) ?_
      refine r_ifc (len := 3) (a := 75) (b := 0) (v0 := .null) (cn := .ge) (off := 23) rfl (fun c => ?_) (fun c => ?_)
      · rw [if_pos c] at h
        exact T170_75 H he F _ ih l0 l1 l2 l3 l4 h
      · rw [if_neg (by rw [c]; decide)] at h
        refine r_s (fr' := (57, lv, [.int 10])) (hp' := xW B q39.2) (q := (.bipush 10, 2, 0, 0, .null)) rfl (fun _ => rfl) (Nat.le_refl _) ?_
        refine q_li (k := 2) (i := 4) (q := (.iload 4, 2, 0, 0, .null)) rfl (fun _ => rfl) l4 ?_
        refine r_s (fr' := (60, lv, [.int (10 * v4)])) (hp' := xW B q39.2) (q := (.imul, 1, 0, 0, .null)) rfl (fun _ => rfl) (Nat.le_refl _) ?_
        refine q_lr (k := 1) (i := 0) (q := (.aload_n 0, 1, 0, 0, .null)) rfl (fun _ => rfl) l0 ?_
        refine r_gr (c := 71) H (pc := 61) rfl (by decide) (by decide) ?_
        refine q_lr (k := 1) (i := 0) (q := (.aload_n 0, 1, 0, 0, .null)) rfl (fun _ => rfl) l0 ?_
        refine r_gi (v := (q39.2.1 70 8)) H (pc := 65) (i := _) rfl (by decide) (by decide) rfl ?_
        obtain ⟨c1, h⟩ := xif h
        refine q_bl (n := 400) (v := (q39.2.1 71 ((q39.2.1 70 8) : Int32).toNatClampNeg)) (k := 1) H (pc := 68) rfl (by decide) (by decide) c1 rfl ?_
        refine r_s (fr' := (70, lv, [.int ((10 * v4) + (q39.2.1 71 ((q39.2.1 70 8) : Int32).toNatClampNeg))])) (hp' := xW B q39.2) (q := (.iadd, 1, 0, 0, .null)) rfl (fun _ => rfl) (Nat.le_refl _) ?_
        refine r_s (fr' := (72, lv, [.int 48, .int ((10 * v4) + (q39.2.1 71 ((q39.2.1 70 8) : Int32).toNatClampNeg))])) (hp' := xW B q39.2) (q := (.bipush 48, 2, 0, 0, .null)) rfl (fun _ => rfl) (Nat.le_refl _) ?_
        refine r_s (fr' := (73, lv, [.int (((10 * v4) + (q39.2.1 71 ((q39.2.1 70 8) : Int32).toNatClampNeg)) - 48)])) (hp' := xW B q39.2) (q := (.isub, 1, 0, 0, .null)) rfl (fun _ => rfl) (Nat.le_refl _) ?_
        refine q_si (k := 2) (i := 4) (q := (.istore 4, 2, 0, 0, .null)) rfl (fun _ => rfl) (by decide) ?_
        have l0_2 : zld (zs1 lv 4 (.int (((10 * v4) + (q39.2.1 71 ((q39.2.1 70 8) : Int32).toNatClampNeg)) - 48))) 0 = some (.ref 70) := x_o1 l0 rfl rfl
        have l1_2 : zld (zs1 lv 4 (.int (((10 * v4) + (q39.2.1 71 ((q39.2.1 70 8) : Int32).toNatClampNeg)) - 48))) 1 = some (.int v1) := x_o1 l1 rfl rfl
        have l2_2 : zld (zs1 lv 4 (.int (((10 * v4) + (q39.2.1 71 ((q39.2.1 70 8) : Int32).toNatClampNeg)) - 48))) 2 = some (.int v2) := x_o1 l2 rfl rfl
        have l3_2 : zld (zs1 lv 4 (.int (((10 * v4) + (q39.2.1 71 ((q39.2.1 70 8) : Int32).toNatClampNeg)) - 48))) 3 = some (.int v3) := x_o1 l3 rfl rfl
        have l4_2 : zld (zs1 lv 4 (.int (((10 * v4) + (q39.2.1 71 ((q39.2.1 70 8) : Int32).toNatClampNeg)) - 48))) 4 = some (.int (((10 * v4) + (q39.2.1 71 ((q39.2.1 70 8) : Int32).toNatClampNeg)) - 48)) := zs1_ld _ _ _
        generalize (zs1 lv 4 (.int (((10 * v4) + (q39.2.1 71 ((q39.2.1 70 8) : Int32).toNatClampNeg)) - 48))) = lv2 at *
        exact T170_75 H he F _ ih l0_2 l1_2 l2_2 l3_2 l4_2 h
def D170 (F : Nat) (v1 : Int32) (v2 : Int32) (m : xS) : Option (Int32 × xS) :=
  (D164 F m).bind fun q1 =>
    (D165 F (q1.2.1 70 8) q1.2).bind fun q10 =>
      if zcmp .ne q10.1 0 = true then
        D170_34 F F v1 v2 (q10.2.1 70 8) 0 q10.2
      else
        (D163 F 0 (q10.2.1 70 8) q10.2).bind fun q22 =>
          if xbo q22.1 = true then
            some (q22.1, q22.2)
          else none
set_option maxRecDepth 20000 in
theorem T170 {B : zHp} (H : yH0 B) {e : Nat} (he : 2 ≤ e + 1) (F : Nat) {v1 : Int32} {v2 : Int32} {lv : List (Nat × Value)} {m : xS} {x : Int32 × xS} (l0 : zld lv 0 = some (.ref 70)) (l1 : zld lv 1 = some (.int v1)) (l2 : zld lv 2 = some (.int v2)) (h : D170 F v1 v2 m = some x) : zR none e 5 (some .boolean) zc170 (0, lv, []) (xW B m) (some (.int x.1), xW B x.2) := by
  unfold D170 at h
  refine q_lr (k := 1) (i := 0) (q := (.aload_n 0, 1, 0, 0, .null)) rfl (fun _ => rfl) l0 ?_
  obtain ⟨q1, h1, h⟩ := xbind h
  refine r_call (ix := 70) (as := []) (rest := []) (rv := some (.int q1.1)) (hp' := xW B q1.2) (pc := 1) rfl xr164 rfl rfl rfl (xkd H (by decide)) (Nat.le_of_ble_eq_true rfl) (Z164 H h1 (by omega)) (Nat.le_refl _) ?_
  refine r_s (fr' := (5, lv, [])) (hp' := xW B q1.2) (q := (.pop, 1, 0, 0, .null)) rfl (fun _ => rfl) (Nat.le_refl _) ?_
  refine q_lr (k := 1) (i := 0) (q := (.aload_n 0, 1, 0, 0, .null)) rfl (fun _ => rfl) l0 ?_
  refine q_lr (k := 1) (i := 0) (q := (.aload_n 0, 1, 0, 0, .null)) rfl (fun _ => rfl) l0 ?_
  refine r_gi (v := (q1.2.1 70 8)) H (pc := 7) (i := _) rfl (by decide) (by decide) rfl ?_
  obtain ⟨q10, h10, h⟩ := xbind h
  refine r_call (ix := 70) (as := [.int (q1.2.1 70 8)]) (rest := []) (rv := some (.int q10.1)) (hp' := xW B q10.2) (pc := 10) rfl xr165 rfl rfl rfl (xkd H (by decide)) (Nat.le_of_ble_eq_true rfl) (Z165 H h10 (by omega)) (Nat.le_refl _) ?_
  refine r_if (len := 3) (a := 26) (b := 0) (v0 := .null) (cn := .ne) (off := 13) rfl (fun c => ?_) (fun c => ?_)
  · rw [if_pos c] at h
    refine q_lr (k := 1) (i := 0) (q := (.aload_n 0, 1, 0, 0, .null)) rfl (fun _ => rfl) l0 ?_
    refine r_gi (v := (q10.2.1 70 8)) H (pc := 27) (i := _) rfl (by decide) (by decide) rfl ?_
    refine q_si (k := 1) (i := 3) (q := (.istore_n 3, 1, 0, 0, .null)) rfl (fun _ => rfl) (by decide) ?_
    have l0_1 : zld (zs1 lv 3 (.int (q10.2.1 70 8))) 0 = some (.ref 70) := x_o1 l0 rfl rfl
    have l1_1 : zld (zs1 lv 3 (.int (q10.2.1 70 8))) 1 = some (.int v1) := x_o1 l1 rfl rfl
    have l2_1 : zld (zs1 lv 3 (.int (q10.2.1 70 8))) 2 = some (.int v2) := x_o1 l2 rfl rfl
    have l3_1 : zld (zs1 lv 3 (.int (q10.2.1 70 8))) 3 = some (.int (q10.2.1 70 8)) := zs1_ld _ _ _
    generalize (zs1 lv 3 (.int (q10.2.1 70 8))) = lv1 at *
    refine r_s (fr' := (32, lv1, [.int 0])) (hp' := xW B q10.2) (q := (.iconst 0, 1, 0, 0, .null)) rfl (fun _ => rfl) (Nat.le_refl _) ?_
    refine q_si (k := 2) (i := 4) (q := (.istore 4, 2, 0, 0, .null)) rfl (fun _ => rfl) (by decide) ?_
    have l0_2 : zld (zs1 lv1 4 (.int 0)) 0 = some (.ref 70) := x_o1 l0_1 rfl rfl
    have l1_2 : zld (zs1 lv1 4 (.int 0)) 1 = some (.int v1) := x_o1 l1_1 rfl rfl
    have l2_2 : zld (zs1 lv1 4 (.int 0)) 2 = some (.int v2) := x_o1 l2_1 rfl rfl
    have l3_2 : zld (zs1 lv1 4 (.int 0)) 3 = some (.int (q10.2.1 70 8)) := x_o1 l3_1 rfl rfl
    have l4_2 : zld (zs1 lv1 4 (.int 0)) 4 = some (.int 0) := zs1_ld _ _ _
    generalize (zs1 lv1 4 (.int 0)) = lv2 at *
    exact T170_34 H he F F l0_2 l1_2 l2_2 l3_2 l4_2 h
  · rw [if_neg (by rw [c]; decide)] at h
    refine q_lr (k := 1) (i := 0) (q := (.aload_n 0, 1, 0, 0, .null)) rfl (fun _ => rfl) l0 ?_
    refine r_s (fr' := (18, lv, [.int 0, .ref 70])) (hp' := xW B q10.2) (q := (.iconst 0, 1, 0, 0, .null)) rfl (fun _ => rfl) (Nat.le_refl _) ?_
    refine q_lr (k := 1) (i := 0) (q := (.aload_n 0, 1, 0, 0, .null)) rfl (fun _ => rfl) l0 ?_
    refine r_gi (v := (q10.2.1 70 8)) H (pc := 19) (i := _) rfl (by decide) (by decide) rfl ?_
    obtain ⟨q22, h22, h⟩ := xbind h
    refine r_call (ix := 70) (as := [.int 0, .int (q10.2.1 70 8)]) (rest := []) (rv := some (.int q22.1)) (hp' := xW B q22.2) (pc := 22) rfl xr163 rfl rfl rfl (xkd H (by decide)) (Nat.le_of_ble_eq_true rfl) (Z163 H h22 (by omega)) (Nat.le_refl _) ?_
    obtain ⟨c3, h⟩ := xif h
    obtain rfl := Option.some.inj h
    exact q_ri (q := (.ireturn, 1, 0, 0, .null)) rfl (fun _ => rfl) rfl (xbo_ok c3)
set_option maxRecDepth 20000 in
theorem Z170 {B : zHp} (H : yH0 B) {F : Nat} {a1 : Int32} {a2 : Int32} {m : xS} {x : Int32 × xS} (h : D170 F a1 a2 m = some x) {d : Nat} (hd : 2 ≤ d) : zCan d 170 [.ref 70, .int a1, .int a2] (xW B m) (some (.int x.1), xW B x.2) := by
  obtain ⟨e, rfl⟩ : ∃ e, d = e + 1 := ⟨d - 1, by omega⟩
  refine zCan_body (nL := 5) (rt := (some .boolean)) (cd := zc170) (xg170) ⟨Nat.le_of_ble_eq_true rfl, by decide⟩ (Nat.le_refl _) ?_
  exact T170 H hd F rfl rfl rfl h
/-- LentToolsModel.cellHere -/
def D186 (F : Nat) (v1 : Int32) (v2 : Int32) (v3 : Int32) (m : xS) : Option (Int32 × xS) :=
  (D170 F v2 v3 m).bind fun q3 =>
    if zcmp .ne q3.1 0 = true then
      if xib v1 148 = true then
        some (1, (xu q3.2 76 (v1 : Int32).toNatClampNeg (q3.2.1 70 10)))
      else none
    else
      some (0, q3.2)
set_option maxRecDepth 20000 in
theorem T186 {B : zHp} (H : yH0 B) {e : Nat} (he : 3 ≤ e + 1) (F : Nat) {v1 : Int32} {v2 : Int32} {v3 : Int32} {lv : List (Nat × Value)} {m : xS} {x : Int32 × xS} (l0 : zld lv 0 = some (.ref 70)) (l1 : zld lv 1 = some (.int v1)) (l2 : zld lv 2 = some (.int v2)) (l3 : zld lv 3 = some (.int v3)) (h : D186 F v1 v2 v3 m = some x) : zR none e 4 (some .boolean) zc186 (0, lv, []) (xW B m) (some (.int x.1), xW B x.2) := by
  unfold D186 at h
  refine q_lr (k := 1) (i := 0) (q := (.aload_n 0, 1, 0, 0, .null)) rfl (fun _ => rfl) l0 ?_
  refine q_li (k := 1) (i := 2) (q := (.iload_n 2, 1, 0, 0, .null)) rfl (fun _ => rfl) l2 ?_
  refine q_li (k := 1) (i := 3) (q := (.iload_n 3, 1, 0, 0, .null)) rfl (fun _ => rfl) l3 ?_
  obtain ⟨q3, h3, h⟩ := xbind h
  refine r_call (ix := 70) (as := [.int v2, .int v3]) (rest := []) (rv := some (.int q3.1)) (hp' := xW B q3.2) (pc := 3) rfl xr170 rfl rfl rfl (xkd H (by decide)) (Nat.le_of_ble_eq_true rfl) (Z170 H h3 (by omega)) (Nat.le_refl _) ?_
  refine r_if (len := 3) (a := 11) (b := 0) (v0 := .null) (cn := .ne) (off := 5) rfl (fun c => ?_) (fun c => ?_)
  · rw [if_pos c] at h
    refine q_lr (k := 1) (i := 0) (q := (.aload_n 0, 1, 0, 0, .null)) rfl (fun _ => rfl) l0 ?_
    refine r_gr (c := 76) H (pc := 12) rfl (by decide) (by decide) ?_
    refine q_li (k := 1) (i := 1) (q := (.iload_n 1, 1, 0, 0, .null)) rfl (fun _ => rfl) l1 ?_
    refine q_lr (k := 1) (i := 0) (q := (.aload_n 0, 1, 0, 0, .null)) rfl (fun _ => rfl) l0 ?_
    refine r_gi (v := (q3.2.1 70 10)) H (pc := 17) (i := _) rfl (by decide) (by decide) rfl ?_
    obtain ⟨c1, h⟩ := xif h
    refine q_as (n := 148) (s2 := (xu q3.2 76 (v1 : Int32).toNatClampNeg (q3.2.1 70 10))) H (pc := 20) rfl (by decide) c1 rfl ?_
    refine r_s (fr' := (22, lv, [.int 1])) (hp' := xW B (xu q3.2 76 (v1 : Int32).toNatClampNeg (q3.2.1 70 10))) (q := (.iconst 1, 1, 0, 0, .null)) rfl (fun _ => rfl) (Nat.le_refl _) ?_
    obtain rfl := Option.some.inj h
    exact q_ri (q := (.ireturn, 1, 0, 0, .null)) rfl (fun _ => rfl) rfl rfl
  · rw [if_neg (by rw [c]; decide)] at h
    refine r_s (fr' := (10, lv, [.int 0])) (hp' := xW B q3.2) (q := (.iconst 0, 1, 0, 0, .null)) rfl (fun _ => rfl) (Nat.le_refl _) ?_
    obtain rfl := Option.some.inj h
    exact q_ri (q := (.ireturn, 1, 0, 0, .null)) rfl (fun _ => rfl) rfl rfl
set_option maxRecDepth 20000 in
theorem Z186 {B : zHp} (H : yH0 B) {F : Nat} {a1 : Int32} {a2 : Int32} {a3 : Int32} {m : xS} {x : Int32 × xS} (h : D186 F a1 a2 a3 m = some x) {d : Nat} (hd : 3 ≤ d) : zCan d 186 [.ref 70, .int a1, .int a2, .int a3] (xW B m) (some (.int x.1), xW B x.2) := by
  obtain ⟨e, rfl⟩ : ∃ e, d = e + 1 := ⟨d - 1, by omega⟩
  refine zCan_body (nL := 4) (rt := (some .boolean)) (cd := zc186) (xg186) ⟨Nat.le_of_ble_eq_true rfl, by decide⟩ (Nat.le_refl _) ?_
  exact T186 H hd F rfl rfl rfl rfl h
/-- LentToolsModel.isVillageHere -/
def D187 (F : Nat) (v1 : Int32) (m : xS) : Option (Int32 × xS) :=
  if zcmp .le (m.1 76 0) 0 = true then
    (D168 F m).bind fun q17 =>
      (D170 F 2 6 q17.2).bind fun q24 =>
        if zcmp .ne q24.1 0 = true then
          (D186 F 1 1 20 q24.2).bind fun q42 =>
            if zcmp .ne q42.1 0 = true then
              some (1, (xu q42.2 76 0 (q24.2.1 70 10)))
            else
              some (0, q42.2)
        else
          some (0, q24.2)
  else
    (D163 F 4 v1 m).bind fun q12 =>
      if xbo q12.1 = true then
        some (q12.1, q12.2)
      else none
set_option maxRecDepth 20000 in
theorem T187 {B : zHp} (H : yH0 B) {e : Nat} (he : 4 ≤ e + 1) (F : Nat) {v1 : Int32} {lv : List (Nat × Value)} {m : xS} {x : Int32 × xS} (l0 : zld lv 0 = some (.ref 70)) (l1 : zld lv 1 = some (.int v1)) (h : D187 F v1 m = some x) : zR none e 3 (some .boolean) zc187 (0, lv, []) (xW B m) (some (.int x.1), xW B x.2) := by
  unfold D187 at h
  refine q_lr (k := 1) (i := 0) (q := (.aload_n 0, 1, 0, 0, .null)) rfl (fun _ => rfl) l0 ?_
  refine r_gr (c := 76) H (pc := 1) rfl (by decide) (by decide) ?_
  refine r_s (fr' := (5, lv, [.int 0, .ref 76])) (hp' := xW B m) (q := (.iconst 0, 1, 0, 0, .null)) rfl (fun _ => rfl) (Nat.le_refl _) ?_
  refine q_al (n := 148) (v := (m.1 76 0)) H (pc := 5) rfl (by decide) (by decide) rfl ?_
  refine r_if (len := 3) (a := 16) (b := 0) (v0 := .null) (cn := .le) (off := 10) rfl (fun c => ?_) (fun c => ?_)
  · rw [if_pos c] at h
    refine q_lr (k := 1) (i := 0) (q := (.aload_n 0, 1, 0, 0, .null)) rfl (fun _ => rfl) l0 ?_
    obtain ⟨q17, h17, h⟩ := xbind h
    refine r_call (ix := 70) (as := []) (rest := []) (rv := none) (hp' := xW B q17.2) (pc := 17) rfl xr168 rfl rfl rfl (xkd H (by decide)) (Nat.le_of_ble_eq_true rfl) (Z168 H h17 (by omega)) (Nat.le_refl _) ?_
    refine q_lr (k := 1) (i := 0) (q := (.aload_n 0, 1, 0, 0, .null)) rfl (fun _ => rfl) l0 ?_
    refine r_s (fr' := (22, lv, [.int 2, .ref 70])) (hp' := xW B q17.2) (q := (.iconst 2, 1, 0, 0, .null)) rfl (fun _ => rfl) (Nat.le_refl _) ?_
    refine r_s (fr' := (24, lv, [.int 6, .int 2, .ref 70])) (hp' := xW B q17.2) (q := (.bipush 6, 2, 0, 0, .null)) rfl (fun _ => rfl) (Nat.le_refl _) ?_
    obtain ⟨q24, h24, h⟩ := xbind h
    refine r_call (ix := 70) (as := [.int 2, .int 6]) (rest := []) (rv := some (.int q24.1)) (hp' := xW B q24.2) (pc := 24) rfl xr170 rfl rfl rfl (xkd H (by decide)) (Nat.le_of_ble_eq_true rfl) (Z170 H h24 (by omega)) (Nat.le_refl _) ?_
    refine r_if (len := 3) (a := 32) (b := 0) (v0 := .null) (cn := .ne) (off := 5) rfl (fun c => ?_) (fun c => ?_)
    · rw [if_pos c] at h
      refine q_lr (k := 1) (i := 0) (q := (.aload_n 0, 1, 0, 0, .null)) rfl (fun _ => rfl) l0 ?_
      refine r_gi (v := (q24.2.1 70 10)) H (pc := 33) (i := _) rfl (by decide) (by decide) rfl ?_
      refine q_si (k := 1) (i := 2) (q := (.istore_n 2, 1, 0, 0, .null)) rfl (fun _ => rfl) (by decide) ?_
      have l0_1 : zld (zs1 lv 2 (.int (q24.2.1 70 10))) 0 = some (.ref 70) := x_o1 l0 rfl rfl
      have l1_1 : zld (zs1 lv 2 (.int (q24.2.1 70 10))) 1 = some (.int v1) := x_o1 l1 rfl rfl
      have l2_1 : zld (zs1 lv 2 (.int (q24.2.1 70 10))) 2 = some (.int (q24.2.1 70 10)) := zs1_ld _ _ _
      generalize (zs1 lv 2 (.int (q24.2.1 70 10))) = lv1 at *
      refine q_lr (k := 1) (i := 0) (q := (.aload_n 0, 1, 0, 0, .null)) rfl (fun _ => rfl) l0_1 ?_
      refine r_s (fr' := (39, lv1, [.int 1, .ref 70])) (hp' := xW B q24.2) (q := (.iconst 1, 1, 0, 0, .null)) rfl (fun _ => rfl) (Nat.le_refl _) ?_
      refine r_s (fr' := (40, lv1, [.int 1, .int 1, .ref 70])) (hp' := xW B q24.2) (q := (.iconst 1, 1, 0, 0, .null)) rfl (fun _ => rfl) (Nat.le_refl _) ?_
      refine r_s (fr' := (42, lv1, [.int 20, .int 1, .int 1, .ref 70])) (hp' := xW B q24.2) (q := (.bipush 20, 2, 0, 0, .null)) rfl (fun _ => rfl) (Nat.le_refl _) ?_
      obtain ⟨q42, h42, h⟩ := xbind h
      refine r_call (ix := 70) (as := [.int 1, .int 1, .int 20]) (rest := []) (rv := some (.int q42.1)) (hp' := xW B q42.2) (pc := 42) rfl xr186 rfl rfl rfl (xkd H (by decide)) (Nat.le_of_ble_eq_true rfl) (Z186 H h42 (by omega)) (Nat.le_refl _) ?_
      refine r_if (len := 3) (a := 50) (b := 0) (v0 := .null) (cn := .ne) (off := 5) rfl (fun c => ?_) (fun c => ?_)
      · rw [if_pos c] at h
        refine q_lr (k := 1) (i := 0) (q := (.aload_n 0, 1, 0, 0, .null)) rfl (fun _ => rfl) l0_1 ?_
        refine r_gr (c := 76) H (pc := 51) rfl (by decide) (by decide) ?_
        refine r_s (fr' := (55, lv1, [.int 0, .ref 76])) (hp' := xW B q42.2) (q := (.iconst 0, 1, 0, 0, .null)) rfl (fun _ => rfl) (Nat.le_refl _) ?_
        refine q_li (k := 1) (i := 2) (q := (.iload_n 2, 1, 0, 0, .null)) rfl (fun _ => rfl) l2_1 ?_
        refine q_as (n := 148) (s2 := (xu q42.2 76 0 (q24.2.1 70 10))) H (pc := 56) rfl (by decide) (by decide) rfl ?_
        refine r_s (fr' := (58, lv1, [.int 1])) (hp' := xW B (xu q42.2 76 0 (q24.2.1 70 10))) (q := (.iconst 1, 1, 0, 0, .null)) rfl (fun _ => rfl) (Nat.le_refl _) ?_
        obtain rfl := Option.some.inj h
        exact q_ri (q := (.ireturn, 1, 0, 0, .null)) rfl (fun _ => rfl) rfl rfl
      · rw [if_neg (by rw [c]; decide)] at h
        refine r_s (fr' := (49, lv1, [.int 0])) (hp' := xW B q42.2) (q := (.iconst 0, 1, 0, 0, .null)) rfl (fun _ => rfl) (Nat.le_refl _) ?_
        obtain rfl := Option.some.inj h
        exact q_ri (q := (.ireturn, 1, 0, 0, .null)) rfl (fun _ => rfl) rfl rfl
    · rw [if_neg (by rw [c]; decide)] at h
      refine r_s (fr' := (31, lv, [.int 0])) (hp' := xW B q24.2) (q := (.iconst 0, 1, 0, 0, .null)) rfl (fun _ => rfl) (Nat.le_refl _) ?_
      obtain rfl := Option.some.inj h
      exact q_ri (q := (.ireturn, 1, 0, 0, .null)) rfl (fun _ => rfl) rfl rfl
  · rw [if_neg (by rw [c]; decide)] at h
    refine q_lr (k := 1) (i := 0) (q := (.aload_n 0, 1, 0, 0, .null)) rfl (fun _ => rfl) l0 ?_
    refine r_s (fr' := (11, lv, [.int 4, .ref 70])) (hp' := xW B m) (q := (.iconst 4, 1, 0, 0, .null)) rfl (fun _ => rfl) (Nat.le_refl _) ?_
    refine q_li (k := 1) (i := 1) (q := (.iload_n 1, 1, 0, 0, .null)) rfl (fun _ => rfl) l1 ?_
    obtain ⟨q12, h12, h⟩ := xbind h
    refine r_call (ix := 70) (as := [.int 4, .int v1]) (rest := []) (rv := some (.int q12.1)) (hp' := xW B q12.2) (pc := 12) rfl xr163 rfl rfl rfl (xkd H (by decide)) (Nat.le_of_ble_eq_true rfl) (Z163 H h12 (by omega)) (Nat.le_refl _) ?_
    obtain ⟨c2, h⟩ := xif h
    obtain rfl := Option.some.inj h
    exact q_ri (q := (.ireturn, 1, 0, 0, .null)) rfl (fun _ => rfl) rfl (xbo_ok c2)
set_option maxRecDepth 20000 in
theorem Z187 {B : zHp} (H : yH0 B) {F : Nat} {a1 : Int32} {m : xS} {x : Int32 × xS} (h : D187 F a1 m = some x) {d : Nat} (hd : 4 ≤ d) : zCan d 187 [.ref 70, .int a1] (xW B m) (some (.int x.1), xW B x.2) := by
  obtain ⟨e, rfl⟩ : ∃ e, d = e + 1 := ⟨d - 1, by omega⟩
  refine zCan_body (nL := 3) (rt := (some .boolean)) (cd := zc187) (xg187) ⟨Nat.le_of_ble_eq_true rfl, by decide⟩ (Nat.le_refl _) ?_
  exact T187 H hd F rfl rfl h
/-- LentToolsModel.isToolHere -/
def D188_77 (F : Nat) (v1 : Int32) (v2 : Int32) (m : xS) : Option (Int32 × xS) :=
  some (0, m)
set_option maxRecDepth 20000 in
theorem T188_77 {B : zHp} (H : yH0 B) {e : Nat} (he : 4 ≤ e + 1) (F : Nat) {v1 : Int32} {v2 : Int32} {lv : List (Nat × Value)} {m : xS} {x : Int32 × xS} (l0 : zld lv 0 = some (.ref 70)) (l1 : zld lv 1 = some (.int v1)) (l2 : zld lv 2 = some (.int v2)) (h : D188_77 F v1 v2 m = some x) : zR none e 3 (some .boolean) zc188 (77, lv, []) (xW B m) (some (.int x.1), xW B x.2) := by
  unfold D188_77 at h
  refine r_s (fr' := (78, lv, [.int 0])) (hp' := xW B m) (q := (.iconst 0, 1, 0, 0, .null)) rfl (fun _ => rfl) (Nat.le_refl _) ?_
  obtain rfl := Option.some.inj h
  exact q_ri (q := (.ireturn, 1, 0, 0, .null)) rfl (fun _ => rfl) rfl rfl
def D188 (F : Nat) (v1 : Int32) (m : xS) : Option (Int32 × xS) :=
  if zcmp .ne (m.1 76 2) 6 = true then
    (D168 F m).bind fun q19 =>
      (D186 F (10 + (6 * (q19.2.1 76 2))) 0 ((q19.2.1 76 0) - 1) q19.2).bind fun q46 =>
        if zcmp .eq q46.1 0 = true then
          D188_77 F v1 (10 + (6 * (q19.2.1 76 2))) q46.2
        else
          (D186 F ((10 + (6 * (q19.2.1 76 2))) + 1) 0 4 q46.2).bind fun q58 =>
            if zcmp .eq q58.1 0 = true then
              D188_77 F v1 (10 + (6 * (q19.2.1 76 2))) q58.2
            else
              (D186 F ((10 + (6 * (q19.2.1 76 2))) + 2) 0 9 q58.2).bind fun q71 =>
                if zcmp .ne q71.1 0 = true then
                  if xib (10 + (6 * (q19.2.1 76 2))) 148 = true then
                    if xib ((10 + (6 * (q19.2.1 76 2))) + 3) 148 = true then
                      if xib ((10 + (6 * (q19.2.1 76 2))) + 4) 148 = true then
                        if xib ((10 + (6 * (q19.2.1 76 2))) + 5) 148 = true then
                          some (1, (xu (xu (xu (xu q71.2 76 (((10 + (6 * (q19.2.1 76 2))) + 3) : Int32).toNatClampNeg (q71.2.1 76 ((10 + (6 * (q19.2.1 76 2))) : Int32).toNatClampNeg)) 76 (((10 + (6 * (q19.2.1 76 2))) + 4) : Int32).toNatClampNeg 0) 76 (((10 + (6 * (q19.2.1 76 2))) + 5) : Int32).toNatClampNeg 0) 76 2 (((xu (xu (xu q71.2 76 (((10 + (6 * (q19.2.1 76 2))) + 3) : Int32).toNatClampNeg (q71.2.1 76 ((10 + (6 * (q19.2.1 76 2))) : Int32).toNatClampNeg)) 76 (((10 + (6 * (q19.2.1 76 2))) + 4) : Int32).toNatClampNeg 0) 76 (((10 + (6 * (q19.2.1 76 2))) + 5) : Int32).toNatClampNeg 0).1 76 2) + 1)))
                        else none
                      else none
                    else none
                  else none
                else
                  D188_77 F v1 (10 + (6 * (q19.2.1 76 2))) q71.2
  else
    (D163 F 4 v1 m).bind fun q14 =>
      if xbo q14.1 = true then
        some (q14.1, q14.2)
      else none
set_option maxRecDepth 20000 in
theorem T188 {B : zHp} (H : yH0 B) {e : Nat} (he : 4 ≤ e + 1) (F : Nat) {v1 : Int32} {lv : List (Nat × Value)} {m : xS} {x : Int32 × xS} (l0 : zld lv 0 = some (.ref 70)) (l1 : zld lv 1 = some (.int v1)) (h : D188 F v1 m = some x) : zR none e 3 (some .boolean) zc188 (0, lv, []) (xW B m) (some (.int x.1), xW B x.2) := by
  unfold D188 at h
  refine q_lr (k := 1) (i := 0) (q := (.aload_n 0, 1, 0, 0, .null)) rfl (fun _ => rfl) l0 ?_
  refine r_gr (c := 76) H (pc := 1) rfl (by decide) (by decide) ?_
  refine r_s (fr' := (5, lv, [.int 2, .ref 76])) (hp' := xW B m) (q := (.iconst 2, 1, 0, 0, .null)) rfl (fun _ => rfl) (Nat.le_refl _) ?_
  refine q_al (n := 148) (v := (m.1 76 2)) H (pc := 5) rfl (by decide) (by decide) rfl ?_
  refine r_s (fr' := (8, lv, [.int 6, .int (m.1 76 2)])) (hp' := xW B m) (q := (.bipush 6, 2, 0, 0, .null)) rfl (fun _ => rfl) (Nat.le_refl _) ?_
  refine r_ifc (len := 3) (a := 18) (b := 0) (v0 := .null) (cn := .ne) (off := 10) rfl (fun c => ?_) (fun c => ?_)
  · rw [if_pos c] at h
    refine q_lr (k := 1) (i := 0) (q := (.aload_n 0, 1, 0, 0, .null)) rfl (fun _ => rfl) l0 ?_
    obtain ⟨q19, h19, h⟩ := xbind h
    refine r_call (ix := 70) (as := []) (rest := []) (rv := none) (hp' := xW B q19.2) (pc := 19) rfl xr168 rfl rfl rfl (xkd H (by decide)) (Nat.le_of_ble_eq_true rfl) (Z168 H h19 (by omega)) (Nat.le_refl _) ?_
    refine r_s (fr' := (24, lv, [.int 10])) (hp' := xW B q19.2) (q := (.bipush 10, 2, 0, 0, .null)) rfl (fun _ => rfl) (Nat.le_refl _) ?_
    refine r_s (fr' := (26, lv, [.int 6, .int 10])) (hp' := xW B q19.2) (q := (.bipush 6, 2, 0, 0, .null)) rfl (fun _ => rfl) (Nat.le_refl _) ?_
    refine q_lr (k := 1) (i := 0) (q := (.aload_n 0, 1, 0, 0, .null)) rfl (fun _ => rfl) l0 ?_
    refine r_gr (c := 76) H (pc := 27) rfl (by decide) (by decide) ?_
    refine r_s (fr' := (31, lv, [.int 2, .ref 76, .int 6, .int 10])) (hp' := xW B q19.2) (q := (.iconst 2, 1, 0, 0, .null)) rfl (fun _ => rfl) (Nat.le_refl _) ?_
    refine q_al (n := 148) (v := (q19.2.1 76 2)) H (pc := 31) rfl (by decide) (by decide) rfl ?_
    refine r_s (fr' := (33, lv, [.int (6 * (q19.2.1 76 2)), .int 10])) (hp' := xW B q19.2) (q := (.imul, 1, 0, 0, .null)) rfl (fun _ => rfl) (Nat.le_refl _) ?_
    refine r_s (fr' := (34, lv, [.int (10 + (6 * (q19.2.1 76 2)))])) (hp' := xW B q19.2) (q := (.iadd, 1, 0, 0, .null)) rfl (fun _ => rfl) (Nat.le_refl _) ?_
    refine q_si (k := 1) (i := 2) (q := (.istore_n 2, 1, 0, 0, .null)) rfl (fun _ => rfl) (by decide) ?_
    have l0_1 : zld (zs1 lv 2 (.int (10 + (6 * (q19.2.1 76 2))))) 0 = some (.ref 70) := x_o1 l0 rfl rfl
    have l1_1 : zld (zs1 lv 2 (.int (10 + (6 * (q19.2.1 76 2))))) 1 = some (.int v1) := x_o1 l1 rfl rfl
    have l2_1 : zld (zs1 lv 2 (.int (10 + (6 * (q19.2.1 76 2))))) 2 = some (.int (10 + (6 * (q19.2.1 76 2)))) := zs1_ld _ _ _
    generalize (zs1 lv 2 (.int (10 + (6 * (q19.2.1 76 2))))) = lv1 at *
    refine q_lr (k := 1) (i := 0) (q := (.aload_n 0, 1, 0, 0, .null)) rfl (fun _ => rfl) l0_1 ?_
    refine q_li (k := 1) (i := 2) (q := (.iload_n 2, 1, 0, 0, .null)) rfl (fun _ => rfl) l2_1 ?_
    refine r_s (fr' := (38, lv1, [.int 0, .int (10 + (6 * (q19.2.1 76 2))), .ref 70])) (hp' := xW B q19.2) (q := (.iconst 0, 1, 0, 0, .null)) rfl (fun _ => rfl) (Nat.le_refl _) ?_
    refine q_lr (k := 1) (i := 0) (q := (.aload_n 0, 1, 0, 0, .null)) rfl (fun _ => rfl) l0_1 ?_
    refine r_gr (c := 76) H (pc := 39) rfl (by decide) (by decide) ?_
    refine r_s (fr' := (43, lv1, [.int 0, .ref 76, .int 0, .int (10 + (6 * (q19.2.1 76 2))), .ref 70])) (hp' := xW B q19.2) (q := (.iconst 0, 1, 0, 0, .null)) rfl (fun _ => rfl) (Nat.le_refl _) ?_
    refine q_al (n := 148) (v := (q19.2.1 76 0)) H (pc := 43) rfl (by decide) (by decide) rfl ?_
    refine r_s (fr' := (45, lv1, [.int 1, .int (q19.2.1 76 0), .int 0, .int (10 + (6 * (q19.2.1 76 2))), .ref 70])) (hp' := xW B q19.2) (q := (.iconst 1, 1, 0, 0, .null)) rfl (fun _ => rfl) (Nat.le_refl _) ?_
    refine r_s (fr' := (46, lv1, [.int ((q19.2.1 76 0) - 1), .int 0, .int (10 + (6 * (q19.2.1 76 2))), .ref 70])) (hp' := xW B q19.2) (q := (.isub, 1, 0, 0, .null)) rfl (fun _ => rfl) (Nat.le_refl _) ?_
    obtain ⟨q46, h46, h⟩ := xbind h
    refine r_call (ix := 70) (as := [.int (10 + (6 * (q19.2.1 76 2))), .int 0, .int ((q19.2.1 76 0) - 1)]) (rest := []) (rv := some (.int q46.1)) (hp' := xW B q46.2) (pc := 46) rfl xr186 rfl rfl rfl (xkd H (by decide)) (Nat.le_of_ble_eq_true rfl) (Z186 H h46 (by omega)) (Nat.le_refl _) ?_
    refine r_if (len := 3) (a := 77) (b := 0) (v0 := .null) (cn := .eq) (off := 28) rfl (fun c => ?_) (fun c => ?_)
    · rw [if_pos c] at h
      exact T188_77 H he F l0_1 l1_1 l2_1 h
    · rw [if_neg (by rw [c]; decide)] at h
      refine q_lr (k := 1) (i := 0) (q := (.aload_n 0, 1, 0, 0, .null)) rfl (fun _ => rfl) l0_1 ?_
      refine q_li (k := 1) (i := 2) (q := (.iload_n 2, 1, 0, 0, .null)) rfl (fun _ => rfl) l2_1 ?_
      refine r_s (fr' := (55, lv1, [.int 1, .int (10 + (6 * (q19.2.1 76 2))), .ref 70])) (hp' := xW B q46.2) (q := (.iconst 1, 1, 0, 0, .null)) rfl (fun _ => rfl) (Nat.le_refl _) ?_
      refine r_s (fr' := (56, lv1, [.int ((10 + (6 * (q19.2.1 76 2))) + 1), .ref 70])) (hp' := xW B q46.2) (q := (.iadd, 1, 0, 0, .null)) rfl (fun _ => rfl) (Nat.le_refl _) ?_
      refine r_s (fr' := (57, lv1, [.int 0, .int ((10 + (6 * (q19.2.1 76 2))) + 1), .ref 70])) (hp' := xW B q46.2) (q := (.iconst 0, 1, 0, 0, .null)) rfl (fun _ => rfl) (Nat.le_refl _) ?_
      refine r_s (fr' := (58, lv1, [.int 4, .int 0, .int ((10 + (6 * (q19.2.1 76 2))) + 1), .ref 70])) (hp' := xW B q46.2) (q := (.iconst 4, 1, 0, 0, .null)) rfl (fun _ => rfl) (Nat.le_refl _) ?_
      obtain ⟨q58, h58, h⟩ := xbind h
      refine r_call (ix := 70) (as := [.int ((10 + (6 * (q19.2.1 76 2))) + 1), .int 0, .int 4]) (rest := []) (rv := some (.int q58.1)) (hp' := xW B q58.2) (pc := 58) rfl xr186 rfl rfl rfl (xkd H (by decide)) (Nat.le_of_ble_eq_true rfl) (Z186 H h58 (by omega)) (Nat.le_refl _) ?_
      refine r_if (len := 3) (a := 77) (b := 0) (v0 := .null) (cn := .eq) (off := 16) rfl (fun c => ?_) (fun c => ?_)
      · rw [if_pos c] at h
        exact T188_77 H he F l0_1 l1_1 l2_1 h
      · rw [if_neg (by rw [c]; decide)] at h
        refine q_lr (k := 1) (i := 0) (q := (.aload_n 0, 1, 0, 0, .null)) rfl (fun _ => rfl) l0_1 ?_
        refine q_li (k := 1) (i := 2) (q := (.iload_n 2, 1, 0, 0, .null)) rfl (fun _ => rfl) l2_1 ?_
        refine r_s (fr' := (67, lv1, [.int 2, .int (10 + (6 * (q19.2.1 76 2))), .ref 70])) (hp' := xW B q58.2) (q := (.iconst 2, 1, 0, 0, .null)) rfl (fun _ => rfl) (Nat.le_refl _) ?_
        refine r_s (fr' := (68, lv1, [.int ((10 + (6 * (q19.2.1 76 2))) + 2), .ref 70])) (hp' := xW B q58.2) (q := (.iadd, 1, 0, 0, .null)) rfl (fun _ => rfl) (Nat.le_refl _) ?_
        refine r_s (fr' := (69, lv1, [.int 0, .int ((10 + (6 * (q19.2.1 76 2))) + 2), .ref 70])) (hp' := xW B q58.2) (q := (.iconst 0, 1, 0, 0, .null)) rfl (fun _ => rfl) (Nat.le_refl _) ?_
        refine r_s (fr' := (71, lv1, [.int 9, .int 0, .int ((10 + (6 * (q19.2.1 76 2))) + 2), .ref 70])) (hp' := xW B q58.2) (q := (.bipush 9, 2, 0, 0, .null)) rfl (fun _ => rfl) (Nat.le_refl _) ?_
        obtain ⟨q71, h71, h⟩ := xbind h
        refine r_call (ix := 70) (as := [.int ((10 + (6 * (q19.2.1 76 2))) + 2), .int 0, .int 9]) (rest := []) (rv := some (.int q71.1)) (hp' := xW B q71.2) (pc := 71) rfl xr186 rfl rfl rfl (xkd H (by decide)) (Nat.le_of_ble_eq_true rfl) (Z186 H h71 (by omega)) (Nat.le_refl _) ?_
        refine r_if (len := 3) (a := 79) (b := 0) (v0 := .null) (cn := .ne) (off := 5) rfl (fun c => ?_) (fun c => ?_)
        · rw [if_pos c] at h
          refine q_lr (k := 1) (i := 0) (q := (.aload_n 0, 1, 0, 0, .null)) rfl (fun _ => rfl) l0_1 ?_
          refine r_gr (c := 76) H (pc := 80) rfl (by decide) (by decide) ?_
          refine q_li (k := 1) (i := 2) (q := (.iload_n 2, 1, 0, 0, .null)) rfl (fun _ => rfl) l2_1 ?_
          refine r_s (fr' := (85, lv1, [.int 3, .int (10 + (6 * (q19.2.1 76 2))), .ref 76])) (hp' := xW B q71.2) (q := (.iconst 3, 1, 0, 0, .null)) rfl (fun _ => rfl) (Nat.le_refl _) ?_
          refine r_s (fr' := (86, lv1, [.int ((10 + (6 * (q19.2.1 76 2))) + 3), .ref 76])) (hp' := xW B q71.2) (q := (.iadd, 1, 0, 0, .null)) rfl (fun _ => rfl) (Nat.le_refl _) ?_
          refine q_lr (k := 1) (i := 0) (q := (.aload_n 0, 1, 0, 0, .null)) rfl (fun _ => rfl) l0_1 ?_
          refine r_gr (c := 76) H (pc := 87) rfl (by decide) (by decide) ?_
          refine q_li (k := 1) (i := 2) (q := (.iload_n 2, 1, 0, 0, .null)) rfl (fun _ => rfl) l2_1 ?_
          obtain ⟨c2, h⟩ := xif h
          refine q_al (n := 148) (v := (q71.2.1 76 ((10 + (6 * (q19.2.1 76 2))) : Int32).toNatClampNeg)) H (pc := 91) rfl (by decide) c2 rfl ?_
          obtain ⟨c3, h⟩ := xif h
          refine q_as (n := 148) (s2 := (xu q71.2 76 (((10 + (6 * (q19.2.1 76 2))) + 3) : Int32).toNatClampNeg (q71.2.1 76 ((10 + (6 * (q19.2.1 76 2))) : Int32).toNatClampNeg))) H (pc := 92) rfl (by decide) c3 rfl ?_
          refine q_lr (k := 1) (i := 0) (q := (.aload_n 0, 1, 0, 0, .null)) rfl (fun _ => rfl) l0_1 ?_
          refine r_gr (c := 76) H (pc := 94) rfl (by decide) (by decide) ?_
          refine q_li (k := 1) (i := 2) (q := (.iload_n 2, 1, 0, 0, .null)) rfl (fun _ => rfl) l2_1 ?_
          refine r_s (fr' := (99, lv1, [.int 4, .int (10 + (6 * (q19.2.1 76 2))), .ref 76])) (hp' := xW B (xu q71.2 76 (((10 + (6 * (q19.2.1 76 2))) + 3) : Int32).toNatClampNeg (q71.2.1 76 ((10 + (6 * (q19.2.1 76 2))) : Int32).toNatClampNeg))) (q := (.iconst 4, 1, 0, 0, .null)) rfl (fun _ => rfl) (Nat.le_refl _) ?_
          refine r_s (fr' := (100, lv1, [.int ((10 + (6 * (q19.2.1 76 2))) + 4), .ref 76])) (hp' := xW B (xu q71.2 76 (((10 + (6 * (q19.2.1 76 2))) + 3) : Int32).toNatClampNeg (q71.2.1 76 ((10 + (6 * (q19.2.1 76 2))) : Int32).toNatClampNeg))) (q := (.iadd, 1, 0, 0, .null)) rfl (fun _ => rfl) (Nat.le_refl _) ?_
          refine r_s (fr' := (101, lv1, [.int 0, .int ((10 + (6 * (q19.2.1 76 2))) + 4), .ref 76])) (hp' := xW B (xu q71.2 76 (((10 + (6 * (q19.2.1 76 2))) + 3) : Int32).toNatClampNeg (q71.2.1 76 ((10 + (6 * (q19.2.1 76 2))) : Int32).toNatClampNeg))) (q := (.iconst 0, 1, 0, 0, .null)) rfl (fun _ => rfl) (Nat.le_refl _) ?_
          obtain ⟨c4, h⟩ := xif h
          refine q_as (n := 148) (s2 := (xu (xu q71.2 76 (((10 + (6 * (q19.2.1 76 2))) + 3) : Int32).toNatClampNeg (q71.2.1 76 ((10 + (6 * (q19.2.1 76 2))) : Int32).toNatClampNeg)) 76 (((10 + (6 * (q19.2.1 76 2))) + 4) : Int32).toNatClampNeg 0)) H (pc := 101) rfl (by decide) c4 rfl ?_
          refine q_lr (k := 1) (i := 0) (q := (.aload_n 0, 1, 0, 0, .null)) rfl (fun _ => rfl) l0_1 ?_
          refine r_gr (c := 76) H (pc := 103) rfl (by decide) (by decide) ?_
          refine q_li (k := 1) (i := 2) (q := (.iload_n 2, 1, 0, 0, .null)) rfl (fun _ => rfl) l2_1 ?_
          refine r_s (fr' := (108, lv1, [.int 5, .int (10 + (6 * (q19.2.1 76 2))), .ref 76])) (hp' := xW B (xu (xu q71.2 76 (((10 + (6 * (q19.2.1 76 2))) + 3) : Int32).toNatClampNeg (q71.2.1 76 ((10 + (6 * (q19.2.1 76 2))) : Int32).toNatClampNeg)) 76 (((10 + (6 * (q19.2.1 76 2))) + 4) : Int32).toNatClampNeg 0)) (q := (.iconst 5, 1, 0, 0, .null)) rfl (fun _ => rfl) (Nat.le_refl _) ?_
          refine r_s (fr' := (109, lv1, [.int ((10 + (6 * (q19.2.1 76 2))) + 5), .ref 76])) (hp' := xW B (xu (xu q71.2 76 (((10 + (6 * (q19.2.1 76 2))) + 3) : Int32).toNatClampNeg (q71.2.1 76 ((10 + (6 * (q19.2.1 76 2))) : Int32).toNatClampNeg)) 76 (((10 + (6 * (q19.2.1 76 2))) + 4) : Int32).toNatClampNeg 0)) (q := (.iadd, 1, 0, 0, .null)) rfl (fun _ => rfl) (Nat.le_refl _) ?_
          refine r_s (fr' := (110, lv1, [.int 0, .int ((10 + (6 * (q19.2.1 76 2))) + 5), .ref 76])) (hp' := xW B (xu (xu q71.2 76 (((10 + (6 * (q19.2.1 76 2))) + 3) : Int32).toNatClampNeg (q71.2.1 76 ((10 + (6 * (q19.2.1 76 2))) : Int32).toNatClampNeg)) 76 (((10 + (6 * (q19.2.1 76 2))) + 4) : Int32).toNatClampNeg 0)) (q := (.iconst 0, 1, 0, 0, .null)) rfl (fun _ => rfl) (Nat.le_refl _) ?_
          obtain ⟨c5, h⟩ := xif h
          refine q_as (n := 148) (s2 := (xu (xu (xu q71.2 76 (((10 + (6 * (q19.2.1 76 2))) + 3) : Int32).toNatClampNeg (q71.2.1 76 ((10 + (6 * (q19.2.1 76 2))) : Int32).toNatClampNeg)) 76 (((10 + (6 * (q19.2.1 76 2))) + 4) : Int32).toNatClampNeg 0) 76 (((10 + (6 * (q19.2.1 76 2))) + 5) : Int32).toNatClampNeg 0)) H (pc := 110) rfl (by decide) c5 rfl ?_
          refine q_lr (k := 1) (i := 0) (q := (.aload_n 0, 1, 0, 0, .null)) rfl (fun _ => rfl) l0_1 ?_
          refine r_gr (c := 76) H (pc := 112) rfl (by decide) (by decide) ?_
          refine r_s (fr' := (116, lv1, [.int 2, .ref 76])) (hp' := xW B (xu (xu (xu q71.2 76 (((10 + (6 * (q19.2.1 76 2))) + 3) : Int32).toNatClampNeg (q71.2.1 76 ((10 + (6 * (q19.2.1 76 2))) : Int32).toNatClampNeg)) 76 (((10 + (6 * (q19.2.1 76 2))) + 4) : Int32).toNatClampNeg 0) 76 (((10 + (6 * (q19.2.1 76 2))) + 5) : Int32).toNatClampNeg 0)) (q := (.iconst 2, 1, 0, 0, .null)) rfl (fun _ => rfl) (Nat.le_refl _) ?_
          refine r_s (fr' := (117, lv1, [.int 2, .ref 76, .int 2, .ref 76])) (hp' := xW B (xu (xu (xu q71.2 76 (((10 + (6 * (q19.2.1 76 2))) + 3) : Int32).toNatClampNeg (q71.2.1 76 ((10 + (6 * (q19.2.1 76 2))) : Int32).toNatClampNeg)) 76 (((10 + (6 * (q19.2.1 76 2))) + 4) : Int32).toNatClampNeg 0) 76 (((10 + (6 * (q19.2.1 76 2))) + 5) : Int32).toNatClampNeg 0)) (q := (.dup2, 1, 0, 0, .null)) rfl (fun _ => rfl) (Nat.le_refl _) ?_
          refine q_al (n := 148) (v := ((xu (xu (xu q71.2 76 (((10 + (6 * (q19.2.1 76 2))) + 3) : Int32).toNatClampNeg (q71.2.1 76 ((10 + (6 * (q19.2.1 76 2))) : Int32).toNatClampNeg)) 76 (((10 + (6 * (q19.2.1 76 2))) + 4) : Int32).toNatClampNeg 0) 76 (((10 + (6 * (q19.2.1 76 2))) + 5) : Int32).toNatClampNeg 0).1 76 2)) H (pc := 117) rfl (by decide) (by decide) rfl ?_
          refine r_s (fr' := (119, lv1, [.int 1, .int ((xu (xu (xu q71.2 76 (((10 + (6 * (q19.2.1 76 2))) + 3) : Int32).toNatClampNeg (q71.2.1 76 ((10 + (6 * (q19.2.1 76 2))) : Int32).toNatClampNeg)) 76 (((10 + (6 * (q19.2.1 76 2))) + 4) : Int32).toNatClampNeg 0) 76 (((10 + (6 * (q19.2.1 76 2))) + 5) : Int32).toNatClampNeg 0).1 76 2), .int 2, .ref 76])) (hp' := xW B (xu (xu (xu q71.2 76 (((10 + (6 * (q19.2.1 76 2))) + 3) : Int32).toNatClampNeg (q71.2.1 76 ((10 + (6 * (q19.2.1 76 2))) : Int32).toNatClampNeg)) 76 (((10 + (6 * (q19.2.1 76 2))) + 4) : Int32).toNatClampNeg 0) 76 (((10 + (6 * (q19.2.1 76 2))) + 5) : Int32).toNatClampNeg 0)) (q := (.iconst 1, 1, 0, 0, .null)) rfl (fun _ => rfl) (Nat.le_refl _) ?_
          refine r_s (fr' := (120, lv1, [.int (((xu (xu (xu q71.2 76 (((10 + (6 * (q19.2.1 76 2))) + 3) : Int32).toNatClampNeg (q71.2.1 76 ((10 + (6 * (q19.2.1 76 2))) : Int32).toNatClampNeg)) 76 (((10 + (6 * (q19.2.1 76 2))) + 4) : Int32).toNatClampNeg 0) 76 (((10 + (6 * (q19.2.1 76 2))) + 5) : Int32).toNatClampNeg 0).1 76 2) + 1), .int 2, .ref 76])) (hp' := xW B (xu (xu (xu q71.2 76 (((10 + (6 * (q19.2.1 76 2))) + 3) : Int32).toNatClampNeg (q71.2.1 76 ((10 + (6 * (q19.2.1 76 2))) : Int32).toNatClampNeg)) 76 (((10 + (6 * (q19.2.1 76 2))) + 4) : Int32).toNatClampNeg 0) 76 (((10 + (6 * (q19.2.1 76 2))) + 5) : Int32).toNatClampNeg 0)) (q := (.iadd, 1, 0, 0, .null)) rfl (fun _ => rfl) (Nat.le_refl _) ?_
          refine q_as (n := 148) (s2 := (xu (xu (xu (xu q71.2 76 (((10 + (6 * (q19.2.1 76 2))) + 3) : Int32).toNatClampNeg (q71.2.1 76 ((10 + (6 * (q19.2.1 76 2))) : Int32).toNatClampNeg)) 76 (((10 + (6 * (q19.2.1 76 2))) + 4) : Int32).toNatClampNeg 0) 76 (((10 + (6 * (q19.2.1 76 2))) + 5) : Int32).toNatClampNeg 0) 76 2 (((xu (xu (xu q71.2 76 (((10 + (6 * (q19.2.1 76 2))) + 3) : Int32).toNatClampNeg (q71.2.1 76 ((10 + (6 * (q19.2.1 76 2))) : Int32).toNatClampNeg)) 76 (((10 + (6 * (q19.2.1 76 2))) + 4) : Int32).toNatClampNeg 0) 76 (((10 + (6 * (q19.2.1 76 2))) + 5) : Int32).toNatClampNeg 0).1 76 2) + 1))) H (pc := 120) rfl (by decide) (by decide) rfl ?_
          refine r_s (fr' := (122, lv1, [.int 1])) (hp' := xW B (xu (xu (xu (xu q71.2 76 (((10 + (6 * (q19.2.1 76 2))) + 3) : Int32).toNatClampNeg (q71.2.1 76 ((10 + (6 * (q19.2.1 76 2))) : Int32).toNatClampNeg)) 76 (((10 + (6 * (q19.2.1 76 2))) + 4) : Int32).toNatClampNeg 0) 76 (((10 + (6 * (q19.2.1 76 2))) + 5) : Int32).toNatClampNeg 0) 76 2 (((xu (xu (xu q71.2 76 (((10 + (6 * (q19.2.1 76 2))) + 3) : Int32).toNatClampNeg (q71.2.1 76 ((10 + (6 * (q19.2.1 76 2))) : Int32).toNatClampNeg)) 76 (((10 + (6 * (q19.2.1 76 2))) + 4) : Int32).toNatClampNeg 0) 76 (((10 + (6 * (q19.2.1 76 2))) + 5) : Int32).toNatClampNeg 0).1 76 2) + 1))) (q := (.iconst 1, 1, 0, 0, .null)) rfl (fun _ => rfl) (Nat.le_refl _) ?_
          obtain rfl := Option.some.inj h
          exact q_ri (q := (.ireturn, 1, 0, 0, .null)) rfl (fun _ => rfl) rfl rfl
        · rw [if_neg (by rw [c]; decide)] at h
          exact T188_77 H he F l0_1 l1_1 l2_1 h
  · rw [if_neg (by rw [c]; decide)] at h
    refine q_lr (k := 1) (i := 0) (q := (.aload_n 0, 1, 0, 0, .null)) rfl (fun _ => rfl) l0 ?_
    refine r_s (fr' := (13, lv, [.int 4, .ref 70])) (hp' := xW B m) (q := (.iconst 4, 1, 0, 0, .null)) rfl (fun _ => rfl) (Nat.le_refl _) ?_
    refine q_li (k := 1) (i := 1) (q := (.iload_n 1, 1, 0, 0, .null)) rfl (fun _ => rfl) l1 ?_
    obtain ⟨q14, h14, h⟩ := xbind h
    refine r_call (ix := 70) (as := [.int 4, .int v1]) (rest := []) (rv := some (.int q14.1)) (hp' := xW B q14.2) (pc := 14) rfl xr163 rfl rfl rfl (xkd H (by decide)) (Nat.le_of_ble_eq_true rfl) (Z163 H h14 (by omega)) (Nat.le_refl _) ?_
    obtain ⟨c6, h⟩ := xif h
    obtain rfl := Option.some.inj h
    exact q_ri (q := (.ireturn, 1, 0, 0, .null)) rfl (fun _ => rfl) rfl (xbo_ok c6)
set_option maxRecDepth 20000 in
theorem Z188 {B : zHp} (H : yH0 B) {F : Nat} {a1 : Int32} {m : xS} {x : Int32 × xS} (h : D188 F a1 m = some x) {d : Nat} (hd : 4 ≤ d) : zCan d 188 [.ref 70, .int a1] (xW B m) (some (.int x.1), xW B x.2) := by
  obtain ⟨e, rfl⟩ : ∃ e, d = e + 1 := ⟨d - 1, by omega⟩
  refine zCan_body (nL := 3) (rt := (some .boolean)) (cd := zc188) (xg188) ⟨Nat.le_of_ble_eq_true rfl, by decide⟩ (Nat.le_refl _) ?_
  exact T188 H hd F rfl rfl h
/-- LentToolsModel.areTwoHere -/
def D189_86 (F : Nat) (v1 : Int32) (m : xS) : Option (Int32 × xS) :=
  some (1, m)
set_option maxRecDepth 20000 in
theorem T189_86 {B : zHp} (H : yH0 B) {e : Nat} (he : 3 ≤ e + 1) (F : Nat) {v1 : Int32} {lv : List (Nat × Value)} {m : xS} {x : Int32 × xS} (l0 : zld lv 0 = some (.ref 70)) (l1 : zld lv 1 = some (.int v1)) (h : D189_86 F v1 m = some x) : zR none e 2 (some .boolean) zc189 (86, lv, []) (xW B m) (some (.int x.1), xW B x.2) := by
  unfold D189_86 at h
  refine r_s (fr' := (87, lv, [.int 1])) (hp' := xW B m) (q := (.iconst 1, 1, 0, 0, .null)) rfl (fun _ => rfl) (Nat.le_refl _) ?_
  refine r_s (fr' := (91, lv, [.int 1])) (hp' := xW B m) (q := (.goto 4, 3, 91, 0, .null)) rfl (fun _ => rfl) (Nat.le_refl _) ?_
  obtain rfl := Option.some.inj h
  exact q_ri (q := (.ireturn, 1, 0, 0, .null)) rfl (fun _ => rfl) rfl rfl
def D189 (F : Nat) (m : xS) : Option (Int32 × xS) :=
  (D168 F m).bind fun q1 =>
    (D170 F 0 ((q1.2.1 76 0) - 1) q1.2).bind fun q14 =>
      if zcmp .ne q14.1 0 = true then
        (D164 F (xu q14.2 70 17 (q14.2.1 70 10))).bind fun q31 =>
          (D170 F 0 ((q31.2.1 76 0) - 1) q31.2).bind fun q50 =>
            if zcmp .ne q50.1 0 = true then
              if zcmp .ne (q50.2.1 70 17) (q50.2.1 70 10) = true then
                D189_86 F (q31.2.1 70 8) (xu q50.2 70 18 (q50.2.1 70 10))
              else
                (D163 F 1 (q31.2.1 70 8) (xu q50.2 70 18 (q50.2.1 70 10))).bind fun q80 =>
                  if zcmp .eq q80.1 0 = true then
                    some (0, q80.2)
                  else
                    D189_86 F (q31.2.1 70 8) q80.2
            else
              some (0, q50.2)
      else
        some (0, q14.2)
set_option maxRecDepth 20000 in
theorem T189 {B : zHp} (H : yH0 B) {e : Nat} (he : 3 ≤ e + 1) (F : Nat) {lv : List (Nat × Value)} {m : xS} {x : Int32 × xS} (l0 : zld lv 0 = some (.ref 70)) (h : D189 F m = some x) : zR none e 2 (some .boolean) zc189 (0, lv, []) (xW B m) (some (.int x.1), xW B x.2) := by
  unfold D189 at h
  refine q_lr (k := 1) (i := 0) (q := (.aload_n 0, 1, 0, 0, .null)) rfl (fun _ => rfl) l0 ?_
  obtain ⟨q1, h1, h⟩ := xbind h
  refine r_call (ix := 70) (as := []) (rest := []) (rv := none) (hp' := xW B q1.2) (pc := 1) rfl xr168 rfl rfl rfl (xkd H (by decide)) (Nat.le_of_ble_eq_true rfl) (Z168 H h1 (by omega)) (Nat.le_refl _) ?_
  refine q_lr (k := 1) (i := 0) (q := (.aload_n 0, 1, 0, 0, .null)) rfl (fun _ => rfl) l0 ?_
  refine r_s (fr' := (6, lv, [.int 0, .ref 70])) (hp' := xW B q1.2) (q := (.iconst 0, 1, 0, 0, .null)) rfl (fun _ => rfl) (Nat.le_refl _) ?_
  refine q_lr (k := 1) (i := 0) (q := (.aload_n 0, 1, 0, 0, .null)) rfl (fun _ => rfl) l0 ?_
  refine r_gr (c := 76) H (pc := 7) rfl (by decide) (by decide) ?_
  refine r_s (fr' := (11, lv, [.int 0, .ref 76, .int 0, .ref 70])) (hp' := xW B q1.2) (q := (.iconst 0, 1, 0, 0, .null)) rfl (fun _ => rfl) (Nat.le_refl _) ?_
  refine q_al (n := 148) (v := (q1.2.1 76 0)) H (pc := 11) rfl (by decide) (by decide) rfl ?_
  refine r_s (fr' := (13, lv, [.int 1, .int (q1.2.1 76 0), .int 0, .ref 70])) (hp' := xW B q1.2) (q := (.iconst 1, 1, 0, 0, .null)) rfl (fun _ => rfl) (Nat.le_refl _) ?_
  refine r_s (fr' := (14, lv, [.int ((q1.2.1 76 0) - 1), .int 0, .ref 70])) (hp' := xW B q1.2) (q := (.isub, 1, 0, 0, .null)) rfl (fun _ => rfl) (Nat.le_refl _) ?_
  obtain ⟨q14, h14, h⟩ := xbind h
  refine r_call (ix := 70) (as := [.int 0, .int ((q1.2.1 76 0) - 1)]) (rest := []) (rv := some (.int q14.1)) (hp' := xW B q14.2) (pc := 14) rfl xr170 rfl rfl rfl (xkd H (by decide)) (Nat.le_of_ble_eq_true rfl) (Z170 H h14 (by omega)) (Nat.le_refl _) ?_
  refine r_if (len := 3) (a := 22) (b := 0) (v0 := .null) (cn := .ne) (off := 5) rfl (fun c => ?_) (fun c => ?_)
  · rw [if_pos c] at h
    refine q_lr (k := 1) (i := 0) (q := (.aload_n 0, 1, 0, 0, .null)) rfl (fun _ => rfl) l0 ?_
    refine q_lr (k := 1) (i := 0) (q := (.aload_n 0, 1, 0, 0, .null)) rfl (fun _ => rfl) l0 ?_
    refine r_gi (v := (q14.2.1 70 10)) H (pc := 24) (i := _) rfl (by decide) (by decide) rfl ?_
    refine r_pi (s2 := (xu q14.2 70 17 (q14.2.1 70 10))) H (pc := 27) rfl (by decide) rfl rfl ?_
    refine q_lr (k := 1) (i := 0) (q := (.aload_n 0, 1, 0, 0, .null)) rfl (fun _ => rfl) l0 ?_
    obtain ⟨q31, h31, h⟩ := xbind h
    refine r_call (ix := 70) (as := []) (rest := []) (rv := some (.int q31.1)) (hp' := xW B q31.2) (pc := 31) rfl xr164 rfl rfl rfl (xkd H (by decide)) (Nat.le_of_ble_eq_true rfl) (Z164 H h31 (by omega)) (Nat.le_refl _) ?_
    refine r_s (fr' := (35, lv, [])) (hp' := xW B q31.2) (q := (.pop, 1, 0, 0, .null)) rfl (fun _ => rfl) (Nat.le_refl _) ?_
    refine q_lr (k := 1) (i := 0) (q := (.aload_n 0, 1, 0, 0, .null)) rfl (fun _ => rfl) l0 ?_
    refine r_gi (v := (q31.2.1 70 8)) H (pc := 36) (i := _) rfl (by decide) (by decide) rfl ?_
    refine q_si (k := 1) (i := 1) (q := (.istore_n 1, 1, 0, 0, .null)) rfl (fun _ => rfl) (by decide) ?_
    have l0_1 : zld (zs1 lv 1 (.int (q31.2.1 70 8))) 0 = some (.ref 70) := x_o1 l0 rfl rfl
    have l1_1 : zld (zs1 lv 1 (.int (q31.2.1 70 8))) 1 = some (.int (q31.2.1 70 8)) := zs1_ld _ _ _
    generalize (zs1 lv 1 (.int (q31.2.1 70 8))) = lv1 at *
    refine q_lr (k := 1) (i := 0) (q := (.aload_n 0, 1, 0, 0, .null)) rfl (fun _ => rfl) l0_1 ?_
    refine r_s (fr' := (42, lv1, [.int 0, .ref 70])) (hp' := xW B q31.2) (q := (.iconst 0, 1, 0, 0, .null)) rfl (fun _ => rfl) (Nat.le_refl _) ?_
    refine q_lr (k := 1) (i := 0) (q := (.aload_n 0, 1, 0, 0, .null)) rfl (fun _ => rfl) l0_1 ?_
    refine r_gr (c := 76) H (pc := 43) rfl (by decide) (by decide) ?_
    refine r_s (fr' := (47, lv1, [.int 0, .ref 76, .int 0, .ref 70])) (hp' := xW B q31.2) (q := (.iconst 0, 1, 0, 0, .null)) rfl (fun _ => rfl) (Nat.le_refl _) ?_
    refine q_al (n := 148) (v := (q31.2.1 76 0)) H (pc := 47) rfl (by decide) (by decide) rfl ?_
    refine r_s (fr' := (49, lv1, [.int 1, .int (q31.2.1 76 0), .int 0, .ref 70])) (hp' := xW B q31.2) (q := (.iconst 1, 1, 0, 0, .null)) rfl (fun _ => rfl) (Nat.le_refl _) ?_
    refine r_s (fr' := (50, lv1, [.int ((q31.2.1 76 0) - 1), .int 0, .ref 70])) (hp' := xW B q31.2) (q := (.isub, 1, 0, 0, .null)) rfl (fun _ => rfl) (Nat.le_refl _) ?_
    obtain ⟨q50, h50, h⟩ := xbind h
    refine r_call (ix := 70) (as := [.int 0, .int ((q31.2.1 76 0) - 1)]) (rest := []) (rv := some (.int q50.1)) (hp' := xW B q50.2) (pc := 50) rfl xr170 rfl rfl rfl (xkd H (by decide)) (Nat.le_of_ble_eq_true rfl) (Z170 H h50 (by omega)) (Nat.le_refl _) ?_
    refine r_if (len := 3) (a := 58) (b := 0) (v0 := .null) (cn := .ne) (off := 5) rfl (fun c => ?_) (fun c => ?_)
    · rw [if_pos c] at h
      refine q_lr (k := 1) (i := 0) (q := (.aload_n 0, 1, 0, 0, .null)) rfl (fun _ => rfl) l0_1 ?_
      refine q_lr (k := 1) (i := 0) (q := (.aload_n 0, 1, 0, 0, .null)) rfl (fun _ => rfl) l0_1 ?_
      refine r_gi (v := (q50.2.1 70 10)) H (pc := 60) (i := _) rfl (by decide) (by decide) rfl ?_
      refine r_pi (s2 := (xu q50.2 70 18 (q50.2.1 70 10))) H (pc := 63) rfl (by decide) rfl rfl ?_
      refine q_lr (k := 1) (i := 0) (q := (.aload_n 0, 1, 0, 0, .null)) rfl (fun _ => rfl) l0_1 ?_
      refine r_gi (v := (q50.2.1 70 17)) H (pc := 67) (i := _) rfl (by decide) (by decide) rfl ?_
      refine q_lr (k := 1) (i := 0) (q := (.aload_n 0, 1, 0, 0, .null)) rfl (fun _ => rfl) l0_1 ?_
      refine r_gi (v := (q50.2.1 70 10)) H (pc := 71) (i := _) rfl (by decide) (by decide) rfl ?_
      refine r_ifc (len := 3) (a := 86) (b := 0) (v0 := .null) (cn := .ne) (off := 12) rfl (fun c => ?_) (fun c => ?_)
      · rw [if_pos c] at h
        exact T189_86 H he F l0_1 l1_1 h
      · rw [if_neg (by rw [c]; decide)] at h
        refine q_lr (k := 1) (i := 0) (q := (.aload_n 0, 1, 0, 0, .null)) rfl (fun _ => rfl) l0_1 ?_
        refine r_s (fr' := (79, lv1, [.int 1, .ref 70])) (hp' := xW B (xu q50.2 70 18 (q50.2.1 70 10))) (q := (.iconst 1, 1, 0, 0, .null)) rfl (fun _ => rfl) (Nat.le_refl _) ?_
        refine q_li (k := 1) (i := 1) (q := (.iload_n 1, 1, 0, 0, .null)) rfl (fun _ => rfl) l1_1 ?_
        obtain ⟨q80, h80, h⟩ := xbind h
        refine r_call (ix := 70) (as := [.int 1, .int (q31.2.1 70 8)]) (rest := []) (rv := some (.int q80.1)) (hp' := xW B q80.2) (pc := 80) rfl xr163 rfl rfl rfl (xkd H (by decide)) (Nat.le_of_ble_eq_true rfl) (Z163 H h80 (by omega)) (Nat.le_refl _) ?_
        refine r_if (len := 3) (a := 90) (b := 0) (v0 := .null) (cn := .eq) (off := 7) rfl (fun c => ?_) (fun c => ?_)
        · rw [if_pos c] at h
          refine r_s (fr' := (91, lv1, [.int 0])) (hp' := xW B q80.2) (q := (.iconst 0, 1, 0, 0, .null)) rfl (fun _ => rfl) (Nat.le_refl _) ?_
          obtain rfl := Option.some.inj h
          exact q_ri (q := (.ireturn, 1, 0, 0, .null)) rfl (fun _ => rfl) rfl rfl
        · rw [if_neg (by rw [c]; decide)] at h
          exact T189_86 H he F l0_1 l1_1 h
    · rw [if_neg (by rw [c]; decide)] at h
      refine r_s (fr' := (57, lv1, [.int 0])) (hp' := xW B q50.2) (q := (.iconst 0, 1, 0, 0, .null)) rfl (fun _ => rfl) (Nat.le_refl _) ?_
      obtain rfl := Option.some.inj h
      exact q_ri (q := (.ireturn, 1, 0, 0, .null)) rfl (fun _ => rfl) rfl rfl
  · rw [if_neg (by rw [c]; decide)] at h
    refine r_s (fr' := (21, lv, [.int 0])) (hp' := xW B q14.2) (q := (.iconst 0, 1, 0, 0, .null)) rfl (fun _ => rfl) (Nat.le_refl _) ?_
    obtain rfl := Option.some.inj h
    exact q_ri (q := (.ireturn, 1, 0, 0, .null)) rfl (fun _ => rfl) rfl rfl
set_option maxRecDepth 20000 in
theorem Z189 {B : zHp} (H : yH0 B) {F : Nat} {m : xS} {x : Int32 × xS} (h : D189 F m = some x) {d : Nat} (hd : 3 ≤ d) : zCan d 189 [.ref 70] (xW B m) (some (.int x.1), xW B x.2) := by
  obtain ⟨e, rfl⟩ : ∃ e, d = e + 1 := ⟨d - 1, by omega⟩
  refine zCan_body (nL := 2) (rt := (some .boolean)) (cd := zc189) (xg189) ⟨Nat.le_of_ble_eq_true rfl, by decide⟩ (Nat.le_refl _) ?_
  exact T189 H hd F rfl h
/-- LentToolsModel.isTrustHere -/
def D190 (F : Nat) (m : xS) : Option (Int32 × xS) :=
  (D189 F m).bind fun q1 =>
    if zcmp .ne q1.1 0 = true then
      if xib ((46 + (6 * (q1.2.1 70 17))) + (q1.2.1 70 18)) 148 = true then
        some (1, (xu q1.2 76 (((46 + (6 * (q1.2.1 70 17))) + (q1.2.1 70 18)) : Int32).toNatClampNeg 1))
      else none
    else
      some (0, q1.2)
set_option maxRecDepth 20000 in
theorem T190 {B : zHp} (H : yH0 B) {e : Nat} (he : 4 ≤ e + 1) (F : Nat) {lv : List (Nat × Value)} {m : xS} {x : Int32 × xS} (l0 : zld lv 0 = some (.ref 70)) (h : D190 F m = some x) : zR none e 1 (some .boolean) zc190 (0, lv, []) (xW B m) (some (.int x.1), xW B x.2) := by
  unfold D190 at h
  refine q_lr (k := 1) (i := 0) (q := (.aload_n 0, 1, 0, 0, .null)) rfl (fun _ => rfl) l0 ?_
  obtain ⟨q1, h1, h⟩ := xbind h
  refine r_call (ix := 70) (as := []) (rest := []) (rv := some (.int q1.1)) (hp' := xW B q1.2) (pc := 1) rfl xr189 rfl rfl rfl (xkd H (by decide)) (Nat.le_of_ble_eq_true rfl) (Z189 H h1 (by omega)) (Nat.le_refl _) ?_
  refine r_if (len := 3) (a := 9) (b := 0) (v0 := .null) (cn := .ne) (off := 5) rfl (fun c => ?_) (fun c => ?_)
  · rw [if_pos c] at h
    refine q_lr (k := 1) (i := 0) (q := (.aload_n 0, 1, 0, 0, .null)) rfl (fun _ => rfl) l0 ?_
    refine r_gr (c := 76) H (pc := 10) rfl (by decide) (by decide) ?_
    refine r_s (fr' := (15, lv, [.int 46, .ref 76])) (hp' := xW B q1.2) (q := (.bipush 46, 2, 0, 0, .null)) rfl (fun _ => rfl) (Nat.le_refl _) ?_
    refine r_s (fr' := (17, lv, [.int 6, .int 46, .ref 76])) (hp' := xW B q1.2) (q := (.bipush 6, 2, 0, 0, .null)) rfl (fun _ => rfl) (Nat.le_refl _) ?_
    refine q_lr (k := 1) (i := 0) (q := (.aload_n 0, 1, 0, 0, .null)) rfl (fun _ => rfl) l0 ?_
    refine r_gi (v := (q1.2.1 70 17)) H (pc := 18) (i := _) rfl (by decide) (by decide) rfl ?_
    refine r_s (fr' := (22, lv, [.int (6 * (q1.2.1 70 17)), .int 46, .ref 76])) (hp' := xW B q1.2) (q := (.imul, 1, 0, 0, .null)) rfl (fun _ => rfl) (Nat.le_refl _) ?_
    refine r_s (fr' := (23, lv, [.int (46 + (6 * (q1.2.1 70 17))), .ref 76])) (hp' := xW B q1.2) (q := (.iadd, 1, 0, 0, .null)) rfl (fun _ => rfl) (Nat.le_refl _) ?_
    refine q_lr (k := 1) (i := 0) (q := (.aload_n 0, 1, 0, 0, .null)) rfl (fun _ => rfl) l0 ?_
    refine r_gi (v := (q1.2.1 70 18)) H (pc := 24) (i := _) rfl (by decide) (by decide) rfl ?_
    refine r_s (fr' := (28, lv, [.int ((46 + (6 * (q1.2.1 70 17))) + (q1.2.1 70 18)), .ref 76])) (hp' := xW B q1.2) (q := (.iadd, 1, 0, 0, .null)) rfl (fun _ => rfl) (Nat.le_refl _) ?_
    refine r_s (fr' := (29, lv, [.int 1, .int ((46 + (6 * (q1.2.1 70 17))) + (q1.2.1 70 18)), .ref 76])) (hp' := xW B q1.2) (q := (.iconst 1, 1, 0, 0, .null)) rfl (fun _ => rfl) (Nat.le_refl _) ?_
    obtain ⟨c1, h⟩ := xif h
    refine q_as (n := 148) (s2 := (xu q1.2 76 (((46 + (6 * (q1.2.1 70 17))) + (q1.2.1 70 18)) : Int32).toNatClampNeg 1)) H (pc := 29) rfl (by decide) c1 rfl ?_
    refine r_s (fr' := (31, lv, [.int 1])) (hp' := xW B (xu q1.2 76 (((46 + (6 * (q1.2.1 70 17))) + (q1.2.1 70 18)) : Int32).toNatClampNeg 1)) (q := (.iconst 1, 1, 0, 0, .null)) rfl (fun _ => rfl) (Nat.le_refl _) ?_
    obtain rfl := Option.some.inj h
    exact q_ri (q := (.ireturn, 1, 0, 0, .null)) rfl (fun _ => rfl) rfl rfl
  · rw [if_neg (by rw [c]; decide)] at h
    refine r_s (fr' := (8, lv, [.int 0])) (hp' := xW B q1.2) (q := (.iconst 0, 1, 0, 0, .null)) rfl (fun _ => rfl) (Nat.le_refl _) ?_
    obtain rfl := Option.some.inj h
    exact q_ri (q := (.ireturn, 1, 0, 0, .null)) rfl (fun _ => rfl) rfl rfl
set_option maxRecDepth 20000 in
theorem Z190 {B : zHp} (H : yH0 B) {F : Nat} {m : xS} {x : Int32 × xS} (h : D190 F m = some x) {d : Nat} (hd : 4 ≤ d) : zCan d 190 [.ref 70] (xW B m) (some (.int x.1), xW B x.2) := by
  obtain ⟨e, rfl⟩ : ∃ e, d = e + 1 := ⟨d - 1, by omega⟩
  refine zCan_body (nL := 1) (rt := (some .boolean)) (cd := zc190) (xg190) ⟨Nat.le_of_ble_eq_true rfl, by decide⟩ (Nat.le_refl _) ?_
  exact T190 H hd F rfl h
/-- LentToolsModel.isWorkHere -/
def D192_89 (F : Nat) (v1 : Int32) (v2 : Int32) (m : xS) : Option (Int32 × xS) :=
  some (0, m)
set_option maxRecDepth 20000 in
theorem T192_89 {B : zHp} (H : yH0 B) {e : Nat} (he : 4 ≤ e + 1) (F : Nat) {v1 : Int32} {v2 : Int32} {lv : List (Nat × Value)} {m : xS} {x : Int32 × xS} (l0 : zld lv 0 = some (.ref 70)) (l1 : zld lv 1 = some (.int v1)) (l2 : zld lv 2 = some (.int v2)) (h : D192_89 F v1 v2 m = some x) : zR none e 3 (some .boolean) zc192 (89, lv, []) (xW B m) (some (.int x.1), xW B x.2) := by
  unfold D192_89 at h
  refine r_s (fr' := (90, lv, [.int 0])) (hp' := xW B m) (q := (.iconst 0, 1, 0, 0, .null)) rfl (fun _ => rfl) (Nat.le_refl _) ?_
  obtain rfl := Option.some.inj h
  exact q_ri (q := (.ireturn, 1, 0, 0, .null)) rfl (fun _ => rfl) rfl rfl
def D192 (F : Nat) (v1 : Int32) (m : xS) : Option (Int32 × xS) :=
  if zcmp .ne (m.1 76 3) 6 = true then
    (D168 F m).bind fun q19 =>
      (D186 F (124 + (4 * (q19.2.1 76 3))) 0 ((q19.2.1 76 0) - 1) q19.2).bind fun q45 =>
        if zcmp .eq q45.1 0 = true then
          D192_89 F v1 (124 + (4 * (q19.2.1 76 3))) q45.2
        else
          (D186 F ((124 + (4 * (q19.2.1 76 3))) + 1) 0 4 q45.2).bind fun q57 =>
            if zcmp .eq q57.1 0 = true then
              D192_89 F v1 (124 + (4 * (q19.2.1 76 3))) q57.2
            else
              (D186 F ((124 + (4 * (q19.2.1 76 3))) + 2) 1 20 q57.2).bind fun q70 =>
                if zcmp .eq q70.1 0 = true then
                  D192_89 F v1 (124 + (4 * (q19.2.1 76 3))) q70.2
                else
                  (D186 F ((124 + (4 * (q19.2.1 76 3))) + 3) 1 50 q70.2).bind fun q83 =>
                    if zcmp .ne q83.1 0 = true then
                      some (1, (xu q83.2 76 3 ((q83.2.1 76 3) + 1)))
                    else
                      D192_89 F v1 (124 + (4 * (q19.2.1 76 3))) q83.2
  else
    (D163 F 4 v1 m).bind fun q14 =>
      if xbo q14.1 = true then
        some (q14.1, q14.2)
      else none
set_option maxRecDepth 20000 in
theorem T192 {B : zHp} (H : yH0 B) {e : Nat} (he : 4 ≤ e + 1) (F : Nat) {v1 : Int32} {lv : List (Nat × Value)} {m : xS} {x : Int32 × xS} (l0 : zld lv 0 = some (.ref 70)) (l1 : zld lv 1 = some (.int v1)) (h : D192 F v1 m = some x) : zR none e 3 (some .boolean) zc192 (0, lv, []) (xW B m) (some (.int x.1), xW B x.2) := by
  unfold D192 at h
  refine q_lr (k := 1) (i := 0) (q := (.aload_n 0, 1, 0, 0, .null)) rfl (fun _ => rfl) l0 ?_
  refine r_gr (c := 76) H (pc := 1) rfl (by decide) (by decide) ?_
  refine r_s (fr' := (5, lv, [.int 3, .ref 76])) (hp' := xW B m) (q := (.iconst 3, 1, 0, 0, .null)) rfl (fun _ => rfl) (Nat.le_refl _) ?_
  refine q_al (n := 148) (v := (m.1 76 3)) H (pc := 5) rfl (by decide) (by decide) rfl ?_
  refine r_s (fr' := (8, lv, [.int 6, .int (m.1 76 3)])) (hp' := xW B m) (q := (.bipush 6, 2, 0, 0, .null)) rfl (fun _ => rfl) (Nat.le_refl _) ?_
  refine r_ifc (len := 3) (a := 18) (b := 0) (v0 := .null) (cn := .ne) (off := 10) rfl (fun c => ?_) (fun c => ?_)
  · rw [if_pos c] at h
    refine q_lr (k := 1) (i := 0) (q := (.aload_n 0, 1, 0, 0, .null)) rfl (fun _ => rfl) l0 ?_
    obtain ⟨q19, h19, h⟩ := xbind h
    refine r_call (ix := 70) (as := []) (rest := []) (rv := none) (hp' := xW B q19.2) (pc := 19) rfl xr168 rfl rfl rfl (xkd H (by decide)) (Nat.le_of_ble_eq_true rfl) (Z168 H h19 (by omega)) (Nat.le_refl _) ?_
    refine r_s (fr' := (24, lv, [.int 124])) (hp' := xW B q19.2) (q := (.bipush 124, 2, 0, 0, .null)) rfl (fun _ => rfl) (Nat.le_refl _) ?_
    refine r_s (fr' := (25, lv, [.int 4, .int 124])) (hp' := xW B q19.2) (q := (.iconst 4, 1, 0, 0, .null)) rfl (fun _ => rfl) (Nat.le_refl _) ?_
    refine q_lr (k := 1) (i := 0) (q := (.aload_n 0, 1, 0, 0, .null)) rfl (fun _ => rfl) l0 ?_
    refine r_gr (c := 76) H (pc := 26) rfl (by decide) (by decide) ?_
    refine r_s (fr' := (30, lv, [.int 3, .ref 76, .int 4, .int 124])) (hp' := xW B q19.2) (q := (.iconst 3, 1, 0, 0, .null)) rfl (fun _ => rfl) (Nat.le_refl _) ?_
    refine q_al (n := 148) (v := (q19.2.1 76 3)) H (pc := 30) rfl (by decide) (by decide) rfl ?_
    refine r_s (fr' := (32, lv, [.int (4 * (q19.2.1 76 3)), .int 124])) (hp' := xW B q19.2) (q := (.imul, 1, 0, 0, .null)) rfl (fun _ => rfl) (Nat.le_refl _) ?_
    refine r_s (fr' := (33, lv, [.int (124 + (4 * (q19.2.1 76 3)))])) (hp' := xW B q19.2) (q := (.iadd, 1, 0, 0, .null)) rfl (fun _ => rfl) (Nat.le_refl _) ?_
    refine q_si (k := 1) (i := 2) (q := (.istore_n 2, 1, 0, 0, .null)) rfl (fun _ => rfl) (by decide) ?_
    have l0_1 : zld (zs1 lv 2 (.int (124 + (4 * (q19.2.1 76 3))))) 0 = some (.ref 70) := x_o1 l0 rfl rfl
    have l1_1 : zld (zs1 lv 2 (.int (124 + (4 * (q19.2.1 76 3))))) 1 = some (.int v1) := x_o1 l1 rfl rfl
    have l2_1 : zld (zs1 lv 2 (.int (124 + (4 * (q19.2.1 76 3))))) 2 = some (.int (124 + (4 * (q19.2.1 76 3)))) := zs1_ld _ _ _
    generalize (zs1 lv 2 (.int (124 + (4 * (q19.2.1 76 3))))) = lv1 at *
    refine q_lr (k := 1) (i := 0) (q := (.aload_n 0, 1, 0, 0, .null)) rfl (fun _ => rfl) l0_1 ?_
    refine q_li (k := 1) (i := 2) (q := (.iload_n 2, 1, 0, 0, .null)) rfl (fun _ => rfl) l2_1 ?_
    refine r_s (fr' := (37, lv1, [.int 0, .int (124 + (4 * (q19.2.1 76 3))), .ref 70])) (hp' := xW B q19.2) (q := (.iconst 0, 1, 0, 0, .null)) rfl (fun _ => rfl) (Nat.le_refl _) ?_
    refine q_lr (k := 1) (i := 0) (q := (.aload_n 0, 1, 0, 0, .null)) rfl (fun _ => rfl) l0_1 ?_
    refine r_gr (c := 76) H (pc := 38) rfl (by decide) (by decide) ?_
    refine r_s (fr' := (42, lv1, [.int 0, .ref 76, .int 0, .int (124 + (4 * (q19.2.1 76 3))), .ref 70])) (hp' := xW B q19.2) (q := (.iconst 0, 1, 0, 0, .null)) rfl (fun _ => rfl) (Nat.le_refl _) ?_
    refine q_al (n := 148) (v := (q19.2.1 76 0)) H (pc := 42) rfl (by decide) (by decide) rfl ?_
    refine r_s (fr' := (44, lv1, [.int 1, .int (q19.2.1 76 0), .int 0, .int (124 + (4 * (q19.2.1 76 3))), .ref 70])) (hp' := xW B q19.2) (q := (.iconst 1, 1, 0, 0, .null)) rfl (fun _ => rfl) (Nat.le_refl _) ?_
    refine r_s (fr' := (45, lv1, [.int ((q19.2.1 76 0) - 1), .int 0, .int (124 + (4 * (q19.2.1 76 3))), .ref 70])) (hp' := xW B q19.2) (q := (.isub, 1, 0, 0, .null)) rfl (fun _ => rfl) (Nat.le_refl _) ?_
    obtain ⟨q45, h45, h⟩ := xbind h
    refine r_call (ix := 70) (as := [.int (124 + (4 * (q19.2.1 76 3))), .int 0, .int ((q19.2.1 76 0) - 1)]) (rest := []) (rv := some (.int q45.1)) (hp' := xW B q45.2) (pc := 45) rfl xr186 rfl rfl rfl (xkd H (by decide)) (Nat.le_of_ble_eq_true rfl) (Z186 H h45 (by omega)) (Nat.le_refl _) ?_
    refine r_if (len := 3) (a := 89) (b := 0) (v0 := .null) (cn := .eq) (off := 41) rfl (fun c => ?_) (fun c => ?_)
    · rw [if_pos c] at h
      exact T192_89 H he F l0_1 l1_1 l2_1 h
    · rw [if_neg (by rw [c]; decide)] at h
      refine q_lr (k := 1) (i := 0) (q := (.aload_n 0, 1, 0, 0, .null)) rfl (fun _ => rfl) l0_1 ?_
      refine q_li (k := 1) (i := 2) (q := (.iload_n 2, 1, 0, 0, .null)) rfl (fun _ => rfl) l2_1 ?_
      refine r_s (fr' := (54, lv1, [.int 1, .int (124 + (4 * (q19.2.1 76 3))), .ref 70])) (hp' := xW B q45.2) (q := (.iconst 1, 1, 0, 0, .null)) rfl (fun _ => rfl) (Nat.le_refl _) ?_
      refine r_s (fr' := (55, lv1, [.int ((124 + (4 * (q19.2.1 76 3))) + 1), .ref 70])) (hp' := xW B q45.2) (q := (.iadd, 1, 0, 0, .null)) rfl (fun _ => rfl) (Nat.le_refl _) ?_
      refine r_s (fr' := (56, lv1, [.int 0, .int ((124 + (4 * (q19.2.1 76 3))) + 1), .ref 70])) (hp' := xW B q45.2) (q := (.iconst 0, 1, 0, 0, .null)) rfl (fun _ => rfl) (Nat.le_refl _) ?_
      refine r_s (fr' := (57, lv1, [.int 4, .int 0, .int ((124 + (4 * (q19.2.1 76 3))) + 1), .ref 70])) (hp' := xW B q45.2) (q := (.iconst 4, 1, 0, 0, .null)) rfl (fun _ => rfl) (Nat.le_refl _) ?_
      obtain ⟨q57, h57, h⟩ := xbind h
      refine r_call (ix := 70) (as := [.int ((124 + (4 * (q19.2.1 76 3))) + 1), .int 0, .int 4]) (rest := []) (rv := some (.int q57.1)) (hp' := xW B q57.2) (pc := 57) rfl xr186 rfl rfl rfl (xkd H (by decide)) (Nat.le_of_ble_eq_true rfl) (Z186 H h57 (by omega)) (Nat.le_refl _) ?_
      refine r_if (len := 3) (a := 89) (b := 0) (v0 := .null) (cn := .eq) (off := 29) rfl (fun c => ?_) (fun c => ?_)
      · rw [if_pos c] at h
        exact T192_89 H he F l0_1 l1_1 l2_1 h
      · rw [if_neg (by rw [c]; decide)] at h
        refine q_lr (k := 1) (i := 0) (q := (.aload_n 0, 1, 0, 0, .null)) rfl (fun _ => rfl) l0_1 ?_
        refine q_li (k := 1) (i := 2) (q := (.iload_n 2, 1, 0, 0, .null)) rfl (fun _ => rfl) l2_1 ?_
        refine r_s (fr' := (66, lv1, [.int 2, .int (124 + (4 * (q19.2.1 76 3))), .ref 70])) (hp' := xW B q57.2) (q := (.iconst 2, 1, 0, 0, .null)) rfl (fun _ => rfl) (Nat.le_refl _) ?_
        refine r_s (fr' := (67, lv1, [.int ((124 + (4 * (q19.2.1 76 3))) + 2), .ref 70])) (hp' := xW B q57.2) (q := (.iadd, 1, 0, 0, .null)) rfl (fun _ => rfl) (Nat.le_refl _) ?_
        refine r_s (fr' := (68, lv1, [.int 1, .int ((124 + (4 * (q19.2.1 76 3))) + 2), .ref 70])) (hp' := xW B q57.2) (q := (.iconst 1, 1, 0, 0, .null)) rfl (fun _ => rfl) (Nat.le_refl _) ?_
        refine r_s (fr' := (70, lv1, [.int 20, .int 1, .int ((124 + (4 * (q19.2.1 76 3))) + 2), .ref 70])) (hp' := xW B q57.2) (q := (.bipush 20, 2, 0, 0, .null)) rfl (fun _ => rfl) (Nat.le_refl _) ?_
        obtain ⟨q70, h70, h⟩ := xbind h
        refine r_call (ix := 70) (as := [.int ((124 + (4 * (q19.2.1 76 3))) + 2), .int 1, .int 20]) (rest := []) (rv := some (.int q70.1)) (hp' := xW B q70.2) (pc := 70) rfl xr186 rfl rfl rfl (xkd H (by decide)) (Nat.le_of_ble_eq_true rfl) (Z186 H h70 (by omega)) (Nat.le_refl _) ?_
        refine r_if (len := 3) (a := 89) (b := 0) (v0 := .null) (cn := .eq) (off := 16) rfl (fun c => ?_) (fun c => ?_)
        · rw [if_pos c] at h
          exact T192_89 H he F l0_1 l1_1 l2_1 h
        · rw [if_neg (by rw [c]; decide)] at h
          refine q_lr (k := 1) (i := 0) (q := (.aload_n 0, 1, 0, 0, .null)) rfl (fun _ => rfl) l0_1 ?_
          refine q_li (k := 1) (i := 2) (q := (.iload_n 2, 1, 0, 0, .null)) rfl (fun _ => rfl) l2_1 ?_
          refine r_s (fr' := (79, lv1, [.int 3, .int (124 + (4 * (q19.2.1 76 3))), .ref 70])) (hp' := xW B q70.2) (q := (.iconst 3, 1, 0, 0, .null)) rfl (fun _ => rfl) (Nat.le_refl _) ?_
          refine r_s (fr' := (80, lv1, [.int ((124 + (4 * (q19.2.1 76 3))) + 3), .ref 70])) (hp' := xW B q70.2) (q := (.iadd, 1, 0, 0, .null)) rfl (fun _ => rfl) (Nat.le_refl _) ?_
          refine r_s (fr' := (81, lv1, [.int 1, .int ((124 + (4 * (q19.2.1 76 3))) + 3), .ref 70])) (hp' := xW B q70.2) (q := (.iconst 1, 1, 0, 0, .null)) rfl (fun _ => rfl) (Nat.le_refl _) ?_
          refine r_s (fr' := (83, lv1, [.int 50, .int 1, .int ((124 + (4 * (q19.2.1 76 3))) + 3), .ref 70])) (hp' := xW B q70.2) (q := (.bipush 50, 2, 0, 0, .null)) rfl (fun _ => rfl) (Nat.le_refl _) ?_
          obtain ⟨q83, h83, h⟩ := xbind h
          refine r_call (ix := 70) (as := [.int ((124 + (4 * (q19.2.1 76 3))) + 3), .int 1, .int 50]) (rest := []) (rv := some (.int q83.1)) (hp' := xW B q83.2) (pc := 83) rfl xr186 rfl rfl rfl (xkd H (by decide)) (Nat.le_of_ble_eq_true rfl) (Z186 H h83 (by omega)) (Nat.le_refl _) ?_
          refine r_if (len := 3) (a := 91) (b := 0) (v0 := .null) (cn := .ne) (off := 5) rfl (fun c => ?_) (fun c => ?_)
          · rw [if_pos c] at h
            refine q_lr (k := 1) (i := 0) (q := (.aload_n 0, 1, 0, 0, .null)) rfl (fun _ => rfl) l0_1 ?_
            refine r_gr (c := 76) H (pc := 92) rfl (by decide) (by decide) ?_
            refine r_s (fr' := (96, lv1, [.int 3, .ref 76])) (hp' := xW B q83.2) (q := (.iconst 3, 1, 0, 0, .null)) rfl (fun _ => rfl) (Nat.le_refl _) ?_
            refine r_s (fr' := (97, lv1, [.int 3, .ref 76, .int 3, .ref 76])) (hp' := xW B q83.2) (q := (.dup2, 1, 0, 0, .null)) rfl (fun _ => rfl) (Nat.le_refl _) ?_
            refine q_al (n := 148) (v := (q83.2.1 76 3)) H (pc := 97) rfl (by decide) (by decide) rfl ?_
            refine r_s (fr' := (99, lv1, [.int 1, .int (q83.2.1 76 3), .int 3, .ref 76])) (hp' := xW B q83.2) (q := (.iconst 1, 1, 0, 0, .null)) rfl (fun _ => rfl) (Nat.le_refl _) ?_
            refine r_s (fr' := (100, lv1, [.int ((q83.2.1 76 3) + 1), .int 3, .ref 76])) (hp' := xW B q83.2) (q := (.iadd, 1, 0, 0, .null)) rfl (fun _ => rfl) (Nat.le_refl _) ?_
            refine q_as (n := 148) (s2 := (xu q83.2 76 3 ((q83.2.1 76 3) + 1))) H (pc := 100) rfl (by decide) (by decide) rfl ?_
            refine r_s (fr' := (102, lv1, [.int 1])) (hp' := xW B (xu q83.2 76 3 ((q83.2.1 76 3) + 1))) (q := (.iconst 1, 1, 0, 0, .null)) rfl (fun _ => rfl) (Nat.le_refl _) ?_
            obtain rfl := Option.some.inj h
            exact q_ri (q := (.ireturn, 1, 0, 0, .null)) rfl (fun _ => rfl) rfl rfl
          · rw [if_neg (by rw [c]; decide)] at h
            exact T192_89 H he F l0_1 l1_1 l2_1 h
  · rw [if_neg (by rw [c]; decide)] at h
    refine q_lr (k := 1) (i := 0) (q := (.aload_n 0, 1, 0, 0, .null)) rfl (fun _ => rfl) l0 ?_
    refine r_s (fr' := (13, lv, [.int 4, .ref 70])) (hp' := xW B m) (q := (.iconst 4, 1, 0, 0, .null)) rfl (fun _ => rfl) (Nat.le_refl _) ?_
    refine q_li (k := 1) (i := 1) (q := (.iload_n 1, 1, 0, 0, .null)) rfl (fun _ => rfl) l1 ?_
    obtain ⟨q14, h14, h⟩ := xbind h
    refine r_call (ix := 70) (as := [.int 4, .int v1]) (rest := []) (rv := some (.int q14.1)) (hp' := xW B q14.2) (pc := 14) rfl xr163 rfl rfl rfl (xkd H (by decide)) (Nat.le_of_ble_eq_true rfl) (Z163 H h14 (by omega)) (Nat.le_refl _) ?_
    obtain ⟨c2, h⟩ := xif h
    obtain rfl := Option.some.inj h
    exact q_ri (q := (.ireturn, 1, 0, 0, .null)) rfl (fun _ => rfl) rfl (xbo_ok c2)
set_option maxRecDepth 20000 in
theorem Z192 {B : zHp} (H : yH0 B) {F : Nat} {a1 : Int32} {m : xS} {x : Int32 × xS} (h : D192 F a1 m = some x) {d : Nat} (hd : 4 ≤ d) : zCan d 192 [.ref 70, .int a1] (xW B m) (some (.int x.1), xW B x.2) := by
  obtain ⟨e, rfl⟩ : ∃ e, d = e + 1 := ⟨d - 1, by omega⟩
  refine zCan_body (nL := 3) (rt := (some .boolean)) (cd := zc192) (xg192) ⟨Nat.le_of_ble_eq_true rfl, by decide⟩ (Nat.le_refl _) ?_
  exact T192 H hd F rfl rfl h
/-- LentToolsModel.areThanksHere -/
def D191 (F : Nat) (m : xS) : Option (Int32 × xS) :=
  (D189 F m).bind fun q1 =>
    if zcmp .ne q1.1 0 = true then
      (D186 F ((82 + (6 * (q1.2.1 70 17))) + (q1.2.1 70 18)) 0 9 q1.2).bind fun q28 =>
        if xbo q28.1 = true then
          some (q28.1, q28.2)
        else none
    else
      some (0, q1.2)
set_option maxRecDepth 20000 in
theorem T191 {B : zHp} (H : yH0 B) {e : Nat} (he : 4 ≤ e + 1) (F : Nat) {lv : List (Nat × Value)} {m : xS} {x : Int32 × xS} (l0 : zld lv 0 = some (.ref 70)) (h : D191 F m = some x) : zR none e 1 (some .boolean) zc191 (0, lv, []) (xW B m) (some (.int x.1), xW B x.2) := by
  unfold D191 at h
  refine q_lr (k := 1) (i := 0) (q := (.aload_n 0, 1, 0, 0, .null)) rfl (fun _ => rfl) l0 ?_
  obtain ⟨q1, h1, h⟩ := xbind h
  refine r_call (ix := 70) (as := []) (rest := []) (rv := some (.int q1.1)) (hp' := xW B q1.2) (pc := 1) rfl xr189 rfl rfl rfl (xkd H (by decide)) (Nat.le_of_ble_eq_true rfl) (Z189 H h1 (by omega)) (Nat.le_refl _) ?_
  refine r_if (len := 3) (a := 9) (b := 0) (v0 := .null) (cn := .ne) (off := 5) rfl (fun c => ?_) (fun c => ?_)
  · rw [if_pos c] at h
    refine q_lr (k := 1) (i := 0) (q := (.aload_n 0, 1, 0, 0, .null)) rfl (fun _ => rfl) l0 ?_
    refine r_s (fr' := (12, lv, [.int 82, .ref 70])) (hp' := xW B q1.2) (q := (.bipush 82, 2, 0, 0, .null)) rfl (fun _ => rfl) (Nat.le_refl _) ?_
    refine r_s (fr' := (14, lv, [.int 6, .int 82, .ref 70])) (hp' := xW B q1.2) (q := (.bipush 6, 2, 0, 0, .null)) rfl (fun _ => rfl) (Nat.le_refl _) ?_
    refine q_lr (k := 1) (i := 0) (q := (.aload_n 0, 1, 0, 0, .null)) rfl (fun _ => rfl) l0 ?_
    refine r_gi (v := (q1.2.1 70 17)) H (pc := 15) (i := _) rfl (by decide) (by decide) rfl ?_
    refine r_s (fr' := (19, lv, [.int (6 * (q1.2.1 70 17)), .int 82, .ref 70])) (hp' := xW B q1.2) (q := (.imul, 1, 0, 0, .null)) rfl (fun _ => rfl) (Nat.le_refl _) ?_
    refine r_s (fr' := (20, lv, [.int (82 + (6 * (q1.2.1 70 17))), .ref 70])) (hp' := xW B q1.2) (q := (.iadd, 1, 0, 0, .null)) rfl (fun _ => rfl) (Nat.le_refl _) ?_
    refine q_lr (k := 1) (i := 0) (q := (.aload_n 0, 1, 0, 0, .null)) rfl (fun _ => rfl) l0 ?_
    refine r_gi (v := (q1.2.1 70 18)) H (pc := 21) (i := _) rfl (by decide) (by decide) rfl ?_
    refine r_s (fr' := (25, lv, [.int ((82 + (6 * (q1.2.1 70 17))) + (q1.2.1 70 18)), .ref 70])) (hp' := xW B q1.2) (q := (.iadd, 1, 0, 0, .null)) rfl (fun _ => rfl) (Nat.le_refl _) ?_
    refine r_s (fr' := (26, lv, [.int 0, .int ((82 + (6 * (q1.2.1 70 17))) + (q1.2.1 70 18)), .ref 70])) (hp' := xW B q1.2) (q := (.iconst 0, 1, 0, 0, .null)) rfl (fun _ => rfl) (Nat.le_refl _) ?_
    refine r_s (fr' := (28, lv, [.int 9, .int 0, .int ((82 + (6 * (q1.2.1 70 17))) + (q1.2.1 70 18)), .ref 70])) (hp' := xW B q1.2) (q := (.bipush 9, 2, 0, 0, .null)) rfl (fun _ => rfl) (Nat.le_refl _) ?_
    obtain ⟨q28, h28, h⟩ := xbind h
    refine r_call (ix := 70) (as := [.int ((82 + (6 * (q1.2.1 70 17))) + (q1.2.1 70 18)), .int 0, .int 9]) (rest := []) (rv := some (.int q28.1)) (hp' := xW B q28.2) (pc := 28) rfl xr186 rfl rfl rfl (xkd H (by decide)) (Nat.le_of_ble_eq_true rfl) (Z186 H h28 (by omega)) (Nat.le_refl _) ?_
    obtain ⟨c1, h⟩ := xif h
    obtain rfl := Option.some.inj h
    exact q_ri (q := (.ireturn, 1, 0, 0, .null)) rfl (fun _ => rfl) rfl (xbo_ok c1)
  · rw [if_neg (by rw [c]; decide)] at h
    refine r_s (fr' := (8, lv, [.int 0])) (hp' := xW B q1.2) (q := (.iconst 0, 1, 0, 0, .null)) rfl (fun _ => rfl) (Nat.le_refl _) ?_
    obtain rfl := Option.some.inj h
    exact q_ri (q := (.ireturn, 1, 0, 0, .null)) rfl (fun _ => rfl) rfl rfl
set_option maxRecDepth 20000 in
theorem Z191 {B : zHp} (H : yH0 B) {F : Nat} {m : xS} {x : Int32 × xS} (h : D191 F m = some x) {d : Nat} (hd : 4 ≤ d) : zCan d 191 [.ref 70] (xW B m) (some (.int x.1), xW B x.2) := by
  obtain ⟨e, rfl⟩ : ∃ e, d = e + 1 := ⟨d - 1, by omega⟩
  refine zCan_body (nL := 1) (rt := (some .boolean)) (cd := zc191) (xg191) ⟨Nat.le_of_ble_eq_true rfl, by decide⟩ (Nat.le_refl _) ?_
  exact T191 H hd F rfl h
/-- LentToolsModel.villageLineHere -/
def D193 (F : Nat) (v1 : Int32) (m : xS) : Option (Int32 × xS) :=
  (D167 F 33329961647564645 m).bind fun q4 =>
    if zcmp .eq q4.1 0 = true then
      if zcmp .ne (q4.2.1 76 0) 0 = true then
        (D167 F 1953460076 q4.2).bind fun q36 =>
          if zcmp .eq q36.1 0 = true then
            (D167 F 500136506228 q36.2).bind fun q52 =>
              if zcmp .eq q52.1 0 = true then
                (D167 F 2003792491 q52.2).bind fun q67 =>
                  if zcmp .eq q67.1 0 = true then
                    (D191 F q67.2).bind fun q82 =>
                      if xbo q82.1 = true then
                        some (q82.1, q82.2)
                      else none
                  else
                    (D192 F v1 q67.2).bind fun q75 =>
                      if xbo q75.1 = true then
                        some (q75.1, q75.2)
                      else none
              else
                (D190 F q52.2).bind fun q59 =>
                  if xbo q59.1 = true then
                    some (q59.1, q59.2)
                  else none
          else
            (D188 F v1 q36.2).bind fun q44 =>
              if xbo q44.1 = true then
                some (q44.1, q44.2)
              else none
      else
        (D163 F 4 v1 q4.2).bind fun q28 =>
          if xbo q28.1 = true then
            some (q28.1, q28.2)
          else none
    else
      (D187 F v1 q4.2).bind fun q12 =>
        if xbo q12.1 = true then
          some (q12.1, q12.2)
        else none
set_option maxRecDepth 20000 in
theorem T193 {B : zHp} (H : yH0 B) {e : Nat} (he : 5 ≤ e + 1) (F : Nat) {v1 : Int32} {lv : List (Nat × Value)} {m : xS} {x : Int32 × xS} (l0 : zld lv 0 = some (.ref 70)) (l1 : zld lv 1 = some (.int v1)) (h : D193 F v1 m = some x) : zR none e 2 (some .boolean) zc193 (0, lv, []) (xW B m) (some (.int x.1), xW B x.2) := by
  unfold D193 at h
  refine q_lr (k := 1) (i := 0) (q := (.aload_n 0, 1, 0, 0, .null)) rfl (fun _ => rfl) l0 ?_
  refine r_s (fr' := (4, lv, [.long 33329961647564645, .ref 70])) (hp' := xW B m) (q := (.ldc2_w 218, 3, 0, 0, .long 33329961647564645)) rfl (fun _ => rfl) (Nat.le_refl _) ?_
  obtain ⟨q4, h4, h⟩ := xbind h
  refine r_call (ix := 70) (as := [.long 33329961647564645]) (rest := []) (rv := some (.int q4.1)) (hp' := xW B q4.2) (pc := 4) rfl xr167 rfl rfl rfl (xkd H (by decide)) (Nat.le_of_ble_eq_true rfl) (Z167 H h4 (by omega)) (Nat.le_refl _) ?_
  refine r_if (len := 3) (a := 16) (b := 0) (v0 := .null) (cn := .eq) (off := 9) rfl (fun c => ?_) (fun c => ?_)
  · rw [if_pos c] at h
    refine q_lr (k := 1) (i := 0) (q := (.aload_n 0, 1, 0, 0, .null)) rfl (fun _ => rfl) l0 ?_
    refine r_gr (c := 76) H (pc := 17) rfl (by decide) (by decide) ?_
    refine r_s (fr' := (21, lv, [.int 0, .ref 76])) (hp' := xW B q4.2) (q := (.iconst 0, 1, 0, 0, .null)) rfl (fun _ => rfl) (Nat.le_refl _) ?_
    refine q_al (n := 148) (v := (q4.2.1 76 0)) H (pc := 21) rfl (by decide) (by decide) rfl ?_
    refine r_if (len := 3) (a := 32) (b := 0) (v0 := .null) (cn := .ne) (off := 10) rfl (fun c => ?_) (fun c => ?_)
    · rw [if_pos c] at h
      refine q_lr (k := 1) (i := 0) (q := (.aload_n 0, 1, 0, 0, .null)) rfl (fun _ => rfl) l0 ?_
      refine r_s (fr' := (36, lv, [.long 1953460076, .ref 70])) (hp' := xW B q4.2) (q := (.ldc2_w 107, 3, 0, 0, .long 1953460076)) rfl (fun _ => rfl) (Nat.le_refl _) ?_
      obtain ⟨q36, h36, h⟩ := xbind h
      refine r_call (ix := 70) (as := [.long 1953460076]) (rest := []) (rv := some (.int q36.1)) (hp' := xW B q36.2) (pc := 36) rfl xr167 rfl rfl rfl (xkd H (by decide)) (Nat.le_of_ble_eq_true rfl) (Z167 H h36 (by omega)) (Nat.le_refl _) ?_
      refine r_if (len := 3) (a := 48) (b := 0) (v0 := .null) (cn := .eq) (off := 9) rfl (fun c => ?_) (fun c => ?_)
      · rw [if_pos c] at h
        refine q_lr (k := 1) (i := 0) (q := (.aload_n 0, 1, 0, 0, .null)) rfl (fun _ => rfl) l0 ?_
        refine r_s (fr' := (52, lv, [.long 500136506228, .ref 70])) (hp' := xW B q36.2) (q := (.ldc2_w 226, 3, 0, 0, .long 500136506228)) rfl (fun _ => rfl) (Nat.le_refl _) ?_
        obtain ⟨q52, h52, h⟩ := xbind h
        refine r_call (ix := 70) (as := [.long 500136506228]) (rest := []) (rv := some (.int q52.1)) (hp' := xW B q52.2) (pc := 52) rfl xr167 rfl rfl rfl (xkd H (by decide)) (Nat.le_of_ble_eq_true rfl) (Z167 H h52 (by omega)) (Nat.le_refl _) ?_
        refine r_if (len := 3) (a := 63) (b := 0) (v0 := .null) (cn := .eq) (off := 8) rfl (fun c => ?_) (fun c => ?_)
        · rw [if_pos c] at h
          refine q_lr (k := 1) (i := 0) (q := (.aload_n 0, 1, 0, 0, .null)) rfl (fun _ => rfl) l0 ?_
          refine r_s (fr' := (67, lv, [.long 2003792491, .ref 70])) (hp' := xW B q52.2) (q := (.ldc2_w 231, 3, 0, 0, .long 2003792491)) rfl (fun _ => rfl) (Nat.le_refl _) ?_
          obtain ⟨q67, h67, h⟩ := xbind h
          refine r_call (ix := 70) (as := [.long 2003792491]) (rest := []) (rv := some (.int q67.1)) (hp' := xW B q67.2) (pc := 67) rfl xr167 rfl rfl rfl (xkd H (by decide)) (Nat.le_of_ble_eq_true rfl) (Z167 H h67 (by omega)) (Nat.le_refl _) ?_
          refine r_if (len := 3) (a := 81) (b := 0) (v0 := .null) (cn := .eq) (off := 11) rfl (fun c => ?_) (fun c => ?_)
          · rw [if_pos c] at h
            refine q_lr (k := 1) (i := 0) (q := (.aload_n 0, 1, 0, 0, .null)) rfl (fun _ => rfl) l0 ?_
            obtain ⟨q82, h82, h⟩ := xbind h
            refine r_call (ix := 70) (as := []) (rest := []) (rv := some (.int q82.1)) (hp' := xW B q82.2) (pc := 82) rfl xr191 rfl rfl rfl (xkd H (by decide)) (Nat.le_of_ble_eq_true rfl) (Z191 H h82 (by omega)) (Nat.le_refl _) ?_
            obtain ⟨c1, h⟩ := xif h
            obtain rfl := Option.some.inj h
            exact q_ri (q := (.ireturn, 1, 0, 0, .null)) rfl (fun _ => rfl) rfl (xbo_ok c1)
          · rw [if_neg (by rw [c]; decide)] at h
            refine q_lr (k := 1) (i := 0) (q := (.aload_n 0, 1, 0, 0, .null)) rfl (fun _ => rfl) l0 ?_
            refine q_li (k := 1) (i := 1) (q := (.iload_n 1, 1, 0, 0, .null)) rfl (fun _ => rfl) l1 ?_
            obtain ⟨q75, h75, h⟩ := xbind h
            refine r_call (ix := 70) (as := [.int v1]) (rest := []) (rv := some (.int q75.1)) (hp' := xW B q75.2) (pc := 75) rfl xr192 rfl rfl rfl (xkd H (by decide)) (Nat.le_of_ble_eq_true rfl) (Z192 H h75 (by omega)) (Nat.le_refl _) ?_
            refine r_s (fr' := (85, lv, [.int q75.1])) (hp' := xW B q75.2) (q := (.goto 7, 3, 85, 0, .null)) rfl (fun _ => rfl) (Nat.le_refl _) ?_
            obtain ⟨c2, h⟩ := xif h
            obtain rfl := Option.some.inj h
            exact q_ri (q := (.ireturn, 1, 0, 0, .null)) rfl (fun _ => rfl) rfl (xbo_ok c2)
        · rw [if_neg (by rw [c]; decide)] at h
          refine q_lr (k := 1) (i := 0) (q := (.aload_n 0, 1, 0, 0, .null)) rfl (fun _ => rfl) l0 ?_
          obtain ⟨q59, h59, h⟩ := xbind h
          refine r_call (ix := 70) (as := []) (rest := []) (rv := some (.int q59.1)) (hp' := xW B q59.2) (pc := 59) rfl xr190 rfl rfl rfl (xkd H (by decide)) (Nat.le_of_ble_eq_true rfl) (Z190 H h59 (by omega)) (Nat.le_refl _) ?_
          obtain ⟨c3, h⟩ := xif h
          obtain rfl := Option.some.inj h
          exact q_ri (q := (.ireturn, 1, 0, 0, .null)) rfl (fun _ => rfl) rfl (xbo_ok c3)
      · rw [if_neg (by rw [c]; decide)] at h
        refine q_lr (k := 1) (i := 0) (q := (.aload_n 0, 1, 0, 0, .null)) rfl (fun _ => rfl) l0 ?_
        refine q_li (k := 1) (i := 1) (q := (.iload_n 1, 1, 0, 0, .null)) rfl (fun _ => rfl) l1 ?_
        obtain ⟨q44, h44, h⟩ := xbind h
        refine r_call (ix := 70) (as := [.int v1]) (rest := []) (rv := some (.int q44.1)) (hp' := xW B q44.2) (pc := 44) rfl xr188 rfl rfl rfl (xkd H (by decide)) (Nat.le_of_ble_eq_true rfl) (Z188 H h44 (by omega)) (Nat.le_refl _) ?_
        obtain ⟨c4, h⟩ := xif h
        obtain rfl := Option.some.inj h
        exact q_ri (q := (.ireturn, 1, 0, 0, .null)) rfl (fun _ => rfl) rfl (xbo_ok c4)
    · rw [if_neg (by rw [c]; decide)] at h
      refine q_lr (k := 1) (i := 0) (q := (.aload_n 0, 1, 0, 0, .null)) rfl (fun _ => rfl) l0 ?_
      refine r_s (fr' := (27, lv, [.int 4, .ref 70])) (hp' := xW B q4.2) (q := (.iconst 4, 1, 0, 0, .null)) rfl (fun _ => rfl) (Nat.le_refl _) ?_
      refine q_li (k := 1) (i := 1) (q := (.iload_n 1, 1, 0, 0, .null)) rfl (fun _ => rfl) l1 ?_
      obtain ⟨q28, h28, h⟩ := xbind h
      refine r_call (ix := 70) (as := [.int 4, .int v1]) (rest := []) (rv := some (.int q28.1)) (hp' := xW B q28.2) (pc := 28) rfl xr163 rfl rfl rfl (xkd H (by decide)) (Nat.le_of_ble_eq_true rfl) (Z163 H h28 (by omega)) (Nat.le_refl _) ?_
      obtain ⟨c5, h⟩ := xif h
      obtain rfl := Option.some.inj h
      exact q_ri (q := (.ireturn, 1, 0, 0, .null)) rfl (fun _ => rfl) rfl (xbo_ok c5)
  · rw [if_neg (by rw [c]; decide)] at h
    refine q_lr (k := 1) (i := 0) (q := (.aload_n 0, 1, 0, 0, .null)) rfl (fun _ => rfl) l0 ?_
    refine q_li (k := 1) (i := 1) (q := (.iload_n 1, 1, 0, 0, .null)) rfl (fun _ => rfl) l1 ?_
    obtain ⟨q12, h12, h⟩ := xbind h
    refine r_call (ix := 70) (as := [.int v1]) (rest := []) (rv := some (.int q12.1)) (hp' := xW B q12.2) (pc := 12) rfl xr187 rfl rfl rfl (xkd H (by decide)) (Nat.le_of_ble_eq_true rfl) (Z187 H h12 (by omega)) (Nat.le_refl _) ?_
    obtain ⟨c6, h⟩ := xif h
    obtain rfl := Option.some.inj h
    exact q_ri (q := (.ireturn, 1, 0, 0, .null)) rfl (fun _ => rfl) rfl (xbo_ok c6)
set_option maxRecDepth 20000 in
theorem Z193 {B : zHp} (H : yH0 B) {F : Nat} {a1 : Int32} {m : xS} {x : Int32 × xS} (h : D193 F a1 m = some x) {d : Nat} (hd : 5 ≤ d) : zCan d 193 [.ref 70, .int a1] (xW B m) (some (.int x.1), xW B x.2) := by
  obtain ⟨e, rfl⟩ : ∃ e, d = e + 1 := ⟨d - 1, by omega⟩
  refine zCan_body (nL := 2) (rt := (some .boolean)) (cd := zc193) (xg193) ⟨Nat.le_of_ble_eq_true rfl, by decide⟩ (Nat.le_refl _) ?_
  exact T193 H hd F rfl rfl h
/-- LentToolsModel.makes -/
def D173 (F : Nat) (v1 : Int32) (m : xS) : Option (Int32 × xS) :=
  if zcmp .ne (m.1 70 12) 60 = true then
    some (1, (xu m 70 12 ((m.1 70 12) + 1)))
  else
    (D163 F 3 v1 m).bind fun q12 =>
      if xbo q12.1 = true then
        some (q12.1, q12.2)
      else none
set_option maxRecDepth 20000 in
theorem T173 {B : zHp} (H : yH0 B) {e : Nat} (he : 2 ≤ e + 1) (F : Nat) {v1 : Int32} {lv : List (Nat × Value)} {m : xS} {x : Int32 × xS} (l0 : zld lv 0 = some (.ref 70)) (l1 : zld lv 1 = some (.int v1)) (h : D173 F v1 m = some x) : zR none e 2 (some .boolean) zc173 (0, lv, []) (xW B m) (some (.int x.1), xW B x.2) := by
  unfold D173 at h
  refine q_lr (k := 1) (i := 0) (q := (.aload_n 0, 1, 0, 0, .null)) rfl (fun _ => rfl) l0 ?_
  refine r_gi (v := (m.1 70 12)) H (pc := 1) (i := _) rfl (by decide) (by decide) rfl ?_
  refine r_s (fr' := (6, lv, [.int 60, .int (m.1 70 12)])) (hp' := xW B m) (q := (.bipush 60, 2, 0, 0, .null)) rfl (fun _ => rfl) (Nat.le_refl _) ?_
  refine r_ifc (len := 3) (a := 16) (b := 0) (v0 := .null) (cn := .ne) (off := 10) rfl (fun c => ?_) (fun c => ?_)
  · rw [if_pos c] at h
    refine q_lr (k := 1) (i := 0) (q := (.aload_n 0, 1, 0, 0, .null)) rfl (fun _ => rfl) l0 ?_
    refine r_s (fr' := (18, lv, [.ref 70, .ref 70])) (hp' := xW B m) (q := (.dup, 1, 0, 0, .null)) rfl (fun _ => rfl) (Nat.le_refl _) ?_
    refine r_gi (v := (m.1 70 12)) H (pc := 18) (i := _) rfl (by decide) (by decide) rfl ?_
    refine r_s (fr' := (22, lv, [.int 1, .int (m.1 70 12), .ref 70])) (hp' := xW B m) (q := (.iconst 1, 1, 0, 0, .null)) rfl (fun _ => rfl) (Nat.le_refl _) ?_
    refine r_s (fr' := (23, lv, [.int ((m.1 70 12) + 1), .ref 70])) (hp' := xW B m) (q := (.iadd, 1, 0, 0, .null)) rfl (fun _ => rfl) (Nat.le_refl _) ?_
    refine r_pi (s2 := (xu m 70 12 ((m.1 70 12) + 1))) H (pc := 23) rfl (by decide) rfl rfl ?_
    refine r_s (fr' := (27, lv, [.int 1])) (hp' := xW B (xu m 70 12 ((m.1 70 12) + 1))) (q := (.iconst 1, 1, 0, 0, .null)) rfl (fun _ => rfl) (Nat.le_refl _) ?_
    obtain rfl := Option.some.inj h
    exact q_ri (q := (.ireturn, 1, 0, 0, .null)) rfl (fun _ => rfl) rfl rfl
  · rw [if_neg (by rw [c]; decide)] at h
    refine q_lr (k := 1) (i := 0) (q := (.aload_n 0, 1, 0, 0, .null)) rfl (fun _ => rfl) l0 ?_
    refine r_s (fr' := (11, lv, [.int 3, .ref 70])) (hp' := xW B m) (q := (.iconst 3, 1, 0, 0, .null)) rfl (fun _ => rfl) (Nat.le_refl _) ?_
    refine q_li (k := 1) (i := 1) (q := (.iload_n 1, 1, 0, 0, .null)) rfl (fun _ => rfl) l1 ?_
    obtain ⟨q12, h12, h⟩ := xbind h
    refine r_call (ix := 70) (as := [.int 3, .int v1]) (rest := []) (rv := some (.int q12.1)) (hp' := xW B q12.2) (pc := 12) rfl xr163 rfl rfl rfl (xkd H (by decide)) (Nat.le_of_ble_eq_true rfl) (Z163 H h12 (by omega)) (Nat.le_refl _) ?_
    obtain ⟨c1, h⟩ := xif h
    obtain rfl := Option.some.inj h
    exact q_ri (q := (.ireturn, 1, 0, 0, .null)) rfl (fun _ => rfl) rfl (xbo_ok c1)
set_option maxRecDepth 20000 in
theorem Z173 {B : zHp} (H : yH0 B) {F : Nat} {a1 : Int32} {m : xS} {x : Int32 × xS} (h : D173 F a1 m = some x) {d : Nat} (hd : 2 ≤ d) : zCan d 173 [.ref 70, .int a1] (xW B m) (some (.int x.1), xW B x.2) := by
  obtain ⟨e, rfl⟩ : ∃ e, d = e + 1 := ⟨d - 1, by omega⟩
  refine zCan_body (nL := 2) (rt := (some .boolean)) (cd := zc173) (xg173) ⟨Nat.le_of_ble_eq_true rfl, by decide⟩ (Nat.le_refl _) ?_
  exact T173 H hd F rfl rfl h
/-- LentToolsModel.puts -/
def D172 (F : Nat) (v1 : Int32) (v2 : Int32) (m : xS) : Option (Unit × xS) :=
  if xib (m.1 70 11) 7 = true then
    if xib ((400 * (m.1 70 11)) + (m.1 73 ((m.1 70 11) : Int32).toNatClampNeg)) 2400 = true then
      if xib (m.1 70 11) 7 = true then
        if xib (m.1 70 11) 7 = true then
          some ((), (xu (xu m 72 (((400 * (m.1 70 11)) + (m.1 73 ((m.1 70 11) : Int32).toNatClampNeg)) : Int32).toNatClampNeg (v1 + (16 * v2))) 73 ((m.1 70 11) : Int32).toNatClampNeg ((m.1 73 ((m.1 70 11) : Int32).toNatClampNeg) + 1)))
        else none
      else none
    else none
  else none
set_option maxRecDepth 20000 in
theorem T172 {B : zHp} (H : yH0 B) {e : Nat} (he : 1 ≤ e + 1) (F : Nat) {v1 : Int32} {v2 : Int32} {lv : List (Nat × Value)} {m : xS} {x : Unit × xS} (l0 : zld lv 0 = some (.ref 70)) (l1 : zld lv 1 = some (.int v1)) (l2 : zld lv 2 = some (.int v2)) (h : D172 F v1 v2 m = some x) : zR none e 3 none zc172 (0, lv, []) (xW B m) (none, xW B x.2) := by
  unfold D172 at h
  refine q_lr (k := 1) (i := 0) (q := (.aload_n 0, 1, 0, 0, .null)) rfl (fun _ => rfl) l0 ?_
  refine r_gr (c := 72) H (pc := 1) rfl (by decide) (by decide) ?_
  refine r_s (fr' := (7, lv, [.int 400, .ref 72])) (hp' := xW B m) (q := (.sipush 400, 3, 0, 0, .null)) rfl (fun _ => rfl) (Nat.le_refl _) ?_
  refine q_lr (k := 1) (i := 0) (q := (.aload_n 0, 1, 0, 0, .null)) rfl (fun _ => rfl) l0 ?_
  refine r_gi (v := (m.1 70 11)) H (pc := 8) (i := _) rfl (by decide) (by decide) rfl ?_
  refine r_s (fr' := (12, lv, [.int (400 * (m.1 70 11)), .ref 72])) (hp' := xW B m) (q := (.imul, 1, 0, 0, .null)) rfl (fun _ => rfl) (Nat.le_refl _) ?_
  refine q_lr (k := 1) (i := 0) (q := (.aload_n 0, 1, 0, 0, .null)) rfl (fun _ => rfl) l0 ?_
  refine r_gr (c := 73) H (pc := 13) rfl (by decide) (by decide) ?_
  refine q_lr (k := 1) (i := 0) (q := (.aload_n 0, 1, 0, 0, .null)) rfl (fun _ => rfl) l0 ?_
  refine r_gi (v := (m.1 70 11)) H (pc := 17) (i := _) rfl (by decide) (by decide) rfl ?_
  obtain ⟨c1, h⟩ := xif h
  refine q_al (n := 7) (v := (m.1 73 ((m.1 70 11) : Int32).toNatClampNeg)) H (pc := 20) rfl (by decide) c1 rfl ?_
  refine r_s (fr' := (22, lv, [.int ((400 * (m.1 70 11)) + (m.1 73 ((m.1 70 11) : Int32).toNatClampNeg)), .ref 72])) (hp' := xW B m) (q := (.iadd, 1, 0, 0, .null)) rfl (fun _ => rfl) (Nat.le_refl _) ?_
  refine q_li (k := 1) (i := 1) (q := (.iload_n 1, 1, 0, 0, .null)) rfl (fun _ => rfl) l1 ?_
  refine r_s (fr' := (25, lv, [.int 16, .int v1, .int ((400 * (m.1 70 11)) + (m.1 73 ((m.1 70 11) : Int32).toNatClampNeg)), .ref 72])) (hp' := xW B m) (q := (.bipush 16, 2, 0, 0, .null)) rfl (fun _ => rfl) (Nat.le_refl _) ?_
  refine q_li (k := 1) (i := 2) (q := (.iload_n 2, 1, 0, 0, .null)) rfl (fun _ => rfl) l2 ?_
  refine r_s (fr' := (27, lv, [.int (16 * v2), .int v1, .int ((400 * (m.1 70 11)) + (m.1 73 ((m.1 70 11) : Int32).toNatClampNeg)), .ref 72])) (hp' := xW B m) (q := (.imul, 1, 0, 0, .null)) rfl (fun _ => rfl) (Nat.le_refl _) ?_
  refine r_s (fr' := (28, lv, [.int (v1 + (16 * v2)), .int ((400 * (m.1 70 11)) + (m.1 73 ((m.1 70 11) : Int32).toNatClampNeg)), .ref 72])) (hp' := xW B m) (q := (.iadd, 1, 0, 0, .null)) rfl (fun _ => rfl) (Nat.le_refl _) ?_
  obtain ⟨c2, h⟩ := xif h
  refine q_as (n := 2400) (s2 := (xu m 72 (((400 * (m.1 70 11)) + (m.1 73 ((m.1 70 11) : Int32).toNatClampNeg)) : Int32).toNatClampNeg (v1 + (16 * v2)))) H (pc := 28) rfl (by decide) c2 rfl ?_
  refine q_lr (k := 1) (i := 0) (q := (.aload_n 0, 1, 0, 0, .null)) rfl (fun _ => rfl) l0 ?_
  refine r_gr (c := 73) H (pc := 30) rfl (by decide) (by decide) ?_
  refine q_lr (k := 1) (i := 0) (q := (.aload_n 0, 1, 0, 0, .null)) rfl (fun _ => rfl) l0 ?_
  refine r_gi (v := (m.1 70 11)) H (pc := 34) (i := _) rfl (by decide) (by decide) rfl ?_
  refine r_s (fr' := (38, lv, [.int (m.1 70 11), .ref 73, .int (m.1 70 11), .ref 73])) (hp' := xW B (xu m 72 (((400 * (m.1 70 11)) + (m.1 73 ((m.1 70 11) : Int32).toNatClampNeg)) : Int32).toNatClampNeg (v1 + (16 * v2)))) (q := (.dup2, 1, 0, 0, .null)) rfl (fun _ => rfl) (Nat.le_refl _) ?_
  obtain ⟨c3, h⟩ := xif h
  refine q_al (n := 7) (v := (m.1 73 ((m.1 70 11) : Int32).toNatClampNeg)) H (pc := 38) rfl (by decide) c3 rfl ?_
  refine r_s (fr' := (40, lv, [.int 1, .int (m.1 73 ((m.1 70 11) : Int32).toNatClampNeg), .int (m.1 70 11), .ref 73])) (hp' := xW B (xu m 72 (((400 * (m.1 70 11)) + (m.1 73 ((m.1 70 11) : Int32).toNatClampNeg)) : Int32).toNatClampNeg (v1 + (16 * v2)))) (q := (.iconst 1, 1, 0, 0, .null)) rfl (fun _ => rfl) (Nat.le_refl _) ?_
  refine r_s (fr' := (41, lv, [.int ((m.1 73 ((m.1 70 11) : Int32).toNatClampNeg) + 1), .int (m.1 70 11), .ref 73])) (hp' := xW B (xu m 72 (((400 * (m.1 70 11)) + (m.1 73 ((m.1 70 11) : Int32).toNatClampNeg)) : Int32).toNatClampNeg (v1 + (16 * v2)))) (q := (.iadd, 1, 0, 0, .null)) rfl (fun _ => rfl) (Nat.le_refl _) ?_
  obtain ⟨c4, h⟩ := xif h
  refine q_as (n := 7) (s2 := (xu (xu m 72 (((400 * (m.1 70 11)) + (m.1 73 ((m.1 70 11) : Int32).toNatClampNeg)) : Int32).toNatClampNeg (v1 + (16 * v2))) 73 ((m.1 70 11) : Int32).toNatClampNeg ((m.1 73 ((m.1 70 11) : Int32).toNatClampNeg) + 1))) H (pc := 41) rfl (by decide) c4 rfl ?_
  obtain rfl := Option.some.inj h
  exact r_ret (q := (.return_, 1, 0, 0, .null)) rfl rfl (fun _ => rfl)
set_option maxRecDepth 20000 in
theorem Z172 {B : zHp} (H : yH0 B) {F : Nat} {a1 : Int32} {a2 : Int32} {m : xS} {x : Unit × xS} (h : D172 F a1 a2 m = some x) {d : Nat} (hd : 1 ≤ d) : zCan d 172 [.ref 70, .int a1, .int a2] (xW B m) (none, xW B x.2) := by
  obtain ⟨e, rfl⟩ : ∃ e, d = e + 1 := ⟨d - 1, by omega⟩
  refine zCan_body (nL := 3) (rt := none) (cd := zc172) (xg172) ⟨Nat.le_of_ble_eq_true rfl, by decide⟩ (Nat.le_refl _) ?_
  exact T172 H hd F rfl rfl rfl h
/-- LentToolsModel.wordHere -/
def D171 (F : Nat) (m : xS) : Option (Int32 × xS) :=
  (D167 F 1953460076 m).bind fun q4 =>
    if zcmp .eq q4.1 0 = true then
      (D167 F 1802071652 q4.2).bind fun q16 =>
        if zcmp .eq q16.1 0 = true then
          (D167 F 478745093490 q16.2).bind fun q28 =>
            if zcmp .eq q28.1 0 = true then
              (D167 F 114827769177458 q28.2).bind fun q40 =>
                if zcmp .eq q40.1 0 = true then
                  (D167 F 29807 q40.2).bind fun q52 =>
                    if zcmp .eq q52.1 0 = true then
                      (D167 F 1818586740 q52.2).bind fun q64 =>
                        if zcmp .eq q64.1 0 = true then
                          (D167 F 495672455792 q64.2).bind fun q76 =>
                            if zcmp .eq q76.1 0 = true then
                              (D167 F 7304564 q76.2).bind fun q89 =>
                                if zcmp .eq q89.1 0 = true then
                                  (D167 F 6578553 q89.2).bind fun q102 =>
                                    if zcmp .eq q102.1 0 = true then
                                      (D167 F 1852138852 q102.2).bind fun q115 =>
                                        if zcmp .eq q115.1 0 = true then
                                          (D167 F 7364985 q115.2).bind fun q128 =>
                                            if zcmp .eq q128.1 0 = true then
                                              (D167 F 1870095731 q128.2).bind fun q141 =>
                                                if zcmp .eq q141.1 0 = true then
                                                  (D167 F 128034945594483 q141.2).bind fun q156 =>
                                                    if zcmp .eq q156.1 0 = true then
                                                      some ((-1), q156.2)
                                                    else
                                                      some (12, q156.2)
                                                else
                                                  some (11, q141.2)
                                            else
                                              some (10, q128.2)
                                        else
                                          some (9, q115.2)
                                    else
                                      some (8, q102.2)
                                else
                                  some (7, q89.2)
                            else
                              some (6, q76.2)
                        else
                          some (5, q64.2)
                    else
                      some (4, q52.2)
                else
                  some (3, q40.2)
            else
              some (2, q28.2)
        else
          some (1, q16.2)
    else
      some (0, q4.2)
set_option maxRecDepth 20000 in
theorem T171 {B : zHp} (H : yH0 B) {e : Nat} (he : 3 ≤ e + 1) (F : Nat) {lv : List (Nat × Value)} {m : xS} {x : Int32 × xS} (l0 : zld lv 0 = some (.ref 70)) (h : D171 F m = some x) : zR none e 1 (some .int) zc171 (0, lv, []) (xW B m) (some (.int x.1), xW B x.2) := by
  unfold D171 at h
  refine q_lr (k := 1) (i := 0) (q := (.aload_n 0, 1, 0, 0, .null)) rfl (fun _ => rfl) l0 ?_
  refine r_s (fr' := (4, lv, [.long 1953460076, .ref 70])) (hp' := xW B m) (q := (.ldc2_w 107, 3, 0, 0, .long 1953460076)) rfl (fun _ => rfl) (Nat.le_refl _) ?_
  obtain ⟨q4, h4, h⟩ := xbind h
  refine r_call (ix := 70) (as := [.long 1953460076]) (rest := []) (rv := some (.int q4.1)) (hp' := xW B q4.2) (pc := 4) rfl xr167 rfl rfl rfl (xkd H (by decide)) (Nat.le_of_ble_eq_true rfl) (Z167 H h4 (by omega)) (Nat.le_refl _) ?_
  refine r_if (len := 3) (a := 12) (b := 0) (v0 := .null) (cn := .eq) (off := 5) rfl (fun c => ?_) (fun c => ?_)
  · rw [if_pos c] at h
    refine q_lr (k := 1) (i := 0) (q := (.aload_n 0, 1, 0, 0, .null)) rfl (fun _ => rfl) l0 ?_
    refine r_s (fr' := (16, lv, [.long 1802071652, .ref 70])) (hp' := xW B q4.2) (q := (.ldc2_w 109, 3, 0, 0, .long 1802071652)) rfl (fun _ => rfl) (Nat.le_refl _) ?_
    obtain ⟨q16, h16, h⟩ := xbind h
    refine r_call (ix := 70) (as := [.long 1802071652]) (rest := []) (rv := some (.int q16.1)) (hp' := xW B q16.2) (pc := 16) rfl xr167 rfl rfl rfl (xkd H (by decide)) (Nat.le_of_ble_eq_true rfl) (Z167 H h16 (by omega)) (Nat.le_refl _) ?_
    refine r_if (len := 3) (a := 24) (b := 0) (v0 := .null) (cn := .eq) (off := 5) rfl (fun c => ?_) (fun c => ?_)
    · rw [if_pos c] at h
      refine q_lr (k := 1) (i := 0) (q := (.aload_n 0, 1, 0, 0, .null)) rfl (fun _ => rfl) l0 ?_
      refine r_s (fr' := (28, lv, [.long 478745093490, .ref 70])) (hp' := xW B q16.2) (q := (.ldc2_w 111, 3, 0, 0, .long 478745093490)) rfl (fun _ => rfl) (Nat.le_refl _) ?_
      obtain ⟨q28, h28, h⟩ := xbind h
      refine r_call (ix := 70) (as := [.long 478745093490]) (rest := []) (rv := some (.int q28.1)) (hp' := xW B q28.2) (pc := 28) rfl xr167 rfl rfl rfl (xkd H (by decide)) (Nat.le_of_ble_eq_true rfl) (Z167 H h28 (by omega)) (Nat.le_refl _) ?_
      refine r_if (len := 3) (a := 36) (b := 0) (v0 := .null) (cn := .eq) (off := 5) rfl (fun c => ?_) (fun c => ?_)
      · rw [if_pos c] at h
        refine q_lr (k := 1) (i := 0) (q := (.aload_n 0, 1, 0, 0, .null)) rfl (fun _ => rfl) l0 ?_
        refine r_s (fr' := (40, lv, [.long 114827769177458, .ref 70])) (hp' := xW B q28.2) (q := (.ldc2_w 113, 3, 0, 0, .long 114827769177458)) rfl (fun _ => rfl) (Nat.le_refl _) ?_
        obtain ⟨q40, h40, h⟩ := xbind h
        refine r_call (ix := 70) (as := [.long 114827769177458]) (rest := []) (rv := some (.int q40.1)) (hp' := xW B q40.2) (pc := 40) rfl xr167 rfl rfl rfl (xkd H (by decide)) (Nat.le_of_ble_eq_true rfl) (Z167 H h40 (by omega)) (Nat.le_refl _) ?_
        refine r_if (len := 3) (a := 48) (b := 0) (v0 := .null) (cn := .eq) (off := 5) rfl (fun c => ?_) (fun c => ?_)
        · rw [if_pos c] at h
          refine q_lr (k := 1) (i := 0) (q := (.aload_n 0, 1, 0, 0, .null)) rfl (fun _ => rfl) l0 ?_
          refine r_s (fr' := (52, lv, [.long 29807, .ref 70])) (hp' := xW B q40.2) (q := (.ldc2_w 115, 3, 0, 0, .long 29807)) rfl (fun _ => rfl) (Nat.le_refl _) ?_
          obtain ⟨q52, h52, h⟩ := xbind h
          refine r_call (ix := 70) (as := [.long 29807]) (rest := []) (rv := some (.int q52.1)) (hp' := xW B q52.2) (pc := 52) rfl xr167 rfl rfl rfl (xkd H (by decide)) (Nat.le_of_ble_eq_true rfl) (Z167 H h52 (by omega)) (Nat.le_refl _) ?_
          refine r_if (len := 3) (a := 60) (b := 0) (v0 := .null) (cn := .eq) (off := 5) rfl (fun c => ?_) (fun c => ?_)
          · rw [if_pos c] at h
            refine q_lr (k := 1) (i := 0) (q := (.aload_n 0, 1, 0, 0, .null)) rfl (fun _ => rfl) l0 ?_
            refine r_s (fr' := (64, lv, [.long 1818586740, .ref 70])) (hp' := xW B q52.2) (q := (.ldc2_w 117, 3, 0, 0, .long 1818586740)) rfl (fun _ => rfl) (Nat.le_refl _) ?_
            obtain ⟨q64, h64, h⟩ := xbind h
            refine r_call (ix := 70) (as := [.long 1818586740]) (rest := []) (rv := some (.int q64.1)) (hp' := xW B q64.2) (pc := 64) rfl xr167 rfl rfl rfl (xkd H (by decide)) (Nat.le_of_ble_eq_true rfl) (Z167 H h64 (by omega)) (Nat.le_refl _) ?_
            refine r_if (len := 3) (a := 72) (b := 0) (v0 := .null) (cn := .eq) (off := 5) rfl (fun c => ?_) (fun c => ?_)
            · rw [if_pos c] at h
              refine q_lr (k := 1) (i := 0) (q := (.aload_n 0, 1, 0, 0, .null)) rfl (fun _ => rfl) l0 ?_
              refine r_s (fr' := (76, lv, [.long 495672455792, .ref 70])) (hp' := xW B q64.2) (q := (.ldc2_w 119, 3, 0, 0, .long 495672455792)) rfl (fun _ => rfl) (Nat.le_refl _) ?_
              obtain ⟨q76, h76, h⟩ := xbind h
              refine r_call (ix := 70) (as := [.long 495672455792]) (rest := []) (rv := some (.int q76.1)) (hp' := xW B q76.2) (pc := 76) rfl xr167 rfl rfl rfl (xkd H (by decide)) (Nat.le_of_ble_eq_true rfl) (Z167 H h76 (by omega)) (Nat.le_refl _) ?_
              refine r_if (len := 3) (a := 85) (b := 0) (v0 := .null) (cn := .eq) (off := 6) rfl (fun c => ?_) (fun c => ?_)
              · rw [if_pos c] at h
                refine q_lr (k := 1) (i := 0) (q := (.aload_n 0, 1, 0, 0, .null)) rfl (fun _ => rfl) l0 ?_
                refine r_s (fr' := (89, lv, [.long 7304564, .ref 70])) (hp' := xW B q76.2) (q := (.ldc2_w 121, 3, 0, 0, .long 7304564)) rfl (fun _ => rfl) (Nat.le_refl _) ?_
                obtain ⟨q89, h89, h⟩ := xbind h
                refine r_call (ix := 70) (as := [.long 7304564]) (rest := []) (rv := some (.int q89.1)) (hp' := xW B q89.2) (pc := 89) rfl xr167 rfl rfl rfl (xkd H (by decide)) (Nat.le_of_ble_eq_true rfl) (Z167 H h89 (by omega)) (Nat.le_refl _) ?_
                refine r_if (len := 3) (a := 98) (b := 0) (v0 := .null) (cn := .eq) (off := 6) rfl (fun c => ?_) (fun c => ?_)
                · rw [if_pos c] at h
                  refine q_lr (k := 1) (i := 0) (q := (.aload_n 0, 1, 0, 0, .null)) rfl (fun _ => rfl) l0 ?_
                  refine r_s (fr' := (102, lv, [.long 6578553, .ref 70])) (hp' := xW B q89.2) (q := (.ldc2_w 123, 3, 0, 0, .long 6578553)) rfl (fun _ => rfl) (Nat.le_refl _) ?_
                  obtain ⟨q102, h102, h⟩ := xbind h
                  refine r_call (ix := 70) (as := [.long 6578553]) (rest := []) (rv := some (.int q102.1)) (hp' := xW B q102.2) (pc := 102) rfl xr167 rfl rfl rfl (xkd H (by decide)) (Nat.le_of_ble_eq_true rfl) (Z167 H h102 (by omega)) (Nat.le_refl _) ?_
                  refine r_if (len := 3) (a := 111) (b := 0) (v0 := .null) (cn := .eq) (off := 6) rfl (fun c => ?_) (fun c => ?_)
                  · rw [if_pos c] at h
                    refine q_lr (k := 1) (i := 0) (q := (.aload_n 0, 1, 0, 0, .null)) rfl (fun _ => rfl) l0 ?_
                    refine r_s (fr' := (115, lv, [.long 1852138852, .ref 70])) (hp' := xW B q102.2) (q := (.ldc2_w 125, 3, 0, 0, .long 1852138852)) rfl (fun _ => rfl) (Nat.le_refl _) ?_
                    obtain ⟨q115, h115, h⟩ := xbind h
                    refine r_call (ix := 70) (as := [.long 1852138852]) (rest := []) (rv := some (.int q115.1)) (hp' := xW B q115.2) (pc := 115) rfl xr167 rfl rfl rfl (xkd H (by decide)) (Nat.le_of_ble_eq_true rfl) (Z167 H h115 (by omega)) (Nat.le_refl _) ?_
                    refine r_if (len := 3) (a := 124) (b := 0) (v0 := .null) (cn := .eq) (off := 6) rfl (fun c => ?_) (fun c => ?_)
                    · rw [if_pos c] at h
                      refine q_lr (k := 1) (i := 0) (q := (.aload_n 0, 1, 0, 0, .null)) rfl (fun _ => rfl) l0 ?_
                      refine r_s (fr' := (128, lv, [.long 7364985, .ref 70])) (hp' := xW B q115.2) (q := (.ldc2_w 127, 3, 0, 0, .long 7364985)) rfl (fun _ => rfl) (Nat.le_refl _) ?_
                      obtain ⟨q128, h128, h⟩ := xbind h
                      refine r_call (ix := 70) (as := [.long 7364985]) (rest := []) (rv := some (.int q128.1)) (hp' := xW B q128.2) (pc := 128) rfl xr167 rfl rfl rfl (xkd H (by decide)) (Nat.le_of_ble_eq_true rfl) (Z167 H h128 (by omega)) (Nat.le_refl _) ?_
                      refine r_if (len := 3) (a := 137) (b := 0) (v0 := .null) (cn := .eq) (off := 6) rfl (fun c => ?_) (fun c => ?_)
                      · rw [if_pos c] at h
                        refine q_lr (k := 1) (i := 0) (q := (.aload_n 0, 1, 0, 0, .null)) rfl (fun _ => rfl) l0 ?_
                        refine r_s (fr' := (141, lv, [.long 1870095731, .ref 70])) (hp' := xW B q128.2) (q := (.ldc2_w 129, 3, 0, 0, .long 1870095731)) rfl (fun _ => rfl) (Nat.le_refl _) ?_
                        obtain ⟨q141, h141, h⟩ := xbind h
                        refine r_call (ix := 70) (as := [.long 1870095731]) (rest := []) (rv := some (.int q141.1)) (hp' := xW B q141.2) (pc := 141) rfl xr167 rfl rfl rfl (xkd H (by decide)) (Nat.le_of_ble_eq_true rfl) (Z167 H h141 (by omega)) (Nat.le_refl _) ?_
                        refine r_if (len := 3) (a := 152) (b := 0) (v0 := .null) (cn := .eq) (off := 8) rfl (fun c => ?_) (fun c => ?_)
                        · rw [if_pos c] at h
                          refine q_lr (k := 1) (i := 0) (q := (.aload_n 0, 1, 0, 0, .null)) rfl (fun _ => rfl) l0 ?_
                          refine r_s (fr' := (156, lv, [.long 128034945594483, .ref 70])) (hp' := xW B q141.2) (q := (.ldc2_w 131, 3, 0, 0, .long 128034945594483)) rfl (fun _ => rfl) (Nat.le_refl _) ?_
                          obtain ⟨q156, h156, h⟩ := xbind h
                          refine r_call (ix := 70) (as := [.long 128034945594483]) (rest := []) (rv := some (.int q156.1)) (hp' := xW B q156.2) (pc := 156) rfl xr167 rfl rfl rfl (xkd H (by decide)) (Nat.le_of_ble_eq_true rfl) (Z167 H h156 (by omega)) (Nat.le_refl _) ?_
                          refine r_if (len := 3) (a := 167) (b := 0) (v0 := .null) (cn := .eq) (off := 8) rfl (fun c => ?_) (fun c => ?_)
                          · rw [if_pos c] at h
                            refine r_s (fr' := (168, lv, [.int (-1)])) (hp' := xW B q156.2) (q := (.iconst (-1), 1, 0, 0, .null)) rfl (fun _ => rfl) (Nat.le_refl _) ?_
                            obtain rfl := Option.some.inj h
                            exact q_ri (q := (.ireturn, 1, 0, 0, .null)) rfl (fun _ => rfl) rfl rfl
                          · rw [if_neg (by rw [c]; decide)] at h
                            refine r_s (fr' := (164, lv, [.int 12])) (hp' := xW B q156.2) (q := (.bipush 12, 2, 0, 0, .null)) rfl (fun _ => rfl) (Nat.le_refl _) ?_
                            refine r_s (fr' := (168, lv, [.int 12])) (hp' := xW B q156.2) (q := (.goto 4, 3, 168, 0, .null)) rfl (fun _ => rfl) (Nat.le_refl _) ?_
                            obtain rfl := Option.some.inj h
                            exact q_ri (q := (.ireturn, 1, 0, 0, .null)) rfl (fun _ => rfl) rfl rfl
                        · rw [if_neg (by rw [c]; decide)] at h
                          refine r_s (fr' := (149, lv, [.int 11])) (hp' := xW B q141.2) (q := (.bipush 11, 2, 0, 0, .null)) rfl (fun _ => rfl) (Nat.le_refl _) ?_
                          refine r_s (fr' := (168, lv, [.int 11])) (hp' := xW B q141.2) (q := (.goto 19, 3, 168, 0, .null)) rfl (fun _ => rfl) (Nat.le_refl _) ?_
                          obtain rfl := Option.some.inj h
                          exact q_ri (q := (.ireturn, 1, 0, 0, .null)) rfl (fun _ => rfl) rfl rfl
                      · rw [if_neg (by rw [c]; decide)] at h
                        refine r_s (fr' := (136, lv, [.int 10])) (hp' := xW B q128.2) (q := (.bipush 10, 2, 0, 0, .null)) rfl (fun _ => rfl) (Nat.le_refl _) ?_
                        obtain rfl := Option.some.inj h
                        exact q_ri (q := (.ireturn, 1, 0, 0, .null)) rfl (fun _ => rfl) rfl rfl
                    · rw [if_neg (by rw [c]; decide)] at h
                      refine r_s (fr' := (123, lv, [.int 9])) (hp' := xW B q115.2) (q := (.bipush 9, 2, 0, 0, .null)) rfl (fun _ => rfl) (Nat.le_refl _) ?_
                      obtain rfl := Option.some.inj h
                      exact q_ri (q := (.ireturn, 1, 0, 0, .null)) rfl (fun _ => rfl) rfl rfl
                  · rw [if_neg (by rw [c]; decide)] at h
                    refine r_s (fr' := (110, lv, [.int 8])) (hp' := xW B q102.2) (q := (.bipush 8, 2, 0, 0, .null)) rfl (fun _ => rfl) (Nat.le_refl _) ?_
                    obtain rfl := Option.some.inj h
                    exact q_ri (q := (.ireturn, 1, 0, 0, .null)) rfl (fun _ => rfl) rfl rfl
                · rw [if_neg (by rw [c]; decide)] at h
                  refine r_s (fr' := (97, lv, [.int 7])) (hp' := xW B q89.2) (q := (.bipush 7, 2, 0, 0, .null)) rfl (fun _ => rfl) (Nat.le_refl _) ?_
                  obtain rfl := Option.some.inj h
                  exact q_ri (q := (.ireturn, 1, 0, 0, .null)) rfl (fun _ => rfl) rfl rfl
              · rw [if_neg (by rw [c]; decide)] at h
                refine r_s (fr' := (84, lv, [.int 6])) (hp' := xW B q76.2) (q := (.bipush 6, 2, 0, 0, .null)) rfl (fun _ => rfl) (Nat.le_refl _) ?_
                obtain rfl := Option.some.inj h
                exact q_ri (q := (.ireturn, 1, 0, 0, .null)) rfl (fun _ => rfl) rfl rfl
            · rw [if_neg (by rw [c]; decide)] at h
              refine r_s (fr' := (71, lv, [.int 5])) (hp' := xW B q64.2) (q := (.iconst 5, 1, 0, 0, .null)) rfl (fun _ => rfl) (Nat.le_refl _) ?_
              obtain rfl := Option.some.inj h
              exact q_ri (q := (.ireturn, 1, 0, 0, .null)) rfl (fun _ => rfl) rfl rfl
          · rw [if_neg (by rw [c]; decide)] at h
            refine r_s (fr' := (59, lv, [.int 4])) (hp' := xW B q52.2) (q := (.iconst 4, 1, 0, 0, .null)) rfl (fun _ => rfl) (Nat.le_refl _) ?_
            obtain rfl := Option.some.inj h
            exact q_ri (q := (.ireturn, 1, 0, 0, .null)) rfl (fun _ => rfl) rfl rfl
        · rw [if_neg (by rw [c]; decide)] at h
          refine r_s (fr' := (47, lv, [.int 3])) (hp' := xW B q40.2) (q := (.iconst 3, 1, 0, 0, .null)) rfl (fun _ => rfl) (Nat.le_refl _) ?_
          obtain rfl := Option.some.inj h
          exact q_ri (q := (.ireturn, 1, 0, 0, .null)) rfl (fun _ => rfl) rfl rfl
      · rw [if_neg (by rw [c]; decide)] at h
        refine r_s (fr' := (35, lv, [.int 2])) (hp' := xW B q28.2) (q := (.iconst 2, 1, 0, 0, .null)) rfl (fun _ => rfl) (Nat.le_refl _) ?_
        obtain rfl := Option.some.inj h
        exact q_ri (q := (.ireturn, 1, 0, 0, .null)) rfl (fun _ => rfl) rfl rfl
    · rw [if_neg (by rw [c]; decide)] at h
      refine r_s (fr' := (23, lv, [.int 1])) (hp' := xW B q16.2) (q := (.iconst 1, 1, 0, 0, .null)) rfl (fun _ => rfl) (Nat.le_refl _) ?_
      obtain rfl := Option.some.inj h
      exact q_ri (q := (.ireturn, 1, 0, 0, .null)) rfl (fun _ => rfl) rfl rfl
  · rw [if_neg (by rw [c]; decide)] at h
    refine r_s (fr' := (11, lv, [.int 0])) (hp' := xW B q4.2) (q := (.iconst 0, 1, 0, 0, .null)) rfl (fun _ => rfl) (Nat.le_refl _) ?_
    obtain rfl := Option.some.inj h
    exact q_ri (q := (.ireturn, 1, 0, 0, .null)) rfl (fun _ => rfl) rfl rfl
set_option maxRecDepth 20000 in
theorem Z171 {B : zHp} (H : yH0 B) {F : Nat} {m : xS} {x : Int32 × xS} (h : D171 F m = some x) {d : Nat} (hd : 3 ≤ d) : zCan d 171 [.ref 70] (xW B m) (some (.int x.1), xW B x.2) := by
  obtain ⟨e, rfl⟩ : ∃ e, d = e + 1 := ⟨d - 1, by omega⟩
  refine zCan_body (nL := 1) (rt := (some .int)) (cd := zc171) (xg171) ⟨Nat.le_of_ble_eq_true rfl, by decide⟩ (Nat.le_refl _) ?_
  exact T171 H hd F rfl h
/-- LentToolsModel.value -/
def D177_39 (F : Nat) (v1 : Int32) (m : xS) : Option (Int32 × xS) :=
  some (0, m)
set_option maxRecDepth 20000 in
theorem T177_39 {B : zHp} (H : yH0 B) {e : Nat} (he : 4 ≤ e + 1) (F : Nat) {v1 : Int32} {lv : List (Nat × Value)} {m : xS} {x : Int32 × xS} (l0 : zld lv 0 = some (.ref 70)) (l1 : zld lv 1 = some (.int v1)) (h : D177_39 F v1 m = some x) : zR none e 3 (some .boolean) zc177 (39, lv, []) (xW B m) (some (.int x.1), xW B x.2) := by
  unfold D177_39 at h
  refine r_s (fr' := (40, lv, [.int 0])) (hp' := xW B m) (q := (.iconst 0, 1, 0, 0, .null)) rfl (fun _ => rfl) (Nat.le_refl _) ?_
  obtain rfl := Option.some.inj h
  exact q_ri (q := (.ireturn, 1, 0, 0, .null)) rfl (fun _ => rfl) rfl rfl
def D177 (F : Nat) (m : xS) : Option (Int32 × xS) :=
  (D164 F m).bind fun q1 =>
    (D165 F (q1.2.1 70 8) q1.2).bind fun q15 =>
      if zcmp .eq q15.1 0 = true then
        (D171 F q15.2).bind fun q53 =>
          if zcmp .ge q53.1 0 = true then
            (D173 F (q1.2.1 70 8) q53.2).bind fun q70 =>
              if zcmp .ne q70.1 0 = true then
                (D168 F q70.2).bind fun q79 =>
                  (D172 F 1 q53.1 q79.2).bind fun q85 =>
                    some (1, q85.2)
              else
                some (0, q70.2)
          else
            (D163 F 0 (q1.2.1 70 8) q53.2).bind fun q64 =>
              if xbo q64.1 = true then
                some (q64.1, q64.2)
              else none
      else
        (D170 F 0 99999 q15.2).bind fun q25 =>
          if zcmp .eq q25.1 0 = true then
            D177_39 F (q1.2.1 70 8) q25.2
          else
            (D173 F (q1.2.1 70 8) q25.2).bind fun q33 =>
              if zcmp .ne q33.1 0 = true then
                (D172 F 0 (q33.2.1 70 10) q33.2).bind fun q47 =>
                  some (1, q47.2)
              else
                D177_39 F (q1.2.1 70 8) q33.2
set_option maxRecDepth 20000 in
theorem T177 {B : zHp} (H : yH0 B) {e : Nat} (he : 4 ≤ e + 1) (F : Nat) {lv : List (Nat × Value)} {m : xS} {x : Int32 × xS} (l0 : zld lv 0 = some (.ref 70)) (h : D177 F m = some x) : zR none e 3 (some .boolean) zc177 (0, lv, []) (xW B m) (some (.int x.1), xW B x.2) := by
  unfold D177 at h
  refine q_lr (k := 1) (i := 0) (q := (.aload_n 0, 1, 0, 0, .null)) rfl (fun _ => rfl) l0 ?_
  obtain ⟨q1, h1, h⟩ := xbind h
  refine r_call (ix := 70) (as := []) (rest := []) (rv := some (.int q1.1)) (hp' := xW B q1.2) (pc := 1) rfl xr164 rfl rfl rfl (xkd H (by decide)) (Nat.le_of_ble_eq_true rfl) (Z164 H h1 (by omega)) (Nat.le_refl _) ?_
  refine r_s (fr' := (5, lv, [])) (hp' := xW B q1.2) (q := (.pop, 1, 0, 0, .null)) rfl (fun _ => rfl) (Nat.le_refl _) ?_
  refine q_lr (k := 1) (i := 0) (q := (.aload_n 0, 1, 0, 0, .null)) rfl (fun _ => rfl) l0 ?_
  refine r_gi (v := (q1.2.1 70 8)) H (pc := 6) (i := _) rfl (by decide) (by decide) rfl ?_
  refine q_si (k := 1) (i := 1) (q := (.istore_n 1, 1, 0, 0, .null)) rfl (fun _ => rfl) (by decide) ?_
  have l0_1 : zld (zs1 lv 1 (.int (q1.2.1 70 8))) 0 = some (.ref 70) := x_o1 l0 rfl rfl
  have l1_1 : zld (zs1 lv 1 (.int (q1.2.1 70 8))) 1 = some (.int (q1.2.1 70 8)) := zs1_ld _ _ _
  generalize (zs1 lv 1 (.int (q1.2.1 70 8))) = lv1 at *
  refine q_lr (k := 1) (i := 0) (q := (.aload_n 0, 1, 0, 0, .null)) rfl (fun _ => rfl) l0_1 ?_
  refine q_lr (k := 1) (i := 0) (q := (.aload_n 0, 1, 0, 0, .null)) rfl (fun _ => rfl) l0_1 ?_
  refine r_gi (v := (q1.2.1 70 8)) H (pc := 12) (i := _) rfl (by decide) (by decide) rfl ?_
  obtain ⟨q15, h15, h⟩ := xbind h
  refine r_call (ix := 70) (as := [.int (q1.2.1 70 8)]) (rest := []) (rv := some (.int q15.1)) (hp' := xW B q15.2) (pc := 15) rfl xr165 rfl rfl rfl (xkd H (by decide)) (Nat.le_of_ble_eq_true rfl) (Z165 H h15 (by omega)) (Nat.le_refl _) ?_
  refine r_if (len := 3) (a := 52) (b := 0) (v0 := .null) (cn := .eq) (off := 34) rfl (fun c => ?_) (fun c => ?_)
  · rw [if_pos c] at h
    refine q_lr (k := 1) (i := 0) (q := (.aload_n 0, 1, 0, 0, .null)) rfl (fun _ => rfl) l0_1 ?_
    obtain ⟨q53, h53, h⟩ := xbind h
    refine r_call (ix := 70) (as := []) (rest := []) (rv := some (.int q53.1)) (hp' := xW B q53.2) (pc := 53) rfl xr171 rfl rfl rfl (xkd H (by decide)) (Nat.le_of_ble_eq_true rfl) (Z171 H h53 (by omega)) (Nat.le_refl _) ?_
    refine q_si (k := 1) (i := 2) (q := (.istore_n 2, 1, 0, 0, .null)) rfl (fun _ => rfl) (by decide) ?_
    have l0_2 : zld (zs1 lv1 2 (.int q53.1)) 0 = some (.ref 70) := x_o1 l0_1 rfl rfl
    have l1_2 : zld (zs1 lv1 2 (.int q53.1)) 1 = some (.int (q1.2.1 70 8)) := x_o1 l1_1 rfl rfl
    have l2_2 : zld (zs1 lv1 2 (.int q53.1)) 2 = some (.int q53.1) := zs1_ld _ _ _
    generalize (zs1 lv1 2 (.int q53.1)) = lv2 at *
    refine q_li (k := 1) (i := 2) (q := (.iload_n 2, 1, 0, 0, .null)) rfl (fun _ => rfl) l2_2 ?_
    refine r_if (len := 3) (a := 68) (b := 0) (v0 := .null) (cn := .ge) (off := 10) rfl (fun c => ?_) (fun c => ?_)
    · rw [if_pos c] at h
      refine q_lr (k := 1) (i := 0) (q := (.aload_n 0, 1, 0, 0, .null)) rfl (fun _ => rfl) l0_2 ?_
      refine q_li (k := 1) (i := 1) (q := (.iload_n 1, 1, 0, 0, .null)) rfl (fun _ => rfl) l1_2 ?_
      obtain ⟨q70, h70, h⟩ := xbind h
      refine r_call (ix := 70) (as := [.int (q1.2.1 70 8)]) (rest := []) (rv := some (.int q70.1)) (hp' := xW B q70.2) (pc := 70) rfl xr173 rfl rfl rfl (xkd H (by decide)) (Nat.le_of_ble_eq_true rfl) (Z173 H h70 (by omega)) (Nat.le_refl _) ?_
      refine r_if (len := 3) (a := 78) (b := 0) (v0 := .null) (cn := .ne) (off := 5) rfl (fun c => ?_) (fun c => ?_)
      · rw [if_pos c] at h
        refine q_lr (k := 1) (i := 0) (q := (.aload_n 0, 1, 0, 0, .null)) rfl (fun _ => rfl) l0_2 ?_
        obtain ⟨q79, h79, h⟩ := xbind h
        refine r_call (ix := 70) (as := []) (rest := []) (rv := none) (hp' := xW B q79.2) (pc := 79) rfl xr168 rfl rfl rfl (xkd H (by decide)) (Nat.le_of_ble_eq_true rfl) (Z168 H h79 (by omega)) (Nat.le_refl _) ?_
        refine q_lr (k := 1) (i := 0) (q := (.aload_n 0, 1, 0, 0, .null)) rfl (fun _ => rfl) l0_2 ?_
        refine r_s (fr' := (84, lv2, [.int 1, .ref 70])) (hp' := xW B q79.2) (q := (.iconst 1, 1, 0, 0, .null)) rfl (fun _ => rfl) (Nat.le_refl _) ?_
        refine q_li (k := 1) (i := 2) (q := (.iload_n 2, 1, 0, 0, .null)) rfl (fun _ => rfl) l2_2 ?_
        obtain ⟨q85, h85, h⟩ := xbind h
        refine r_call (ix := 70) (as := [.int 1, .int q53.1]) (rest := []) (rv := none) (hp' := xW B q85.2) (pc := 85) rfl xr172 rfl rfl rfl (xkd H (by decide)) (Nat.le_of_ble_eq_true rfl) (Z172 H h85 (by omega)) (Nat.le_refl _) ?_
        refine r_s (fr' := (89, lv2, [.int 1])) (hp' := xW B q85.2) (q := (.iconst 1, 1, 0, 0, .null)) rfl (fun _ => rfl) (Nat.le_refl _) ?_
        obtain rfl := Option.some.inj h
        exact q_ri (q := (.ireturn, 1, 0, 0, .null)) rfl (fun _ => rfl) rfl rfl
      · rw [if_neg (by rw [c]; decide)] at h
        refine r_s (fr' := (77, lv2, [.int 0])) (hp' := xW B q70.2) (q := (.iconst 0, 1, 0, 0, .null)) rfl (fun _ => rfl) (Nat.le_refl _) ?_
        obtain rfl := Option.some.inj h
        exact q_ri (q := (.ireturn, 1, 0, 0, .null)) rfl (fun _ => rfl) rfl rfl
    · rw [if_neg (by rw [c]; decide)] at h
      refine q_lr (k := 1) (i := 0) (q := (.aload_n 0, 1, 0, 0, .null)) rfl (fun _ => rfl) l0_2 ?_
      refine r_s (fr' := (63, lv2, [.int 0, .ref 70])) (hp' := xW B q53.2) (q := (.iconst 0, 1, 0, 0, .null)) rfl (fun _ => rfl) (Nat.le_refl _) ?_
      refine q_li (k := 1) (i := 1) (q := (.iload_n 1, 1, 0, 0, .null)) rfl (fun _ => rfl) l1_2 ?_
      obtain ⟨q64, h64, h⟩ := xbind h
      refine r_call (ix := 70) (as := [.int 0, .int (q1.2.1 70 8)]) (rest := []) (rv := some (.int q64.1)) (hp' := xW B q64.2) (pc := 64) rfl xr163 rfl rfl rfl (xkd H (by decide)) (Nat.le_of_ble_eq_true rfl) (Z163 H h64 (by omega)) (Nat.le_refl _) ?_
      obtain ⟨c3, h⟩ := xif h
      obtain rfl := Option.some.inj h
      exact q_ri (q := (.ireturn, 1, 0, 0, .null)) rfl (fun _ => rfl) rfl (xbo_ok c3)
  · rw [if_neg (by rw [c]; decide)] at h
    refine q_lr (k := 1) (i := 0) (q := (.aload_n 0, 1, 0, 0, .null)) rfl (fun _ => rfl) l0_1 ?_
    refine r_s (fr' := (23, lv1, [.int 0, .ref 70])) (hp' := xW B q15.2) (q := (.iconst 0, 1, 0, 0, .null)) rfl (fun _ => rfl) (Nat.le_refl _) ?_
    refine r_s (fr' := (25, lv1, [.int 99999, .int 0, .ref 70])) (hp' := xW B q15.2) (q := (.ldc 153, 2, 0, 0, .int 99999)) rfl (fun _ => rfl) (Nat.le_refl _) ?_
    obtain ⟨q25, h25, h⟩ := xbind h
    refine r_call (ix := 70) (as := [.int 0, .int 99999]) (rest := []) (rv := some (.int q25.1)) (hp' := xW B q25.2) (pc := 25) rfl xr170 rfl rfl rfl (xkd H (by decide)) (Nat.le_of_ble_eq_true rfl) (Z170 H h25 (by omega)) (Nat.le_refl _) ?_
    refine r_if (len := 3) (a := 39) (b := 0) (v0 := .null) (cn := .eq) (off := 11) rfl (fun c => ?_) (fun c => ?_)
    · rw [if_pos c] at h
      exact T177_39 H he F l0_1 l1_1 h
    · rw [if_neg (by rw [c]; decide)] at h
      refine q_lr (k := 1) (i := 0) (q := (.aload_n 0, 1, 0, 0, .null)) rfl (fun _ => rfl) l0_1 ?_
      refine q_li (k := 1) (i := 1) (q := (.iload_n 1, 1, 0, 0, .null)) rfl (fun _ => rfl) l1_1 ?_
      obtain ⟨q33, h33, h⟩ := xbind h
      refine r_call (ix := 70) (as := [.int (q1.2.1 70 8)]) (rest := []) (rv := some (.int q33.1)) (hp' := xW B q33.2) (pc := 33) rfl xr173 rfl rfl rfl (xkd H (by decide)) (Nat.le_of_ble_eq_true rfl) (Z173 H h33 (by omega)) (Nat.le_refl _) ?_
      refine r_if (len := 3) (a := 41) (b := 0) (v0 := .null) (cn := .ne) (off := 5) rfl (fun c => ?_) (fun c => ?_)
      · rw [if_pos c] at h
        refine q_lr (k := 1) (i := 0) (q := (.aload_n 0, 1, 0, 0, .null)) rfl (fun _ => rfl) l0_1 ?_
        refine r_s (fr' := (43, lv1, [.int 0, .ref 70])) (hp' := xW B q33.2) (q := (.iconst 0, 1, 0, 0, .null)) rfl (fun _ => rfl) (Nat.le_refl _) ?_
        refine q_lr (k := 1) (i := 0) (q := (.aload_n 0, 1, 0, 0, .null)) rfl (fun _ => rfl) l0_1 ?_
        refine r_gi (v := (q33.2.1 70 10)) H (pc := 44) (i := _) rfl (by decide) (by decide) rfl ?_
        obtain ⟨q47, h47, h⟩ := xbind h
        refine r_call (ix := 70) (as := [.int 0, .int (q33.2.1 70 10)]) (rest := []) (rv := none) (hp' := xW B q47.2) (pc := 47) rfl xr172 rfl rfl rfl (xkd H (by decide)) (Nat.le_of_ble_eq_true rfl) (Z172 H h47 (by omega)) (Nat.le_refl _) ?_
        refine r_s (fr' := (51, lv1, [.int 1])) (hp' := xW B q47.2) (q := (.iconst 1, 1, 0, 0, .null)) rfl (fun _ => rfl) (Nat.le_refl _) ?_
        obtain rfl := Option.some.inj h
        exact q_ri (q := (.ireturn, 1, 0, 0, .null)) rfl (fun _ => rfl) rfl rfl
      · rw [if_neg (by rw [c]; decide)] at h
        exact T177_39 H he F l0_1 l1_1 h
set_option maxRecDepth 20000 in
theorem Z177 {B : zHp} (H : yH0 B) {F : Nat} {m : xS} {x : Int32 × xS} (h : D177 F m = some x) {d : Nat} (hd : 4 ≤ d) : zCan d 177 [.ref 70] (xW B m) (some (.int x.1), xW B x.2) := by
  obtain ⟨e, rfl⟩ : ∃ e, d = e + 1 := ⟨d - 1, by omega⟩
  refine zCan_body (nL := 3) (rt := (some .boolean)) (cd := zc177) (xg177) ⟨Nat.le_of_ble_eq_true rfl, by decide⟩ (Nat.le_refl _) ?_
  exact T177 H hd F rfl h
/-- LentToolsModel.term -/
def D178_74 (F : Nat) (g9 : xS → Option (Int32 × xS)) (w0 : Int32) (m : xS) : Option (Int32 × xS) :=
  (D177 F (xu m 70 8 ((m.1 70 8) + 1))).bind fun q86 =>
    if zcmp .ne q86.1 0 = true then
      (D172 F w0 0 q86.2).bind fun q97 =>
        g9 q97.2
    else
      some (0, q86.2)
set_option maxRecDepth 20000 in
theorem T178_74 {B : zHp} (H : yH0 B) {e : Nat} (he : 5 ≤ e + 1) (F : Nat) (g9 : xS → Option (Int32 × xS)) (k9 : ∀ {lv : List (Nat × Value)} {m : xS} {x : Int32 × xS}, zld lv 0 = some (.ref 70) → g9 m = some x → zR none e 2 (some .boolean) zc178 (9, lv, []) (xW B m) (some (.int x.1), xW B x.2)) {w0 : Int32} {lv : List (Nat × Value)} {m : xS} {x : Int32 × xS} (l0 : zld lv 0 = some (.ref 70)) (h : D178_74 F g9 w0 m = some x) : zR none e 2 (some .boolean) zc178 (74, lv, [.int w0]) (xW B m) (some (.int x.1), xW B x.2) := by
  unfold D178_74 at h
  refine q_si (k := 1) (i := 1) (q := (.istore_n 1, 1, 0, 0, .null)) rfl (fun _ => rfl) (by decide) ?_
  have l0_1 : zld (zs1 lv 1 (.int w0)) 0 = some (.ref 70) := x_o1 l0 rfl rfl
  have l1_1 : zld (zs1 lv 1 (.int w0)) 1 = some (.int w0) := zs1_ld _ _ _
  generalize (zs1 lv 1 (.int w0)) = lv1 at *
  refine q_lr (k := 1) (i := 0) (q := (.aload_n 0, 1, 0, 0, .null)) rfl (fun _ => rfl) l0_1 ?_
  refine r_s (fr' := (77, lv1, [.ref 70, .ref 70])) (hp' := xW B m) (q := (.dup, 1, 0, 0, .null)) rfl (fun _ => rfl) (Nat.le_refl _) ?_
  refine r_gi (v := (m.1 70 8)) H (pc := 77) (i := _) rfl (by decide) (by decide) rfl ?_
  refine r_s (fr' := (81, lv1, [.int 1, .int (m.1 70 8), .ref 70])) (hp' := xW B m) (q := (.iconst 1, 1, 0, 0, .null)) rfl (fun _ => rfl) (Nat.le_refl _) ?_
  refine r_s (fr' := (82, lv1, [.int ((m.1 70 8) + 1), .ref 70])) (hp' := xW B m) (q := (.iadd, 1, 0, 0, .null)) rfl (fun _ => rfl) (Nat.le_refl _) ?_
  refine r_pi (s2 := (xu m 70 8 ((m.1 70 8) + 1))) H (pc := 82) rfl (by decide) rfl rfl ?_
  refine q_lr (k := 1) (i := 0) (q := (.aload_n 0, 1, 0, 0, .null)) rfl (fun _ => rfl) l0_1 ?_
  obtain ⟨q86, h86, h⟩ := xbind h
  refine r_call (ix := 70) (as := []) (rest := []) (rv := some (.int q86.1)) (hp' := xW B q86.2) (pc := 86) rfl xr177 rfl rfl rfl (xkd H (by decide)) (Nat.le_of_ble_eq_true rfl) (Z177 H h86 (by omega)) (Nat.le_refl _) ?_
  refine r_if (len := 3) (a := 94) (b := 0) (v0 := .null) (cn := .ne) (off := 5) rfl (fun c => ?_) (fun c => ?_)
  · rw [if_pos c] at h
    refine q_lr (k := 1) (i := 0) (q := (.aload_n 0, 1, 0, 0, .null)) rfl (fun _ => rfl) l0_1 ?_
    refine q_li (k := 1) (i := 1) (q := (.iload_n 1, 1, 0, 0, .null)) rfl (fun _ => rfl) l1_1 ?_
    refine r_s (fr' := (97, lv1, [.int 0, .int w0, .ref 70])) (hp' := xW B q86.2) (q := (.iconst 0, 1, 0, 0, .null)) rfl (fun _ => rfl) (Nat.le_refl _) ?_
    obtain ⟨q97, h97, h⟩ := xbind h
    refine r_call (ix := 70) (as := [.int w0, .int 0]) (rest := []) (rv := none) (hp' := xW B q97.2) (pc := 97) rfl xr172 rfl rfl rfl (xkd H (by decide)) (Nat.le_of_ble_eq_true rfl) (Z172 H h97 (by omega)) (Nat.le_refl _) ?_
    refine r_s (fr' := (9, lv1, [])) (hp' := xW B q97.2) (q := (.goto (-91), 3, 9, 0, .null)) rfl (fun _ => rfl) (Nat.le_refl _) ?_
    exact k9 l0_1 h
  · rw [if_neg (by rw [c]; decide)] at h
    refine r_s (fr' := (93, lv1, [.int 0])) (hp' := xW B q86.2) (q := (.iconst 0, 1, 0, 0, .null)) rfl (fun _ => rfl) (Nat.le_refl _) ?_
    obtain rfl := Option.some.inj h
    exact q_ri (q := (.ireturn, 1, 0, 0, .null)) rfl (fun _ => rfl) rfl rfl
def D178_36 (F : Nat) (g9 : xS → Option (Int32 × xS)) (m : xS) : Option (Int32 × xS) :=
  if xib (m.1 70 8) 400 = true then
    if zcmp .ne (m.1 71 ((m.1 70 8) : Int32).toNatClampNeg) 42 = true then
      if xib (m.1 70 8) 400 = true then
        if zcmp .ne (m.1 71 ((m.1 70 8) : Int32).toNatClampNeg) 47 = true then
          D178_74 F g9 14 m
        else
          D178_74 F g9 5 m
      else none
    else
      D178_74 F g9 4 m
  else none
set_option maxRecDepth 20000 in
theorem T178_36 {B : zHp} (H : yH0 B) {e : Nat} (he : 5 ≤ e + 1) (F : Nat) (g9 : xS → Option (Int32 × xS)) (k9 : ∀ {lv : List (Nat × Value)} {m : xS} {x : Int32 × xS}, zld lv 0 = some (.ref 70) → g9 m = some x → zR none e 2 (some .boolean) zc178 (9, lv, []) (xW B m) (some (.int x.1), xW B x.2)) {lv : List (Nat × Value)} {m : xS} {x : Int32 × xS} (l0 : zld lv 0 = some (.ref 70)) (h : D178_36 F g9 m = some x) : zR none e 2 (some .boolean) zc178 (36, lv, []) (xW B m) (some (.int x.1), xW B x.2) := by
  unfold D178_36 at h
  refine q_lr (k := 1) (i := 0) (q := (.aload_n 0, 1, 0, 0, .null)) rfl (fun _ => rfl) l0 ?_
  refine r_gr (c := 71) H (pc := 37) rfl (by decide) (by decide) ?_
  refine q_lr (k := 1) (i := 0) (q := (.aload_n 0, 1, 0, 0, .null)) rfl (fun _ => rfl) l0 ?_
  refine r_gi (v := (m.1 70 8)) H (pc := 41) (i := _) rfl (by decide) (by decide) rfl ?_
  obtain ⟨c1, h⟩ := xif h
  refine q_bl (n := 400) (v := (m.1 71 ((m.1 70 8) : Int32).toNatClampNeg)) (k := 1) H (pc := 44) rfl (by decide) (by decide) c1 rfl ?_
  refine r_s (fr' := (47, lv, [.int 42, .int (m.1 71 ((m.1 70 8) : Int32).toNatClampNeg)])) (hp' := xW B m) (q := (.bipush 42, 2, 0, 0, .null)) rfl (fun _ => rfl) (Nat.le_refl _) ?_
  refine r_ifc (len := 3) (a := 54) (b := 0) (v0 := .null) (cn := .ne) (off := 7) rfl (fun c => ?_) (fun c => ?_)
  · rw [if_pos c] at h
    refine q_lr (k := 1) (i := 0) (q := (.aload_n 0, 1, 0, 0, .null)) rfl (fun _ => rfl) l0 ?_
    refine r_gr (c := 71) H (pc := 55) rfl (by decide) (by decide) ?_
    refine q_lr (k := 1) (i := 0) (q := (.aload_n 0, 1, 0, 0, .null)) rfl (fun _ => rfl) l0 ?_
    refine r_gi (v := (m.1 70 8)) H (pc := 59) (i := _) rfl (by decide) (by decide) rfl ?_
    obtain ⟨c2, h⟩ := xif h
    refine q_bl (n := 400) (v := (m.1 71 ((m.1 70 8) : Int32).toNatClampNeg)) (k := 1) H (pc := 62) rfl (by decide) (by decide) c2 rfl ?_
    refine r_s (fr' := (65, lv, [.int 47, .int (m.1 71 ((m.1 70 8) : Int32).toNatClampNeg)])) (hp' := xW B m) (q := (.bipush 47, 2, 0, 0, .null)) rfl (fun _ => rfl) (Nat.le_refl _) ?_
    refine r_ifc (len := 3) (a := 72) (b := 0) (v0 := .null) (cn := .ne) (off := 7) rfl (fun c => ?_) (fun c => ?_)
    · rw [if_pos c] at h
      refine r_s (fr' := (74, lv, [.int 14])) (hp' := xW B m) (q := (.bipush 14, 2, 0, 0, .null)) rfl (fun _ => rfl) (Nat.le_refl _) ?_
      exact T178_74 H he F _ k9 l0 h
    · rw [if_neg (by rw [c]; decide)] at h
      refine r_s (fr' := (69, lv, [.int 5])) (hp' := xW B m) (q := (.iconst 5, 1, 0, 0, .null)) rfl (fun _ => rfl) (Nat.le_refl _) ?_
      refine r_s (fr' := (74, lv, [.int 5])) (hp' := xW B m) (q := (.goto 5, 3, 74, 0, .null)) rfl (fun _ => rfl) (Nat.le_refl _) ?_
      exact T178_74 H he F _ k9 l0 h
  · rw [if_neg (by rw [c]; decide)] at h
    refine r_s (fr' := (51, lv, [.int 4])) (hp' := xW B m) (q := (.iconst 4, 1, 0, 0, .null)) rfl (fun _ => rfl) (Nat.le_refl _) ?_
    refine r_s (fr' := (74, lv, [.int 4])) (hp' := xW B m) (q := (.goto 23, 3, 74, 0, .null)) rfl (fun _ => rfl) (Nat.le_refl _) ?_
    exact T178_74 H he F _ k9 l0 h
def D178_9 (F : Nat) : Nat → xS → Option (Int32 × xS)
  | 0, _ => none
  | f + 1, m =>
    (D164 F m).bind fun q10 =>
      if zcmp .eq q10.1 42 = true then
        D178_36 F (D178_9 F f) q10.2
      else
        (D164 F q10.2).bind fun q19 =>
          if zcmp .eq q19.1 47 = true then
            D178_36 F (D178_9 F f) q19.2
          else
            (D164 F q19.2).bind fun q28 =>
              if zcmp .ne q28.1 37 = true then
                some (1, q28.2)
              else
                D178_36 F (D178_9 F f) q28.2
set_option maxRecDepth 20000 in
theorem T178_9 {B : zHp} (H : yH0 B) {e : Nat} (he : 5 ≤ e + 1) (F : Nat) : ∀ (f : Nat) {lv : List (Nat × Value)} {m : xS} {x : Int32 × xS}, zld lv 0 = some (.ref 70) → D178_9 F f m = some x → zR none e 2 (some .boolean) zc178 (9, lv, []) (xW B m) (some (.int x.1), xW B x.2) := by
  intro f
  induction f with
  | zero => intro lv m x l0 h; cases h
  | succ f ih =>
    intro lv m x l0 h
    unfold D178_9 at h
    refine q_lr (k := 1) (i := 0) (q := (.aload_n 0, 1, 0, 0, .null)) rfl (fun _ => rfl) l0 ?_
    obtain ⟨q10, h10, h⟩ := xbind h
    refine r_call (ix := 70) (as := []) (rest := []) (rv := some (.int q10.1)) (hp' := xW B q10.2) (pc := 10) rfl xr164 rfl rfl rfl (xkd H (by decide)) (Nat.le_of_ble_eq_true rfl) (Z164 H h10 (by omega)) (Nat.le_refl _) ?_
    refine r_s (fr' := (15, lv, [.int 42, .int q10.1])) (hp' := xW B q10.2) (q := (.bipush 42, 2, 0, 0, .null)) rfl (fun _ => rfl) (Nat.le_refl _) ?_
    refine r_ifc (len := 3) (a := 36) (b := 0) (v0 := .null) (cn := .eq) (off := 21) rfl (fun c => ?_) (fun c => ?_)
    · rw [if_pos c] at h
      exact T178_36 H he F _ ih l0 h
    · rw [if_neg (by rw [c]; decide)] at h
      refine q_lr (k := 1) (i := 0) (q := (.aload_n 0, 1, 0, 0, .null)) rfl (fun _ => rfl) l0 ?_
      obtain ⟨q19, h19, h⟩ := xbind h
      refine r_call (ix := 70) (as := []) (rest := []) (rv := some (.int q19.1)) (hp' := xW B q19.2) (pc := 19) rfl xr164 rfl rfl rfl (xkd H (by decide)) (Nat.le_of_ble_eq_true rfl) (Z164 H h19 (by omega)) (Nat.le_refl _) ?_
      refine r_s (fr' := (24, lv, [.int 47, .int q19.1])) (hp' := xW B q19.2) (q := (.bipush 47, 2, 0, 0, .null)) rfl (fun _ => rfl) (Nat.le_refl _) ?_
      refine r_ifc (len := 3) (a := 36) (b := 0) (v0 := .null) (cn := .eq) (off := 12) rfl (fun c => ?_) (fun c => ?_)
      · rw [if_pos c] at h
        exact T178_36 H he F _ ih l0 h
      · rw [if_neg (by rw [c]; decide)] at h
        refine q_lr (k := 1) (i := 0) (q := (.aload_n 0, 1, 0, 0, .null)) rfl (fun _ => rfl) l0 ?_
        obtain ⟨q28, h28, h⟩ := xbind h
        refine r_call (ix := 70) (as := []) (rest := []) (rv := some (.int q28.1)) (hp' := xW B q28.2) (pc := 28) rfl xr164 rfl rfl rfl (xkd H (by decide)) (Nat.le_of_ble_eq_true rfl) (Z164 H h28 (by omega)) (Nat.le_refl _) ?_
        refine r_s (fr' := (33, lv, [.int 37, .int q28.1])) (hp' := xW B q28.2) (q := (.bipush 37, 2, 0, 0, .null)) rfl (fun _ => rfl) (Nat.le_refl _) ?_
        refine r_ifc (len := 3) (a := 103) (b := 0) (v0 := .null) (cn := .ne) (off := 70) rfl (fun c => ?_) (fun c => ?_)
        · rw [if_pos c] at h
          refine r_s (fr' := (104, lv, [.int 1])) (hp' := xW B q28.2) (q := (.iconst 1, 1, 0, 0, .null)) rfl (fun _ => rfl) (Nat.le_refl _) ?_
          obtain rfl := Option.some.inj h
          exact q_ri (q := (.ireturn, 1, 0, 0, .null)) rfl (fun _ => rfl) rfl rfl
        · rw [if_neg (by rw [c]; decide)] at h
          exact T178_36 H he F _ ih l0 h
def D178 (F : Nat) (m : xS) : Option (Int32 × xS) :=
  (D177 F m).bind fun q1 =>
    if zcmp .ne q1.1 0 = true then
      D178_9 F F q1.2
    else
      some (0, q1.2)
set_option maxRecDepth 20000 in
theorem T178 {B : zHp} (H : yH0 B) {e : Nat} (he : 5 ≤ e + 1) (F : Nat) {lv : List (Nat × Value)} {m : xS} {x : Int32 × xS} (l0 : zld lv 0 = some (.ref 70)) (h : D178 F m = some x) : zR none e 2 (some .boolean) zc178 (0, lv, []) (xW B m) (some (.int x.1), xW B x.2) := by
  unfold D178 at h
  refine q_lr (k := 1) (i := 0) (q := (.aload_n 0, 1, 0, 0, .null)) rfl (fun _ => rfl) l0 ?_
  obtain ⟨q1, h1, h⟩ := xbind h
  refine r_call (ix := 70) (as := []) (rest := []) (rv := some (.int q1.1)) (hp' := xW B q1.2) (pc := 1) rfl xr177 rfl rfl rfl (xkd H (by decide)) (Nat.le_of_ble_eq_true rfl) (Z177 H h1 (by omega)) (Nat.le_refl _) ?_
  refine r_if (len := 3) (a := 9) (b := 0) (v0 := .null) (cn := .ne) (off := 5) rfl (fun c => ?_) (fun c => ?_)
  · rw [if_pos c] at h
    exact T178_9 H he F F l0 h
  · rw [if_neg (by rw [c]; decide)] at h
    refine r_s (fr' := (8, lv, [.int 0])) (hp' := xW B q1.2) (q := (.iconst 0, 1, 0, 0, .null)) rfl (fun _ => rfl) (Nat.le_refl _) ?_
    obtain rfl := Option.some.inj h
    exact q_ri (q := (.ireturn, 1, 0, 0, .null)) rfl (fun _ => rfl) rfl rfl
set_option maxRecDepth 20000 in
theorem Z178 {B : zHp} (H : yH0 B) {F : Nat} {m : xS} {x : Int32 × xS} (h : D178 F m = some x) {d : Nat} (hd : 5 ≤ d) : zCan d 178 [.ref 70] (xW B m) (some (.int x.1), xW B x.2) := by
  obtain ⟨e, rfl⟩ : ∃ e, d = e + 1 := ⟨d - 1, by omega⟩
  refine zCan_body (nL := 2) (rt := (some .boolean)) (cd := zc178) (xg178) ⟨Nat.le_of_ble_eq_true rfl, by decide⟩ (Nat.le_refl _) ?_
  exact T178 H hd F rfl h
/-- LentToolsModel.sum -/
def D179_46 (F : Nat) (g9 : xS → Option (Int32 × xS)) (w0 : Int32) (m : xS) : Option (Int32 × xS) :=
  (D178 F (xu m 70 8 ((m.1 70 8) + 1))).bind fun q58 =>
    if zcmp .ne q58.1 0 = true then
      (D172 F w0 0 q58.2).bind fun q69 =>
        g9 q69.2
    else
      some (0, q58.2)
set_option maxRecDepth 20000 in
theorem T179_46 {B : zHp} (H : yH0 B) {e : Nat} (he : 6 ≤ e + 1) (F : Nat) (g9 : xS → Option (Int32 × xS)) (k9 : ∀ {lv : List (Nat × Value)} {m : xS} {x : Int32 × xS}, zld lv 0 = some (.ref 70) → g9 m = some x → zR none e 2 (some .boolean) zc179 (9, lv, []) (xW B m) (some (.int x.1), xW B x.2)) {w0 : Int32} {lv : List (Nat × Value)} {m : xS} {x : Int32 × xS} (l0 : zld lv 0 = some (.ref 70)) (h : D179_46 F g9 w0 m = some x) : zR none e 2 (some .boolean) zc179 (46, lv, [.int w0]) (xW B m) (some (.int x.1), xW B x.2) := by
  unfold D179_46 at h
  refine q_si (k := 1) (i := 1) (q := (.istore_n 1, 1, 0, 0, .null)) rfl (fun _ => rfl) (by decide) ?_
  have l0_1 : zld (zs1 lv 1 (.int w0)) 0 = some (.ref 70) := x_o1 l0 rfl rfl
  have l1_1 : zld (zs1 lv 1 (.int w0)) 1 = some (.int w0) := zs1_ld _ _ _
  generalize (zs1 lv 1 (.int w0)) = lv1 at *
  refine q_lr (k := 1) (i := 0) (q := (.aload_n 0, 1, 0, 0, .null)) rfl (fun _ => rfl) l0_1 ?_
  refine r_s (fr' := (49, lv1, [.ref 70, .ref 70])) (hp' := xW B m) (q := (.dup, 1, 0, 0, .null)) rfl (fun _ => rfl) (Nat.le_refl _) ?_
  refine r_gi (v := (m.1 70 8)) H (pc := 49) (i := _) rfl (by decide) (by decide) rfl ?_
  refine r_s (fr' := (53, lv1, [.int 1, .int (m.1 70 8), .ref 70])) (hp' := xW B m) (q := (.iconst 1, 1, 0, 0, .null)) rfl (fun _ => rfl) (Nat.le_refl _) ?_
  refine r_s (fr' := (54, lv1, [.int ((m.1 70 8) + 1), .ref 70])) (hp' := xW B m) (q := (.iadd, 1, 0, 0, .null)) rfl (fun _ => rfl) (Nat.le_refl _) ?_
  refine r_pi (s2 := (xu m 70 8 ((m.1 70 8) + 1))) H (pc := 54) rfl (by decide) rfl rfl ?_
  refine q_lr (k := 1) (i := 0) (q := (.aload_n 0, 1, 0, 0, .null)) rfl (fun _ => rfl) l0_1 ?_
  obtain ⟨q58, h58, h⟩ := xbind h
  refine r_call (ix := 70) (as := []) (rest := []) (rv := some (.int q58.1)) (hp' := xW B q58.2) (pc := 58) rfl xr178 rfl rfl rfl (xkd H (by decide)) (Nat.le_of_ble_eq_true rfl) (Z178 H h58 (by omega)) (Nat.le_refl _) ?_
  refine r_if (len := 3) (a := 66) (b := 0) (v0 := .null) (cn := .ne) (off := 5) rfl (fun c => ?_) (fun c => ?_)
  · rw [if_pos c] at h
    refine q_lr (k := 1) (i := 0) (q := (.aload_n 0, 1, 0, 0, .null)) rfl (fun _ => rfl) l0_1 ?_
    refine q_li (k := 1) (i := 1) (q := (.iload_n 1, 1, 0, 0, .null)) rfl (fun _ => rfl) l1_1 ?_
    refine r_s (fr' := (69, lv1, [.int 0, .int w0, .ref 70])) (hp' := xW B q58.2) (q := (.iconst 0, 1, 0, 0, .null)) rfl (fun _ => rfl) (Nat.le_refl _) ?_
    obtain ⟨q69, h69, h⟩ := xbind h
    refine r_call (ix := 70) (as := [.int w0, .int 0]) (rest := []) (rv := none) (hp' := xW B q69.2) (pc := 69) rfl xr172 rfl rfl rfl (xkd H (by decide)) (Nat.le_of_ble_eq_true rfl) (Z172 H h69 (by omega)) (Nat.le_refl _) ?_
    refine r_s (fr' := (9, lv1, [])) (hp' := xW B q69.2) (q := (.goto (-63), 3, 9, 0, .null)) rfl (fun _ => rfl) (Nat.le_refl _) ?_
    exact k9 l0_1 h
  · rw [if_neg (by rw [c]; decide)] at h
    refine r_s (fr' := (65, lv1, [.int 0])) (hp' := xW B q58.2) (q := (.iconst 0, 1, 0, 0, .null)) rfl (fun _ => rfl) (Nat.le_refl _) ?_
    obtain rfl := Option.some.inj h
    exact q_ri (q := (.ireturn, 1, 0, 0, .null)) rfl (fun _ => rfl) rfl rfl
def D179_27 (F : Nat) (g9 : xS → Option (Int32 × xS)) (m : xS) : Option (Int32 × xS) :=
  if xib (m.1 70 8) 400 = true then
    if zcmp .ne (m.1 71 ((m.1 70 8) : Int32).toNatClampNeg) 43 = true then
      D179_46 F g9 3 m
    else
      D179_46 F g9 2 m
  else none
set_option maxRecDepth 20000 in
theorem T179_27 {B : zHp} (H : yH0 B) {e : Nat} (he : 6 ≤ e + 1) (F : Nat) (g9 : xS → Option (Int32 × xS)) (k9 : ∀ {lv : List (Nat × Value)} {m : xS} {x : Int32 × xS}, zld lv 0 = some (.ref 70) → g9 m = some x → zR none e 2 (some .boolean) zc179 (9, lv, []) (xW B m) (some (.int x.1), xW B x.2)) {lv : List (Nat × Value)} {m : xS} {x : Int32 × xS} (l0 : zld lv 0 = some (.ref 70)) (h : D179_27 F g9 m = some x) : zR none e 2 (some .boolean) zc179 (27, lv, []) (xW B m) (some (.int x.1), xW B x.2) := by
  unfold D179_27 at h
  refine q_lr (k := 1) (i := 0) (q := (.aload_n 0, 1, 0, 0, .null)) rfl (fun _ => rfl) l0 ?_
  refine r_gr (c := 71) H (pc := 28) rfl (by decide) (by decide) ?_
  refine q_lr (k := 1) (i := 0) (q := (.aload_n 0, 1, 0, 0, .null)) rfl (fun _ => rfl) l0 ?_
  refine r_gi (v := (m.1 70 8)) H (pc := 32) (i := _) rfl (by decide) (by decide) rfl ?_
  obtain ⟨c1, h⟩ := xif h
  refine q_bl (n := 400) (v := (m.1 71 ((m.1 70 8) : Int32).toNatClampNeg)) (k := 1) H (pc := 35) rfl (by decide) (by decide) c1 rfl ?_
  refine r_s (fr' := (38, lv, [.int 43, .int (m.1 71 ((m.1 70 8) : Int32).toNatClampNeg)])) (hp' := xW B m) (q := (.bipush 43, 2, 0, 0, .null)) rfl (fun _ => rfl) (Nat.le_refl _) ?_
  refine r_ifc (len := 3) (a := 45) (b := 0) (v0 := .null) (cn := .ne) (off := 7) rfl (fun c => ?_) (fun c => ?_)
  · rw [if_pos c] at h
    refine r_s (fr' := (46, lv, [.int 3])) (hp' := xW B m) (q := (.iconst 3, 1, 0, 0, .null)) rfl (fun _ => rfl) (Nat.le_refl _) ?_
    exact T179_46 H he F _ k9 l0 h
  · rw [if_neg (by rw [c]; decide)] at h
    refine r_s (fr' := (42, lv, [.int 2])) (hp' := xW B m) (q := (.iconst 2, 1, 0, 0, .null)) rfl (fun _ => rfl) (Nat.le_refl _) ?_
    refine r_s (fr' := (46, lv, [.int 2])) (hp' := xW B m) (q := (.goto 4, 3, 46, 0, .null)) rfl (fun _ => rfl) (Nat.le_refl _) ?_
    exact T179_46 H he F _ k9 l0 h
def D179_9 (F : Nat) : Nat → xS → Option (Int32 × xS)
  | 0, _ => none
  | f + 1, m =>
    (D164 F m).bind fun q10 =>
      if zcmp .eq q10.1 43 = true then
        D179_27 F (D179_9 F f) q10.2
      else
        (D164 F q10.2).bind fun q19 =>
          if zcmp .ne q19.1 45 = true then
            some (1, q19.2)
          else
            D179_27 F (D179_9 F f) q19.2
set_option maxRecDepth 20000 in
theorem T179_9 {B : zHp} (H : yH0 B) {e : Nat} (he : 6 ≤ e + 1) (F : Nat) : ∀ (f : Nat) {lv : List (Nat × Value)} {m : xS} {x : Int32 × xS}, zld lv 0 = some (.ref 70) → D179_9 F f m = some x → zR none e 2 (some .boolean) zc179 (9, lv, []) (xW B m) (some (.int x.1), xW B x.2) := by
  intro f
  induction f with
  | zero => intro lv m x l0 h; cases h
  | succ f ih =>
    intro lv m x l0 h
    unfold D179_9 at h
    refine q_lr (k := 1) (i := 0) (q := (.aload_n 0, 1, 0, 0, .null)) rfl (fun _ => rfl) l0 ?_
    obtain ⟨q10, h10, h⟩ := xbind h
    refine r_call (ix := 70) (as := []) (rest := []) (rv := some (.int q10.1)) (hp' := xW B q10.2) (pc := 10) rfl xr164 rfl rfl rfl (xkd H (by decide)) (Nat.le_of_ble_eq_true rfl) (Z164 H h10 (by omega)) (Nat.le_refl _) ?_
    refine r_s (fr' := (15, lv, [.int 43, .int q10.1])) (hp' := xW B q10.2) (q := (.bipush 43, 2, 0, 0, .null)) rfl (fun _ => rfl) (Nat.le_refl _) ?_
    refine r_ifc (len := 3) (a := 27) (b := 0) (v0 := .null) (cn := .eq) (off := 12) rfl (fun c => ?_) (fun c => ?_)
    · rw [if_pos c] at h
      exact T179_27 H he F _ ih l0 h
    · rw [if_neg (by rw [c]; decide)] at h
      refine q_lr (k := 1) (i := 0) (q := (.aload_n 0, 1, 0, 0, .null)) rfl (fun _ => rfl) l0 ?_
      obtain ⟨q19, h19, h⟩ := xbind h
      refine r_call (ix := 70) (as := []) (rest := []) (rv := some (.int q19.1)) (hp' := xW B q19.2) (pc := 19) rfl xr164 rfl rfl rfl (xkd H (by decide)) (Nat.le_of_ble_eq_true rfl) (Z164 H h19 (by omega)) (Nat.le_refl _) ?_
      refine r_s (fr' := (24, lv, [.int 45, .int q19.1])) (hp' := xW B q19.2) (q := (.bipush 45, 2, 0, 0, .null)) rfl (fun _ => rfl) (Nat.le_refl _) ?_
      refine r_ifc (len := 3) (a := 75) (b := 0) (v0 := .null) (cn := .ne) (off := 51) rfl (fun c => ?_) (fun c => ?_)
      · rw [if_pos c] at h
        refine r_s (fr' := (76, lv, [.int 1])) (hp' := xW B q19.2) (q := (.iconst 1, 1, 0, 0, .null)) rfl (fun _ => rfl) (Nat.le_refl _) ?_
        obtain rfl := Option.some.inj h
        exact q_ri (q := (.ireturn, 1, 0, 0, .null)) rfl (fun _ => rfl) rfl rfl
      · rw [if_neg (by rw [c]; decide)] at h
        exact T179_27 H he F _ ih l0 h
def D179 (F : Nat) (m : xS) : Option (Int32 × xS) :=
  (D178 F m).bind fun q1 =>
    if zcmp .ne q1.1 0 = true then
      D179_9 F F q1.2
    else
      some (0, q1.2)
set_option maxRecDepth 20000 in
theorem T179 {B : zHp} (H : yH0 B) {e : Nat} (he : 6 ≤ e + 1) (F : Nat) {lv : List (Nat × Value)} {m : xS} {x : Int32 × xS} (l0 : zld lv 0 = some (.ref 70)) (h : D179 F m = some x) : zR none e 2 (some .boolean) zc179 (0, lv, []) (xW B m) (some (.int x.1), xW B x.2) := by
  unfold D179 at h
  refine q_lr (k := 1) (i := 0) (q := (.aload_n 0, 1, 0, 0, .null)) rfl (fun _ => rfl) l0 ?_
  obtain ⟨q1, h1, h⟩ := xbind h
  refine r_call (ix := 70) (as := []) (rest := []) (rv := some (.int q1.1)) (hp' := xW B q1.2) (pc := 1) rfl xr178 rfl rfl rfl (xkd H (by decide)) (Nat.le_of_ble_eq_true rfl) (Z178 H h1 (by omega)) (Nat.le_refl _) ?_
  refine r_if (len := 3) (a := 9) (b := 0) (v0 := .null) (cn := .ne) (off := 5) rfl (fun c => ?_) (fun c => ?_)
  · rw [if_pos c] at h
    exact T179_9 H he F F l0 h
  · rw [if_neg (by rw [c]; decide)] at h
    refine r_s (fr' := (8, lv, [.int 0])) (hp' := xW B q1.2) (q := (.iconst 0, 1, 0, 0, .null)) rfl (fun _ => rfl) (Nat.le_refl _) ?_
    obtain rfl := Option.some.inj h
    exact q_ri (q := (.ireturn, 1, 0, 0, .null)) rfl (fun _ => rfl) rfl rfl
set_option maxRecDepth 20000 in
theorem Z179 {B : zHp} (H : yH0 B) {F : Nat} {m : xS} {x : Int32 × xS} (h : D179 F m = some x) {d : Nat} (hd : 6 ≤ d) : zCan d 179 [.ref 70] (xW B m) (some (.int x.1), xW B x.2) := by
  obtain ⟨e, rfl⟩ : ∃ e, d = e + 1 := ⟨d - 1, by omega⟩
  refine zCan_body (nL := 2) (rt := (some .boolean)) (cd := zc179) (xg179) ⟨Nat.le_of_ble_eq_true rfl, by decide⟩ (Nat.le_refl _) ?_
  exact T179 H hd F rfl h
/-- LentToolsModel.takesWord -/
def D169 (F : Nat) (v1 : Int64) (m : xS) : Option (Int32 × xS) :=
  (D167 F v1 m).bind fun q2 =>
    if zcmp .ne q2.1 0 = true then
      (D168 F q2.2).bind fun q11 =>
        some (1, q11.2)
    else
      some (0, q2.2)
set_option maxRecDepth 20000 in
theorem T169 {B : zHp} (H : yH0 B) {e : Nat} (he : 3 ≤ e + 1) (F : Nat) {v1 : Int64} {lv : List (Nat × Value)} {m : xS} {x : Int32 × xS} (l0 : zld lv 0 = some (.ref 70)) (l1 : zld lv 1 = some (.long v1)) (h : D169 F v1 m = some x) : zR none e 3 (some .boolean) zc169 (0, lv, []) (xW B m) (some (.int x.1), xW B x.2) := by
  unfold D169 at h
  refine q_lr (k := 1) (i := 0) (q := (.aload_n 0, 1, 0, 0, .null)) rfl (fun _ => rfl) l0 ?_
  refine q_ll (k := 1) (i := 1) (q := (.lload_n 1, 1, 0, 0, .null)) rfl (fun _ => rfl) l1 ?_
  obtain ⟨q2, h2, h⟩ := xbind h
  refine r_call (ix := 70) (as := [.long v1]) (rest := []) (rv := some (.int q2.1)) (hp' := xW B q2.2) (pc := 2) rfl xr167 rfl rfl rfl (xkd H (by decide)) (Nat.le_of_ble_eq_true rfl) (Z167 H h2 (by omega)) (Nat.le_refl _) ?_
  refine r_if (len := 3) (a := 10) (b := 0) (v0 := .null) (cn := .ne) (off := 5) rfl (fun c => ?_) (fun c => ?_)
  · rw [if_pos c] at h
    refine q_lr (k := 1) (i := 0) (q := (.aload_n 0, 1, 0, 0, .null)) rfl (fun _ => rfl) l0 ?_
    obtain ⟨q11, h11, h⟩ := xbind h
    refine r_call (ix := 70) (as := []) (rest := []) (rv := none) (hp' := xW B q11.2) (pc := 11) rfl xr168 rfl rfl rfl (xkd H (by decide)) (Nat.le_of_ble_eq_true rfl) (Z168 H h11 (by omega)) (Nat.le_refl _) ?_
    refine r_s (fr' := (15, lv, [.int 1])) (hp' := xW B q11.2) (q := (.iconst 1, 1, 0, 0, .null)) rfl (fun _ => rfl) (Nat.le_refl _) ?_
    obtain rfl := Option.some.inj h
    exact q_ri (q := (.ireturn, 1, 0, 0, .null)) rfl (fun _ => rfl) rfl rfl
  · rw [if_neg (by rw [c]; decide)] at h
    refine r_s (fr' := (9, lv, [.int 0])) (hp' := xW B q2.2) (q := (.iconst 0, 1, 0, 0, .null)) rfl (fun _ => rfl) (Nat.le_refl _) ?_
    obtain rfl := Option.some.inj h
    exact q_ri (q := (.ireturn, 1, 0, 0, .null)) rfl (fun _ => rfl) rfl rfl
set_option maxRecDepth 20000 in
theorem Z169 {B : zHp} (H : yH0 B) {F : Nat} {a1 : Int64} {m : xS} {x : Int32 × xS} (h : D169 F a1 m = some x) {d : Nat} (hd : 3 ≤ d) : zCan d 169 [.ref 70, .long a1] (xW B m) (some (.int x.1), xW B x.2) := by
  obtain ⟨e, rfl⟩ : ∃ e, d = e + 1 := ⟨d - 1, by omega⟩
  refine zCan_body (nL := 3) (rt := (some .boolean)) (cd := zc169) (xg169) ⟨Nat.le_of_ble_eq_true rfl, by decide⟩ (Nat.le_refl _) ?_
  exact T169 H hd F rfl rfl h
/-- LentToolsModel.opens -/
def D174 (F : Nat) (v1 : Int32) (m : xS) : Option (Int32 × xS) :=
  if zcmp .ne (m.1 70 13) 10 = true then
    if xib (m.1 70 16) 400 = true then
      some (1, (xu (xu (xu m 70 13 ((m.1 70 13) + 1)) 77 ((m.1 70 16) : Int32).toNatClampNeg v1) 70 16 ((m.1 70 16) + 1)))
    else none
  else
    (D163 F 2 (m.1 70 8) m).bind fun q15 =>
      if xbo q15.1 = true then
        some (q15.1, q15.2)
      else none
set_option maxRecDepth 20000 in
theorem T174 {B : zHp} (H : yH0 B) {e : Nat} (he : 2 ≤ e + 1) (F : Nat) {v1 : Int32} {lv : List (Nat × Value)} {m : xS} {x : Int32 × xS} (l0 : zld lv 0 = some (.ref 70)) (l1 : zld lv 1 = some (.int v1)) (h : D174 F v1 m = some x) : zR none e 2 (some .boolean) zc174 (0, lv, []) (xW B m) (some (.int x.1), xW B x.2) := by
  unfold D174 at h
  refine q_lr (k := 1) (i := 0) (q := (.aload_n 0, 1, 0, 0, .null)) rfl (fun _ => rfl) l0 ?_
  refine r_gi (v := (m.1 70 13)) H (pc := 1) (i := _) rfl (by decide) (by decide) rfl ?_
  refine r_s (fr' := (6, lv, [.int 10, .int (m.1 70 13)])) (hp' := xW B m) (q := (.bipush 10, 2, 0, 0, .null)) rfl (fun _ => rfl) (Nat.le_refl _) ?_
  refine r_ifc (len := 3) (a := 19) (b := 0) (v0 := .null) (cn := .ne) (off := 13) rfl (fun c => ?_) (fun c => ?_)
  · rw [if_pos c] at h
    refine q_lr (k := 1) (i := 0) (q := (.aload_n 0, 1, 0, 0, .null)) rfl (fun _ => rfl) l0 ?_
    refine r_s (fr' := (21, lv, [.ref 70, .ref 70])) (hp' := xW B m) (q := (.dup, 1, 0, 0, .null)) rfl (fun _ => rfl) (Nat.le_refl _) ?_
    refine r_gi (v := (m.1 70 13)) H (pc := 21) (i := _) rfl (by decide) (by decide) rfl ?_
    refine r_s (fr' := (25, lv, [.int 1, .int (m.1 70 13), .ref 70])) (hp' := xW B m) (q := (.iconst 1, 1, 0, 0, .null)) rfl (fun _ => rfl) (Nat.le_refl _) ?_
    refine r_s (fr' := (26, lv, [.int ((m.1 70 13) + 1), .ref 70])) (hp' := xW B m) (q := (.iadd, 1, 0, 0, .null)) rfl (fun _ => rfl) (Nat.le_refl _) ?_
    refine r_pi (s2 := (xu m 70 13 ((m.1 70 13) + 1))) H (pc := 26) rfl (by decide) rfl rfl ?_
    refine q_lr (k := 1) (i := 0) (q := (.aload_n 0, 1, 0, 0, .null)) rfl (fun _ => rfl) l0 ?_
    refine r_gr (c := 77) H (pc := 30) rfl (by decide) (by decide) ?_
    refine q_lr (k := 1) (i := 0) (q := (.aload_n 0, 1, 0, 0, .null)) rfl (fun _ => rfl) l0 ?_
    refine r_gi (v := (m.1 70 16)) H (pc := 34) (i := _) rfl (by decide) (by decide) rfl ?_
    refine q_li (k := 1) (i := 1) (q := (.iload_n 1, 1, 0, 0, .null)) rfl (fun _ => rfl) l1 ?_
    obtain ⟨c1, h⟩ := xif h
    refine q_as (n := 400) (s2 := (xu (xu m 70 13 ((m.1 70 13) + 1)) 77 ((m.1 70 16) : Int32).toNatClampNeg v1)) H (pc := 38) rfl (by decide) c1 rfl ?_
    refine q_lr (k := 1) (i := 0) (q := (.aload_n 0, 1, 0, 0, .null)) rfl (fun _ => rfl) l0 ?_
    refine r_s (fr' := (41, lv, [.ref 70, .ref 70])) (hp' := xW B (xu (xu m 70 13 ((m.1 70 13) + 1)) 77 ((m.1 70 16) : Int32).toNatClampNeg v1)) (q := (.dup, 1, 0, 0, .null)) rfl (fun _ => rfl) (Nat.le_refl _) ?_
    refine r_gi (v := (m.1 70 16)) H (pc := 41) (i := _) rfl (by decide) (by decide) rfl ?_
    refine r_s (fr' := (45, lv, [.int 1, .int (m.1 70 16), .ref 70])) (hp' := xW B (xu (xu m 70 13 ((m.1 70 13) + 1)) 77 ((m.1 70 16) : Int32).toNatClampNeg v1)) (q := (.iconst 1, 1, 0, 0, .null)) rfl (fun _ => rfl) (Nat.le_refl _) ?_
    refine r_s (fr' := (46, lv, [.int ((m.1 70 16) + 1), .ref 70])) (hp' := xW B (xu (xu m 70 13 ((m.1 70 13) + 1)) 77 ((m.1 70 16) : Int32).toNatClampNeg v1)) (q := (.iadd, 1, 0, 0, .null)) rfl (fun _ => rfl) (Nat.le_refl _) ?_
    refine r_pi (s2 := (xu (xu (xu m 70 13 ((m.1 70 13) + 1)) 77 ((m.1 70 16) : Int32).toNatClampNeg v1) 70 16 ((m.1 70 16) + 1))) H (pc := 46) rfl (by decide) rfl rfl ?_
    refine r_s (fr' := (50, lv, [.int 1])) (hp' := xW B (xu (xu (xu m 70 13 ((m.1 70 13) + 1)) 77 ((m.1 70 16) : Int32).toNatClampNeg v1) 70 16 ((m.1 70 16) + 1))) (q := (.iconst 1, 1, 0, 0, .null)) rfl (fun _ => rfl) (Nat.le_refl _) ?_
    obtain rfl := Option.some.inj h
    exact q_ri (q := (.ireturn, 1, 0, 0, .null)) rfl (fun _ => rfl) rfl rfl
  · rw [if_neg (by rw [c]; decide)] at h
    refine q_lr (k := 1) (i := 0) (q := (.aload_n 0, 1, 0, 0, .null)) rfl (fun _ => rfl) l0 ?_
    refine r_s (fr' := (11, lv, [.int 2, .ref 70])) (hp' := xW B m) (q := (.iconst 2, 1, 0, 0, .null)) rfl (fun _ => rfl) (Nat.le_refl _) ?_
    refine q_lr (k := 1) (i := 0) (q := (.aload_n 0, 1, 0, 0, .null)) rfl (fun _ => rfl) l0 ?_
    refine r_gi (v := (m.1 70 8)) H (pc := 12) (i := _) rfl (by decide) (by decide) rfl ?_
    obtain ⟨q15, h15, h⟩ := xbind h
    refine r_call (ix := 70) (as := [.int 2, .int (m.1 70 8)]) (rest := []) (rv := some (.int q15.1)) (hp' := xW B q15.2) (pc := 15) rfl xr163 rfl rfl rfl (xkd H (by decide)) (Nat.le_of_ble_eq_true rfl) (Z163 H h15 (by omega)) (Nat.le_refl _) ?_
    obtain ⟨c2, h⟩ := xif h
    obtain rfl := Option.some.inj h
    exact q_ri (q := (.ireturn, 1, 0, 0, .null)) rfl (fun _ => rfl) rfl (xbo_ok c2)
set_option maxRecDepth 20000 in
theorem Z174 {B : zHp} (H : yH0 B) {F : Nat} {a1 : Int32} {m : xS} {x : Int32 × xS} (h : D174 F a1 m = some x) {d : Nat} (hd : 2 ≤ d) : zCan d 174 [.ref 70, .int a1] (xW B m) (some (.int x.1), xW B x.2) := by
  obtain ⟨e, rfl⟩ : ∃ e, d = e + 1 := ⟨d - 1, by omega⟩
  refine zCan_body (nL := 2) (rt := (some .boolean)) (cd := zc174) (xg174) ⟨Nat.le_of_ble_eq_true rfl, by decide⟩ (Nat.le_refl _) ?_
  exact T174 H hd F rfl rfl h
/-- LentToolsModel.compare -/
def D180_152 (F : Nat) (v1 : Int32) (v2 : Int32) (v3 : Int32) (w0 : Int32) (m : xS) : Option (Int32 × xS) :=
  (D179 F m).bind fun q155 =>
    if zcmp .ne q155.1 0 = true then
      (D172 F (6 + w0) 0 q155.2).bind fun q170 =>
        some (1, q170.2)
    else
      some (0, q155.2)
set_option maxRecDepth 20000 in
theorem T180_152 {B : zHp} (H : yH0 B) {e : Nat} (he : 7 ≤ e + 1) (F : Nat) {v1 : Int32} {v2 : Int32} {v3 : Int32} {w0 : Int32} {lv : List (Nat × Value)} {m : xS} {x : Int32 × xS} (l0 : zld lv 0 = some (.ref 70)) (l1 : zld lv 1 = some (.int v1)) (l2 : zld lv 2 = some (.int v2)) (l3 : zld lv 3 = some (.int v3)) (h : D180_152 F v1 v2 v3 w0 m = some x) : zR none e 5 (some .boolean) zc180 (152, lv, [.int w0]) (xW B m) (some (.int x.1), xW B x.2) := by
  unfold D180_152 at h
  refine q_si (k := 2) (i := 4) (q := (.istore 4, 2, 0, 0, .null)) rfl (fun _ => rfl) (by decide) ?_
  have l0_1 : zld (zs1 lv 4 (.int w0)) 0 = some (.ref 70) := x_o1 l0 rfl rfl
  have l1_1 : zld (zs1 lv 4 (.int w0)) 1 = some (.int v1) := x_o1 l1 rfl rfl
  have l2_1 : zld (zs1 lv 4 (.int w0)) 2 = some (.int v2) := x_o1 l2 rfl rfl
  have l3_1 : zld (zs1 lv 4 (.int w0)) 3 = some (.int v3) := x_o1 l3 rfl rfl
  have l4_1 : zld (zs1 lv 4 (.int w0)) 4 = some (.int w0) := zs1_ld _ _ _
  generalize (zs1 lv 4 (.int w0)) = lv1 at *
  refine q_lr (k := 1) (i := 0) (q := (.aload_n 0, 1, 0, 0, .null)) rfl (fun _ => rfl) l0_1 ?_
  obtain ⟨q155, h155, h⟩ := xbind h
  refine r_call (ix := 70) (as := []) (rest := []) (rv := some (.int q155.1)) (hp' := xW B q155.2) (pc := 155) rfl xr179 rfl rfl rfl (xkd H (by decide)) (Nat.le_of_ble_eq_true rfl) (Z179 H h155 (by omega)) (Nat.le_refl _) ?_
  refine r_if (len := 3) (a := 163) (b := 0) (v0 := .null) (cn := .ne) (off := 5) rfl (fun c => ?_) (fun c => ?_)
  · rw [if_pos c] at h
    refine q_lr (k := 1) (i := 0) (q := (.aload_n 0, 1, 0, 0, .null)) rfl (fun _ => rfl) l0_1 ?_
    refine r_s (fr' := (166, lv1, [.int 6, .ref 70])) (hp' := xW B q155.2) (q := (.bipush 6, 2, 0, 0, .null)) rfl (fun _ => rfl) (Nat.le_refl _) ?_
    refine q_li (k := 2) (i := 4) (q := (.iload 4, 2, 0, 0, .null)) rfl (fun _ => rfl) l4_1 ?_
    refine r_s (fr' := (169, lv1, [.int (6 + w0), .ref 70])) (hp' := xW B q155.2) (q := (.iadd, 1, 0, 0, .null)) rfl (fun _ => rfl) (Nat.le_refl _) ?_
    refine r_s (fr' := (170, lv1, [.int 0, .int (6 + w0), .ref 70])) (hp' := xW B q155.2) (q := (.iconst 0, 1, 0, 0, .null)) rfl (fun _ => rfl) (Nat.le_refl _) ?_
    obtain ⟨q170, h170, h⟩ := xbind h
    refine r_call (ix := 70) (as := [.int (6 + w0), .int 0]) (rest := []) (rv := none) (hp' := xW B q170.2) (pc := 170) rfl xr172 rfl rfl rfl (xkd H (by decide)) (Nat.le_of_ble_eq_true rfl) (Z172 H h170 (by omega)) (Nat.le_refl _) ?_
    refine r_s (fr' := (174, lv1, [.int 1])) (hp' := xW B q170.2) (q := (.iconst 1, 1, 0, 0, .null)) rfl (fun _ => rfl) (Nat.le_refl _) ?_
    obtain rfl := Option.some.inj h
    exact q_ri (q := (.ireturn, 1, 0, 0, .null)) rfl (fun _ => rfl) rfl rfl
  · rw [if_neg (by rw [c]; decide)] at h
    refine r_s (fr' := (162, lv1, [.int 0])) (hp' := xW B q155.2) (q := (.iconst 0, 1, 0, 0, .null)) rfl (fun _ => rfl) (Nat.le_refl _) ?_
    obtain rfl := Option.some.inj h
    exact q_ri (q := (.ireturn, 1, 0, 0, .null)) rfl (fun _ => rfl) rfl rfl
def D180_105 (F : Nat) (v1 : Int32) (v2 : Int32) (v3 : Int32) (m : xS) : Option (Int32 × xS) :=
  (D173 F v2 m).bind fun q107 =>
    if zcmp .ne q107.1 0 = true then
      if zcmp .ne v1 60 = true then
        if zcmp .ne v1 61 = true then
          if zcmp .eq v3 0 = true then
            D180_152 F v1 v2 v3 4 q107.2
          else
            D180_152 F v1 v2 v3 3 q107.2
        else
          D180_152 F v1 v2 v3 2 q107.2
      else
        if zcmp .eq v3 0 = true then
          D180_152 F v1 v2 v3 0 q107.2
        else
          D180_152 F v1 v2 v3 1 q107.2
    else
      some (0, q107.2)
set_option maxRecDepth 20000 in
theorem T180_105 {B : zHp} (H : yH0 B) {e : Nat} (he : 7 ≤ e + 1) (F : Nat) {v1 : Int32} {v2 : Int32} {v3 : Int32} {lv : List (Nat × Value)} {m : xS} {x : Int32 × xS} (l0 : zld lv 0 = some (.ref 70)) (l1 : zld lv 1 = some (.int v1)) (l2 : zld lv 2 = some (.int v2)) (l3 : zld lv 3 = some (.int v3)) (h : D180_105 F v1 v2 v3 m = some x) : zR none e 5 (some .boolean) zc180 (105, lv, []) (xW B m) (some (.int x.1), xW B x.2) := by
  unfold D180_105 at h
  refine q_lr (k := 1) (i := 0) (q := (.aload_n 0, 1, 0, 0, .null)) rfl (fun _ => rfl) l0 ?_
  refine q_li (k := 1) (i := 2) (q := (.iload_n 2, 1, 0, 0, .null)) rfl (fun _ => rfl) l2 ?_
  obtain ⟨q107, h107, h⟩ := xbind h
  refine r_call (ix := 70) (as := [.int v2]) (rest := []) (rv := some (.int q107.1)) (hp' := xW B q107.2) (pc := 107) rfl xr173 rfl rfl rfl (xkd H (by decide)) (Nat.le_of_ble_eq_true rfl) (Z173 H h107 (by omega)) (Nat.le_refl _) ?_
  refine r_if (len := 3) (a := 115) (b := 0) (v0 := .null) (cn := .ne) (off := 5) rfl (fun c => ?_) (fun c => ?_)
  · rw [if_pos c] at h
    refine q_li (k := 1) (i := 1) (q := (.iload_n 1, 1, 0, 0, .null)) rfl (fun _ => rfl) l1 ?_
    refine r_s (fr' := (118, lv, [.int 60, .int v1])) (hp' := xW B q107.2) (q := (.bipush 60, 2, 0, 0, .null)) rfl (fun _ => rfl) (Nat.le_refl _) ?_
    refine r_ifc (len := 3) (a := 133) (b := 0) (v0 := .null) (cn := .ne) (off := 15) rfl (fun c => ?_) (fun c => ?_)
    · rw [if_pos c] at h
      refine q_li (k := 1) (i := 1) (q := (.iload_n 1, 1, 0, 0, .null)) rfl (fun _ => rfl) l1 ?_
      refine r_s (fr' := (136, lv, [.int 61, .int v1])) (hp' := xW B q107.2) (q := (.bipush 61, 2, 0, 0, .null)) rfl (fun _ => rfl) (Nat.le_refl _) ?_
      refine r_ifc (len := 3) (a := 143) (b := 0) (v0 := .null) (cn := .ne) (off := 7) rfl (fun c => ?_) (fun c => ?_)
      · rw [if_pos c] at h
        refine q_li (k := 1) (i := 3) (q := (.iload_n 3, 1, 0, 0, .null)) rfl (fun _ => rfl) l3 ?_
        refine r_if (len := 3) (a := 151) (b := 0) (v0 := .null) (cn := .eq) (off := 7) rfl (fun c => ?_) (fun c => ?_)
        · rw [if_pos c] at h
          refine r_s (fr' := (152, lv, [.int 4])) (hp' := xW B q107.2) (q := (.iconst 4, 1, 0, 0, .null)) rfl (fun _ => rfl) (Nat.le_refl _) ?_
          exact T180_152 H he F l0 l1 l2 l3 h
        · rw [if_neg (by rw [c]; decide)] at h
          refine r_s (fr' := (148, lv, [.int 3])) (hp' := xW B q107.2) (q := (.iconst 3, 1, 0, 0, .null)) rfl (fun _ => rfl) (Nat.le_refl _) ?_
          refine r_s (fr' := (152, lv, [.int 3])) (hp' := xW B q107.2) (q := (.goto 4, 3, 152, 0, .null)) rfl (fun _ => rfl) (Nat.le_refl _) ?_
          exact T180_152 H he F l0 l1 l2 l3 h
      · rw [if_neg (by rw [c]; decide)] at h
        refine r_s (fr' := (140, lv, [.int 2])) (hp' := xW B q107.2) (q := (.iconst 2, 1, 0, 0, .null)) rfl (fun _ => rfl) (Nat.le_refl _) ?_
        refine r_s (fr' := (152, lv, [.int 2])) (hp' := xW B q107.2) (q := (.goto 12, 3, 152, 0, .null)) rfl (fun _ => rfl) (Nat.le_refl _) ?_
        exact T180_152 H he F l0 l1 l2 l3 h
    · rw [if_neg (by rw [c]; decide)] at h
      refine q_li (k := 1) (i := 3) (q := (.iload_n 3, 1, 0, 0, .null)) rfl (fun _ => rfl) l3 ?_
      refine r_if (len := 3) (a := 129) (b := 0) (v0 := .null) (cn := .eq) (off := 7) rfl (fun c => ?_) (fun c => ?_)
      · rw [if_pos c] at h
        refine r_s (fr' := (130, lv, [.int 0])) (hp' := xW B q107.2) (q := (.iconst 0, 1, 0, 0, .null)) rfl (fun _ => rfl) (Nat.le_refl _) ?_
        refine r_s (fr' := (152, lv, [.int 0])) (hp' := xW B q107.2) (q := (.goto 22, 3, 152, 0, .null)) rfl (fun _ => rfl) (Nat.le_refl _) ?_
        exact T180_152 H he F l0 l1 l2 l3 h
      · rw [if_neg (by rw [c]; decide)] at h
        refine r_s (fr' := (126, lv, [.int 1])) (hp' := xW B q107.2) (q := (.iconst 1, 1, 0, 0, .null)) rfl (fun _ => rfl) (Nat.le_refl _) ?_
        refine r_s (fr' := (152, lv, [.int 1])) (hp' := xW B q107.2) (q := (.goto 26, 3, 152, 0, .null)) rfl (fun _ => rfl) (Nat.le_refl _) ?_
        exact T180_152 H he F l0 l1 l2 l3 h
  · rw [if_neg (by rw [c]; decide)] at h
    refine r_s (fr' := (114, lv, [.int 0])) (hp' := xW B q107.2) (q := (.iconst 0, 1, 0, 0, .null)) rfl (fun _ => rfl) (Nat.le_refl _) ?_
    obtain rfl := Option.some.inj h
    exact q_ri (q := (.ireturn, 1, 0, 0, .null)) rfl (fun _ => rfl) rfl rfl
def D180_90 (F : Nat) (v1 : Int32) (v2 : Int32) (w0 : Int32) (m : xS) : Option (Int32 × xS) :=
  if zcmp .eq w0 0 = true then
    D180_105 F v1 v2 w0 m
  else
    D180_105 F v1 v2 w0 (xu m 70 8 ((m.1 70 8) + 1))
set_option maxRecDepth 20000 in
theorem T180_90 {B : zHp} (H : yH0 B) {e : Nat} (he : 7 ≤ e + 1) (F : Nat) {v1 : Int32} {v2 : Int32} {w0 : Int32} {lv : List (Nat × Value)} {m : xS} {x : Int32 × xS} (l0 : zld lv 0 = some (.ref 70)) (l1 : zld lv 1 = some (.int v1)) (l2 : zld lv 2 = some (.int v2)) (h : D180_90 F v1 v2 w0 m = some x) : zR none e 5 (some .boolean) zc180 (90, lv, [.int w0]) (xW B m) (some (.int x.1), xW B x.2) := by
  unfold D180_90 at h
  refine q_si (k := 1) (i := 3) (q := (.istore_n 3, 1, 0, 0, .null)) rfl (fun _ => rfl) (by decide) ?_
  have l0_1 : zld (zs1 lv 3 (.int w0)) 0 = some (.ref 70) := x_o1 l0 rfl rfl
  have l1_1 : zld (zs1 lv 3 (.int w0)) 1 = some (.int v1) := x_o1 l1 rfl rfl
  have l2_1 : zld (zs1 lv 3 (.int w0)) 2 = some (.int v2) := x_o1 l2 rfl rfl
  have l3_1 : zld (zs1 lv 3 (.int w0)) 3 = some (.int w0) := zs1_ld _ _ _
  generalize (zs1 lv 3 (.int w0)) = lv1 at *
  refine q_li (k := 1) (i := 3) (q := (.iload_n 3, 1, 0, 0, .null)) rfl (fun _ => rfl) l3_1 ?_
  refine r_if (len := 3) (a := 105) (b := 0) (v0 := .null) (cn := .eq) (off := 13) rfl (fun c => ?_) (fun c => ?_)
  · rw [if_pos c] at h
    exact T180_105 H he F l0_1 l1_1 l2_1 l3_1 h
  · rw [if_neg (by rw [c]; decide)] at h
    refine q_lr (k := 1) (i := 0) (q := (.aload_n 0, 1, 0, 0, .null)) rfl (fun _ => rfl) l0_1 ?_
    refine r_s (fr' := (97, lv1, [.ref 70, .ref 70])) (hp' := xW B m) (q := (.dup, 1, 0, 0, .null)) rfl (fun _ => rfl) (Nat.le_refl _) ?_
    refine r_gi (v := (m.1 70 8)) H (pc := 97) (i := _) rfl (by decide) (by decide) rfl ?_
    refine r_s (fr' := (101, lv1, [.int 1, .int (m.1 70 8), .ref 70])) (hp' := xW B m) (q := (.iconst 1, 1, 0, 0, .null)) rfl (fun _ => rfl) (Nat.le_refl _) ?_
    refine r_s (fr' := (102, lv1, [.int ((m.1 70 8) + 1), .ref 70])) (hp' := xW B m) (q := (.iadd, 1, 0, 0, .null)) rfl (fun _ => rfl) (Nat.le_refl _) ?_
    refine r_pi (s2 := (xu m 70 8 ((m.1 70 8) + 1))) H (pc := 102) rfl (by decide) rfl rfl ?_
    exact T180_105 H he F l0_1 l1_1 l2_1 l3_1 h
def D180_89 (F : Nat) (v1 : Int32) (v2 : Int32) (m : xS) : Option (Int32 × xS) :=
  D180_90 F v1 v2 0 m
set_option maxRecDepth 20000 in
theorem T180_89 {B : zHp} (H : yH0 B) {e : Nat} (he : 7 ≤ e + 1) (F : Nat) {v1 : Int32} {v2 : Int32} {lv : List (Nat × Value)} {m : xS} {x : Int32 × xS} (l0 : zld lv 0 = some (.ref 70)) (l1 : zld lv 1 = some (.int v1)) (l2 : zld lv 2 = some (.int v2)) (h : D180_89 F v1 v2 m = some x) : zR none e 5 (some .boolean) zc180 (89, lv, []) (xW B m) (some (.int x.1), xW B x.2) := by
  unfold D180_89 at h
  refine r_s (fr' := (90, lv, [.int 0])) (hp' := xW B m) (q := (.iconst 0, 1, 0, 0, .null)) rfl (fun _ => rfl) (Nat.le_refl _) ?_
  exact T180_90 H he F l0 l1 l2 h
def D180_44 (F : Nat) (v1 : Int32) (v2 : Int32) (m : xS) : Option (Int32 × xS) :=
  if zcmp .eq v1 61 = true then
    D180_89 F v1 v2 (xu m 70 8 ((m.1 70 8) + 1))
  else
    if zcmp .ge ((m.1 70 8) + 1) (m.1 70 1) = true then
      D180_89 F v1 v2 (xu m 70 8 ((m.1 70 8) + 1))
    else
      if xib ((m.1 70 8) + 1) 400 = true then
        if zcmp .ne (m.1 71 (((m.1 70 8) + 1) : Int32).toNatClampNeg) 61 = true then
          D180_89 F v1 v2 (xu m 70 8 ((m.1 70 8) + 1))
        else
          D180_90 F v1 v2 1 (xu m 70 8 ((m.1 70 8) + 1))
      else none
set_option maxRecDepth 20000 in
theorem T180_44 {B : zHp} (H : yH0 B) {e : Nat} (he : 7 ≤ e + 1) (F : Nat) {v1 : Int32} {v2 : Int32} {lv : List (Nat × Value)} {m : xS} {x : Int32 × xS} (l0 : zld lv 0 = some (.ref 70)) (l1 : zld lv 1 = some (.int v1)) (l2 : zld lv 2 = some (.int v2)) (h : D180_44 F v1 v2 m = some x) : zR none e 5 (some .boolean) zc180 (44, lv, []) (xW B m) (some (.int x.1), xW B x.2) := by
  unfold D180_44 at h
  refine q_lr (k := 1) (i := 0) (q := (.aload_n 0, 1, 0, 0, .null)) rfl (fun _ => rfl) l0 ?_
  refine r_s (fr' := (46, lv, [.ref 70, .ref 70])) (hp' := xW B m) (q := (.dup, 1, 0, 0, .null)) rfl (fun _ => rfl) (Nat.le_refl _) ?_
  refine r_gi (v := (m.1 70 8)) H (pc := 46) (i := _) rfl (by decide) (by decide) rfl ?_
  refine r_s (fr' := (50, lv, [.int 1, .int (m.1 70 8), .ref 70])) (hp' := xW B m) (q := (.iconst 1, 1, 0, 0, .null)) rfl (fun _ => rfl) (Nat.le_refl _) ?_
  refine r_s (fr' := (51, lv, [.int ((m.1 70 8) + 1), .ref 70])) (hp' := xW B m) (q := (.iadd, 1, 0, 0, .null)) rfl (fun _ => rfl) (Nat.le_refl _) ?_
  refine r_pi (s2 := (xu m 70 8 ((m.1 70 8) + 1))) H (pc := 51) rfl (by decide) rfl rfl ?_
  refine q_li (k := 1) (i := 1) (q := (.iload_n 1, 1, 0, 0, .null)) rfl (fun _ => rfl) l1 ?_
  refine r_s (fr' := (57, lv, [.int 61, .int v1])) (hp' := xW B (xu m 70 8 ((m.1 70 8) + 1))) (q := (.bipush 61, 2, 0, 0, .null)) rfl (fun _ => rfl) (Nat.le_refl _) ?_
  refine r_ifc (len := 3) (a := 89) (b := 0) (v0 := .null) (cn := .eq) (off := 32) rfl (fun c => ?_) (fun c => ?_)
  · rw [if_pos c] at h
    exact T180_89 H he F l0 l1 l2 h
  · rw [if_neg (by rw [c]; decide)] at h
    refine q_lr (k := 1) (i := 0) (q := (.aload_n 0, 1, 0, 0, .null)) rfl (fun _ => rfl) l0 ?_
    refine r_gi (v := ((m.1 70 8) + 1)) H (pc := 61) (i := _) rfl (by decide) (by decide) rfl ?_
    refine q_lr (k := 1) (i := 0) (q := (.aload_n 0, 1, 0, 0, .null)) rfl (fun _ => rfl) l0 ?_
    refine r_gi (v := (m.1 70 1)) H (pc := 65) (i := _) rfl (by decide) (by decide) rfl ?_
    refine r_ifc (len := 3) (a := 89) (b := 0) (v0 := .null) (cn := .ge) (off := 21) rfl (fun c => ?_) (fun c => ?_)
    · rw [if_pos c] at h
      exact T180_89 H he F l0 l1 l2 h
    · rw [if_neg (by rw [c]; decide)] at h
      refine q_lr (k := 1) (i := 0) (q := (.aload_n 0, 1, 0, 0, .null)) rfl (fun _ => rfl) l0 ?_
      refine r_gr (c := 71) H (pc := 72) rfl (by decide) (by decide) ?_
      refine q_lr (k := 1) (i := 0) (q := (.aload_n 0, 1, 0, 0, .null)) rfl (fun _ => rfl) l0 ?_
      refine r_gi (v := ((m.1 70 8) + 1)) H (pc := 76) (i := _) rfl (by decide) (by decide) rfl ?_
      obtain ⟨c1, h⟩ := xif h
      refine q_bl (n := 400) (v := (m.1 71 (((m.1 70 8) + 1) : Int32).toNatClampNeg)) (k := 1) H (pc := 79) rfl (by decide) (by decide) c1 rfl ?_
      refine r_s (fr' := (82, lv, [.int 61, .int (m.1 71 (((m.1 70 8) + 1) : Int32).toNatClampNeg)])) (hp' := xW B (xu m 70 8 ((m.1 70 8) + 1))) (q := (.bipush 61, 2, 0, 0, .null)) rfl (fun _ => rfl) (Nat.le_refl _) ?_
      refine r_ifc (len := 3) (a := 89) (b := 0) (v0 := .null) (cn := .ne) (off := 7) rfl (fun c => ?_) (fun c => ?_)
      · rw [if_pos c] at h
        exact T180_89 H he F l0 l1 l2 h
      · rw [if_neg (by rw [c]; decide)] at h
        refine r_s (fr' := (86, lv, [.int 1])) (hp' := xW B (xu m 70 8 ((m.1 70 8) + 1))) (q := (.iconst 1, 1, 0, 0, .null)) rfl (fun _ => rfl) (Nat.le_refl _) ?_
        refine r_s (fr' := (90, lv, [.int 1])) (hp' := xW B (xu m 70 8 ((m.1 70 8) + 1))) (q := (.goto 4, 3, 90, 0, .null)) rfl (fun _ => rfl) (Nat.le_refl _) ?_
        exact T180_90 H he F l0 l1 l2 h
def D180 (F : Nat) (m : xS) : Option (Int32 × xS) :=
  (D179 F m).bind fun q1 =>
    if zcmp .ne q1.1 0 = true then
      (D164 F q1.2).bind fun q10 =>
        if zcmp .eq q10.1 60 = true then
          D180_44 F q10.1 (q10.2.1 70 8) q10.2
        else
          if zcmp .eq q10.1 61 = true then
            D180_44 F q10.1 (q10.2.1 70 8) q10.2
          else
            if zcmp .eq q10.1 62 = true then
              D180_44 F q10.1 (q10.2.1 70 8) q10.2
            else
              (D163 F 0 (q10.2.1 70 8) q10.2).bind fun q40 =>
                if xbo q40.1 = true then
                  some (q40.1, q40.2)
                else none
    else
      some (0, q1.2)
set_option maxRecDepth 20000 in
theorem T180 {B : zHp} (H : yH0 B) {e : Nat} (he : 7 ≤ e + 1) (F : Nat) {lv : List (Nat × Value)} {m : xS} {x : Int32 × xS} (l0 : zld lv 0 = some (.ref 70)) (h : D180 F m = some x) : zR none e 5 (some .boolean) zc180 (0, lv, []) (xW B m) (some (.int x.1), xW B x.2) := by
  unfold D180 at h
  refine q_lr (k := 1) (i := 0) (q := (.aload_n 0, 1, 0, 0, .null)) rfl (fun _ => rfl) l0 ?_
  obtain ⟨q1, h1, h⟩ := xbind h
  refine r_call (ix := 70) (as := []) (rest := []) (rv := some (.int q1.1)) (hp' := xW B q1.2) (pc := 1) rfl xr179 rfl rfl rfl (xkd H (by decide)) (Nat.le_of_ble_eq_true rfl) (Z179 H h1 (by omega)) (Nat.le_refl _) ?_
  refine r_if (len := 3) (a := 9) (b := 0) (v0 := .null) (cn := .ne) (off := 5) rfl (fun c => ?_) (fun c => ?_)
  · rw [if_pos c] at h
    refine q_lr (k := 1) (i := 0) (q := (.aload_n 0, 1, 0, 0, .null)) rfl (fun _ => rfl) l0 ?_
    obtain ⟨q10, h10, h⟩ := xbind h
    refine r_call (ix := 70) (as := []) (rest := []) (rv := some (.int q10.1)) (hp' := xW B q10.2) (pc := 10) rfl xr164 rfl rfl rfl (xkd H (by decide)) (Nat.le_of_ble_eq_true rfl) (Z164 H h10 (by omega)) (Nat.le_refl _) ?_
    refine q_si (k := 1) (i := 1) (q := (.istore_n 1, 1, 0, 0, .null)) rfl (fun _ => rfl) (by decide) ?_
    have l0_1 : zld (zs1 lv 1 (.int q10.1)) 0 = some (.ref 70) := x_o1 l0 rfl rfl
    have l1_1 : zld (zs1 lv 1 (.int q10.1)) 1 = some (.int q10.1) := zs1_ld _ _ _
    generalize (zs1 lv 1 (.int q10.1)) = lv1 at *
    refine q_lr (k := 1) (i := 0) (q := (.aload_n 0, 1, 0, 0, .null)) rfl (fun _ => rfl) l0_1 ?_
    refine r_gi (v := (q10.2.1 70 8)) H (pc := 15) (i := _) rfl (by decide) (by decide) rfl ?_
    refine q_si (k := 1) (i := 2) (q := (.istore_n 2, 1, 0, 0, .null)) rfl (fun _ => rfl) (by decide) ?_
    have l0_2 : zld (zs1 lv1 2 (.int (q10.2.1 70 8))) 0 = some (.ref 70) := x_o1 l0_1 rfl rfl
    have l1_2 : zld (zs1 lv1 2 (.int (q10.2.1 70 8))) 1 = some (.int q10.1) := x_o1 l1_1 rfl rfl
    have l2_2 : zld (zs1 lv1 2 (.int (q10.2.1 70 8))) 2 = some (.int (q10.2.1 70 8)) := zs1_ld _ _ _
    generalize (zs1 lv1 2 (.int (q10.2.1 70 8))) = lv2 at *
    refine q_li (k := 1) (i := 1) (q := (.iload_n 1, 1, 0, 0, .null)) rfl (fun _ => rfl) l1_2 ?_
    refine r_s (fr' := (22, lv2, [.int 60, .int q10.1])) (hp' := xW B q10.2) (q := (.bipush 60, 2, 0, 0, .null)) rfl (fun _ => rfl) (Nat.le_refl _) ?_
    refine r_ifc (len := 3) (a := 44) (b := 0) (v0 := .null) (cn := .eq) (off := 22) rfl (fun c => ?_) (fun c => ?_)
    · rw [if_pos c] at h
      exact T180_44 H he F l0_2 l1_2 l2_2 h
    · rw [if_neg (by rw [c]; decide)] at h
      refine q_li (k := 1) (i := 1) (q := (.iload_n 1, 1, 0, 0, .null)) rfl (fun _ => rfl) l1_2 ?_
      refine r_s (fr' := (28, lv2, [.int 61, .int q10.1])) (hp' := xW B q10.2) (q := (.bipush 61, 2, 0, 0, .null)) rfl (fun _ => rfl) (Nat.le_refl _) ?_
      refine r_ifc (len := 3) (a := 44) (b := 0) (v0 := .null) (cn := .eq) (off := 16) rfl (fun c => ?_) (fun c => ?_)
      · rw [if_pos c] at h
        exact T180_44 H he F l0_2 l1_2 l2_2 h
      · rw [if_neg (by rw [c]; decide)] at h
        refine q_li (k := 1) (i := 1) (q := (.iload_n 1, 1, 0, 0, .null)) rfl (fun _ => rfl) l1_2 ?_
        refine r_s (fr' := (34, lv2, [.int 62, .int q10.1])) (hp' := xW B q10.2) (q := (.bipush 62, 2, 0, 0, .null)) rfl (fun _ => rfl) (Nat.le_refl _) ?_
        refine r_ifc (len := 3) (a := 44) (b := 0) (v0 := .null) (cn := .eq) (off := 10) rfl (fun c => ?_) (fun c => ?_)
        · rw [if_pos c] at h
          exact T180_44 H he F l0_2 l1_2 l2_2 h
        · rw [if_neg (by rw [c]; decide)] at h
          refine q_lr (k := 1) (i := 0) (q := (.aload_n 0, 1, 0, 0, .null)) rfl (fun _ => rfl) l0_2 ?_
          refine r_s (fr' := (39, lv2, [.int 0, .ref 70])) (hp' := xW B q10.2) (q := (.iconst 0, 1, 0, 0, .null)) rfl (fun _ => rfl) (Nat.le_refl _) ?_
          refine q_li (k := 1) (i := 2) (q := (.iload_n 2, 1, 0, 0, .null)) rfl (fun _ => rfl) l2_2 ?_
          obtain ⟨q40, h40, h⟩ := xbind h
          refine r_call (ix := 70) (as := [.int 0, .int (q10.2.1 70 8)]) (rest := []) (rv := some (.int q40.1)) (hp' := xW B q40.2) (pc := 40) rfl xr163 rfl rfl rfl (xkd H (by decide)) (Nat.le_of_ble_eq_true rfl) (Z163 H h40 (by omega)) (Nat.le_refl _) ?_
          obtain ⟨c3, h⟩ := xif h
          obtain rfl := Option.some.inj h
          exact q_ri (q := (.ireturn, 1, 0, 0, .null)) rfl (fun _ => rfl) rfl (xbo_ok c3)
  · rw [if_neg (by rw [c]; decide)] at h
    refine r_s (fr' := (8, lv, [.int 0])) (hp' := xW B q1.2) (q := (.iconst 0, 1, 0, 0, .null)) rfl (fun _ => rfl) (Nat.le_refl _) ?_
    obtain rfl := Option.some.inj h
    exact q_ri (q := (.ireturn, 1, 0, 0, .null)) rfl (fun _ => rfl) rfl rfl
set_option maxRecDepth 20000 in
theorem Z180 {B : zHp} (H : yH0 B) {F : Nat} {m : xS} {x : Int32 × xS} (h : D180 F m = some x) {d : Nat} (hd : 7 ≤ d) : zCan d 180 [.ref 70] (xW B m) (some (.int x.1), xW B x.2) := by
  obtain ⟨e, rfl⟩ : ∃ e, d = e + 1 := ⟨d - 1, by omega⟩
  refine zCan_body (nL := 5) (rt := (some .boolean)) (cd := zc180) (xg180) ⟨Nat.le_of_ble_eq_true rfl, by decide⟩ (Nat.le_refl _) ?_
  exact T180 H hd F rfl h
/-- LentToolsModel.fact -/
def D181_72 (F : Nat) (g2 : Int32 → xS → Option (Int32 × xS)) (v1 : Int32) (v2 : Int32) (m : xS) : Option (Int32 × xS) :=
  g2 v1 m
set_option maxRecDepth 20000 in
theorem T181_72 {B : zHp} (H : yH0 B) {e : Nat} (he : 8 ≤ e + 1) (F : Nat) (g2 : Int32 → xS → Option (Int32 × xS)) (k2 : ∀ {v1 : Int32} {lv : List (Nat × Value)} {m : xS} {x : Int32 × xS}, zld lv 0 = some (.ref 70) → zld lv 1 = some (.int v1) → g2 v1 m = some x → zR none e 3 (some .boolean) zc181 (2, lv, []) (xW B m) (some (.int x.1), xW B x.2)) {v1 : Int32} {v2 : Int32} {lv : List (Nat × Value)} {m : xS} {x : Int32 × xS} (l0 : zld lv 0 = some (.ref 70)) (l1 : zld lv 1 = some (.int v1)) (l2 : zld lv 2 = some (.int v2)) (h : D181_72 F g2 v1 v2 m = some x) : zR none e 3 (some .boolean) zc181 (72, lv, []) (xW B m) (some (.int x.1), xW B x.2) := by
  unfold D181_72 at h
  refine r_s (fr' := (2, lv, [])) (hp' := xW B m) (q := (.goto (-70), 3, 2, 0, .null)) rfl (fun _ => rfl) (Nat.le_refl _) ?_
  exact k2 l0 l1 h
def D181_2 (F : Nat) : Nat → Int32 → xS → Option (Int32 × xS)
  | 0, _, _ => none
  | f + 1, v1, m =>
    if zcmp .eq v1 0 = true then
      (D180 F m).bind fun q76 =>
        if xbo q76.1 = true then
          some (q76.1, q76.2)
        else none
    else
      (D164 F m).bind fun q9 =>
        (D167 F 7237492 q9.2).bind fun q17 =>
          if zcmp .eq q17.1 0 = true then
            if zcmp .ne q9.1 91 = true then
              D181_72 F (D181_2 F f) 0 q9.1 q17.2
            else
              (D174 F 91 q17.2).bind fun q52 =>
                if zcmp .ne q52.1 0 = true then
                  D181_72 F (D181_2 F f) 1 q9.1 (xu q52.2 70 8 ((q52.2.1 70 8) + 1))
                else
                  some (0, q52.2)
          else
            (D174 F 11 q17.2).bind fun q26 =>
              if zcmp .ne q26.1 0 = true then
                (D168 F q26.2).bind fun q35 =>
                  D181_72 F (D181_2 F f) 1 q9.1 q35.2
              else
                some (0, q26.2)
set_option maxRecDepth 20000 in
theorem T181_2 {B : zHp} (H : yH0 B) {e : Nat} (he : 8 ≤ e + 1) (F : Nat) : ∀ (f : Nat) {v1 : Int32} {lv : List (Nat × Value)} {m : xS} {x : Int32 × xS}, zld lv 0 = some (.ref 70) → zld lv 1 = some (.int v1) → D181_2 F f v1 m = some x → zR none e 3 (some .boolean) zc181 (2, lv, []) (xW B m) (some (.int x.1), xW B x.2) := by
  intro f
  induction f with
  | zero => intro v1 lv m x l0 l1 h; cases h
  | succ f ih =>
    intro v1 lv m x l0 l1 h
    unfold D181_2 at h
    refine q_li (k := 1) (i := 1) (q := (.iload_n 1, 1, 0, 0, .null)) rfl (fun _ => rfl) l1 ?_
    refine r_if (len := 3) (a := 75) (b := 0) (v0 := .null) (cn := .eq) (off := 72) rfl (fun c => ?_) (fun c => ?_)
    · rw [if_pos c] at h
      refine q_lr (k := 1) (i := 0) (q := (.aload_n 0, 1, 0, 0, .null)) rfl (fun _ => rfl) l0 ?_
      obtain ⟨q76, h76, h⟩ := xbind h
      refine r_call (ix := 70) (as := []) (rest := []) (rv := some (.int q76.1)) (hp' := xW B q76.2) (pc := 76) rfl xr180 rfl rfl rfl (xkd H (by decide)) (Nat.le_of_ble_eq_true rfl) (Z180 H h76 (by omega)) (Nat.le_refl _) ?_
      obtain ⟨c1, h⟩ := xif h
      obtain rfl := Option.some.inj h
      exact q_ri (q := (.ireturn, 1, 0, 0, .null)) rfl (fun _ => rfl) rfl (xbo_ok c1)
    · rw [if_neg (by rw [c]; decide)] at h
      refine r_s (fr' := (7, lv, [.int 0])) (hp' := xW B m) (q := (.iconst 0, 1, 0, 0, .null)) rfl (fun _ => rfl) (Nat.le_refl _) ?_
      refine q_si (k := 1) (i := 1) (q := (.istore_n 1, 1, 0, 0, .null)) rfl (fun _ => rfl) (by decide) ?_
      have l0_2 : zld (zs1 lv 1 (.int 0)) 0 = some (.ref 70) := x_o1 l0 rfl rfl
      have l1_2 : zld (zs1 lv 1 (.int 0)) 1 = some (.int 0) := zs1_ld _ _ _
      generalize (zs1 lv 1 (.int 0)) = lv2 at *
      refine q_lr (k := 1) (i := 0) (q := (.aload_n 0, 1, 0, 0, .null)) rfl (fun _ => rfl) l0_2 ?_
      obtain ⟨q9, h9, h⟩ := xbind h
      refine r_call (ix := 70) (as := []) (rest := []) (rv := some (.int q9.1)) (hp' := xW B q9.2) (pc := 9) rfl xr164 rfl rfl rfl (xkd H (by decide)) (Nat.le_of_ble_eq_true rfl) (Z164 H h9 (by omega)) (Nat.le_refl _) ?_
      refine q_si (k := 1) (i := 2) (q := (.istore_n 2, 1, 0, 0, .null)) rfl (fun _ => rfl) (by decide) ?_
      have l0_3 : zld (zs1 lv2 2 (.int q9.1)) 0 = some (.ref 70) := x_o1 l0_2 rfl rfl
      have l1_3 : zld (zs1 lv2 2 (.int q9.1)) 1 = some (.int 0) := x_o1 l1_2 rfl rfl
      have l2_3 : zld (zs1 lv2 2 (.int q9.1)) 2 = some (.int q9.1) := zs1_ld _ _ _
      generalize (zs1 lv2 2 (.int q9.1)) = lv3 at *
      refine q_lr (k := 1) (i := 0) (q := (.aload_n 0, 1, 0, 0, .null)) rfl (fun _ => rfl) l0_3 ?_
      refine r_s (fr' := (17, lv3, [.long 7237492, .ref 70])) (hp' := xW B q9.2) (q := (.ldc2_w 173, 3, 0, 0, .long 7237492)) rfl (fun _ => rfl) (Nat.le_refl _) ?_
      obtain ⟨q17, h17, h⟩ := xbind h
      refine r_call (ix := 70) (as := [.long 7237492]) (rest := []) (rv := some (.int q17.1)) (hp' := xW B q17.2) (pc := 17) rfl xr167 rfl rfl rfl (xkd H (by decide)) (Nat.le_of_ble_eq_true rfl) (Z167 H h17 (by omega)) (Nat.le_refl _) ?_
      refine r_if (len := 3) (a := 43) (b := 0) (v0 := .null) (cn := .eq) (off := 23) rfl (fun c => ?_) (fun c => ?_)
      · rw [if_pos c] at h
        refine q_li (k := 1) (i := 2) (q := (.iload_n 2, 1, 0, 0, .null)) rfl (fun _ => rfl) l2_3 ?_
        refine r_s (fr' := (46, lv3, [.int 91, .int q9.1])) (hp' := xW B q17.2) (q := (.bipush 91, 2, 0, 0, .null)) rfl (fun _ => rfl) (Nat.le_refl _) ?_
        refine r_ifc (len := 3) (a := 72) (b := 0) (v0 := .null) (cn := .ne) (off := 26) rfl (fun c => ?_) (fun c => ?_)
        · rw [if_pos c] at h
          exact T181_72 H he F _ ih l0_3 l1_3 l2_3 h
        · rw [if_neg (by rw [c]; decide)] at h
          refine q_lr (k := 1) (i := 0) (q := (.aload_n 0, 1, 0, 0, .null)) rfl (fun _ => rfl) l0_3 ?_
          refine r_s (fr' := (52, lv3, [.int 91, .ref 70])) (hp' := xW B q17.2) (q := (.bipush 91, 2, 0, 0, .null)) rfl (fun _ => rfl) (Nat.le_refl _) ?_
          obtain ⟨q52, h52, h⟩ := xbind h
          refine r_call (ix := 70) (as := [.int 91]) (rest := []) (rv := some (.int q52.1)) (hp' := xW B q52.2) (pc := 52) rfl xr174 rfl rfl rfl (xkd H (by decide)) (Nat.le_of_ble_eq_true rfl) (Z174 H h52 (by omega)) (Nat.le_refl _) ?_
          refine r_if (len := 3) (a := 60) (b := 0) (v0 := .null) (cn := .ne) (off := 5) rfl (fun c => ?_) (fun c => ?_)
          · rw [if_pos c] at h
            refine q_lr (k := 1) (i := 0) (q := (.aload_n 0, 1, 0, 0, .null)) rfl (fun _ => rfl) l0_3 ?_
            refine r_s (fr' := (62, lv3, [.ref 70, .ref 70])) (hp' := xW B q52.2) (q := (.dup, 1, 0, 0, .null)) rfl (fun _ => rfl) (Nat.le_refl _) ?_
            refine r_gi (v := (q52.2.1 70 8)) H (pc := 62) (i := _) rfl (by decide) (by decide) rfl ?_
            refine r_s (fr' := (66, lv3, [.int 1, .int (q52.2.1 70 8), .ref 70])) (hp' := xW B q52.2) (q := (.iconst 1, 1, 0, 0, .null)) rfl (fun _ => rfl) (Nat.le_refl _) ?_
            refine r_s (fr' := (67, lv3, [.int ((q52.2.1 70 8) + 1), .ref 70])) (hp' := xW B q52.2) (q := (.iadd, 1, 0, 0, .null)) rfl (fun _ => rfl) (Nat.le_refl _) ?_
            refine r_pi (s2 := (xu q52.2 70 8 ((q52.2.1 70 8) + 1))) H (pc := 67) rfl (by decide) rfl rfl ?_
            refine r_s (fr' := (71, lv3, [.int 1])) (hp' := xW B (xu q52.2 70 8 ((q52.2.1 70 8) + 1))) (q := (.iconst 1, 1, 0, 0, .null)) rfl (fun _ => rfl) (Nat.le_refl _) ?_
            refine q_si (k := 1) (i := 1) (q := (.istore_n 1, 1, 0, 0, .null)) rfl (fun _ => rfl) (by decide) ?_
            have l0_4 : zld (zs1 lv3 1 (.int 1)) 0 = some (.ref 70) := x_o1 l0_3 rfl rfl
            have l1_4 : zld (zs1 lv3 1 (.int 1)) 1 = some (.int 1) := zs1_ld _ _ _
            have l2_4 : zld (zs1 lv3 1 (.int 1)) 2 = some (.int q9.1) := x_o1 l2_3 rfl rfl
            generalize (zs1 lv3 1 (.int 1)) = lv4 at *
            exact T181_72 H he F _ ih l0_4 l1_4 l2_4 h
          · rw [if_neg (by rw [c]; decide)] at h
            refine r_s (fr' := (59, lv3, [.int 0])) (hp' := xW B q52.2) (q := (.iconst 0, 1, 0, 0, .null)) rfl (fun _ => rfl) (Nat.le_refl _) ?_
            obtain rfl := Option.some.inj h
            exact q_ri (q := (.ireturn, 1, 0, 0, .null)) rfl (fun _ => rfl) rfl rfl
      · rw [if_neg (by rw [c]; decide)] at h
        refine q_lr (k := 1) (i := 0) (q := (.aload_n 0, 1, 0, 0, .null)) rfl (fun _ => rfl) l0_3 ?_
        refine r_s (fr' := (26, lv3, [.int 11, .ref 70])) (hp' := xW B q17.2) (q := (.bipush 11, 2, 0, 0, .null)) rfl (fun _ => rfl) (Nat.le_refl _) ?_
        obtain ⟨q26, h26, h⟩ := xbind h
        refine r_call (ix := 70) (as := [.int 11]) (rest := []) (rv := some (.int q26.1)) (hp' := xW B q26.2) (pc := 26) rfl xr174 rfl rfl rfl (xkd H (by decide)) (Nat.le_of_ble_eq_true rfl) (Z174 H h26 (by omega)) (Nat.le_refl _) ?_
        refine r_if (len := 3) (a := 34) (b := 0) (v0 := .null) (cn := .ne) (off := 5) rfl (fun c => ?_) (fun c => ?_)
        · rw [if_pos c] at h
          refine q_lr (k := 1) (i := 0) (q := (.aload_n 0, 1, 0, 0, .null)) rfl (fun _ => rfl) l0_3 ?_
          obtain ⟨q35, h35, h⟩ := xbind h
          refine r_call (ix := 70) (as := []) (rest := []) (rv := none) (hp' := xW B q35.2) (pc := 35) rfl xr168 rfl rfl rfl (xkd H (by decide)) (Nat.le_of_ble_eq_true rfl) (Z168 H h35 (by omega)) (Nat.le_refl _) ?_
          refine r_s (fr' := (39, lv3, [.int 1])) (hp' := xW B q35.2) (q := (.iconst 1, 1, 0, 0, .null)) rfl (fun _ => rfl) (Nat.le_refl _) ?_
          refine q_si (k := 1) (i := 1) (q := (.istore_n 1, 1, 0, 0, .null)) rfl (fun _ => rfl) (by decide) ?_
          have l0_5 : zld (zs1 lv3 1 (.int 1)) 0 = some (.ref 70) := x_o1 l0_3 rfl rfl
          have l1_5 : zld (zs1 lv3 1 (.int 1)) 1 = some (.int 1) := zs1_ld _ _ _
          have l2_5 : zld (zs1 lv3 1 (.int 1)) 2 = some (.int q9.1) := x_o1 l2_3 rfl rfl
          generalize (zs1 lv3 1 (.int 1)) = lv5 at *
          refine r_s (fr' := (72, lv5, [])) (hp' := xW B q35.2) (q := (.goto 32, 3, 72, 0, .null)) rfl (fun _ => rfl) (Nat.le_refl _) ?_
          exact T181_72 H he F _ ih l0_5 l1_5 l2_5 h
        · rw [if_neg (by rw [c]; decide)] at h
          refine r_s (fr' := (33, lv3, [.int 0])) (hp' := xW B q26.2) (q := (.iconst 0, 1, 0, 0, .null)) rfl (fun _ => rfl) (Nat.le_refl _) ?_
          obtain rfl := Option.some.inj h
          exact q_ri (q := (.ireturn, 1, 0, 0, .null)) rfl (fun _ => rfl) rfl rfl
def D181 (F : Nat) (m : xS) : Option (Int32 × xS) :=
  D181_2 F F 1 m
set_option maxRecDepth 20000 in
theorem T181 {B : zHp} (H : yH0 B) {e : Nat} (he : 8 ≤ e + 1) (F : Nat) {lv : List (Nat × Value)} {m : xS} {x : Int32 × xS} (l0 : zld lv 0 = some (.ref 70)) (h : D181 F m = some x) : zR none e 3 (some .boolean) zc181 (0, lv, []) (xW B m) (some (.int x.1), xW B x.2) := by
  unfold D181 at h
  refine r_s (fr' := (1, lv, [.int 1])) (hp' := xW B m) (q := (.iconst 1, 1, 0, 0, .null)) rfl (fun _ => rfl) (Nat.le_refl _) ?_
  refine q_si (k := 1) (i := 1) (q := (.istore_n 1, 1, 0, 0, .null)) rfl (fun _ => rfl) (by decide) ?_
  have l0_1 : zld (zs1 lv 1 (.int 1)) 0 = some (.ref 70) := x_o1 l0 rfl rfl
  have l1_1 : zld (zs1 lv 1 (.int 1)) 1 = some (.int 1) := zs1_ld _ _ _
  generalize (zs1 lv 1 (.int 1)) = lv1 at *
  exact T181_2 H he F F l0_1 l1_1 h
set_option maxRecDepth 20000 in
theorem Z181 {B : zHp} (H : yH0 B) {F : Nat} {m : xS} {x : Int32 × xS} (h : D181 F m = some x) {d : Nat} (hd : 8 ≤ d) : zCan d 181 [.ref 70] (xW B m) (some (.int x.1), xW B x.2) := by
  obtain ⟨e, rfl⟩ : ∃ e, d = e + 1 := ⟨d - 1, by omega⟩
  refine zCan_body (nL := 3) (rt := (some .boolean)) (cd := zc181) (xg181) ⟨Nat.le_of_ble_eq_true rfl, by decide⟩ (Nat.le_refl _) ?_
  exact T181 H hd F rfl h
/-- LentToolsModel.strength -/
def D175 (F : Nat) (v0 : Int32) (m : xS) : Option (Int32 × xS) :=
  if zcmp .ne v0 13 = true then
    if zcmp .ne v0 12 = true then
      if zcmp .ne v0 11 = true then
        some (0, m)
      else
        some (3, m)
    else
      some (2, m)
  else
    some (1, m)
set_option maxRecDepth 20000 in
theorem T175 {B : zHp} (H : yH0 B) {e : Nat} (he : 1 ≤ e + 1) (F : Nat) {v0 : Int32} {lv : List (Nat × Value)} {m : xS} {x : Int32 × xS} (l0 : zld lv 0 = some (.int v0)) (h : D175 F v0 m = some x) : zR none e 1 (some .int) zc175 (0, lv, []) (xW B m) (some (.int x.1), xW B x.2) := by
  unfold D175 at h
  refine q_li (k := 1) (i := 0) (q := (.iload_n 0, 1, 0, 0, .null)) rfl (fun _ => rfl) l0 ?_
  refine r_s (fr' := (3, lv, [.int 13, .int v0])) (hp' := xW B m) (q := (.bipush 13, 2, 0, 0, .null)) rfl (fun _ => rfl) (Nat.le_refl _) ?_
  refine r_ifc (len := 3) (a := 10) (b := 0) (v0 := .null) (cn := .ne) (off := 7) rfl (fun c => ?_) (fun c => ?_)
  · rw [if_pos c] at h
    refine q_li (k := 1) (i := 0) (q := (.iload_n 0, 1, 0, 0, .null)) rfl (fun _ => rfl) l0 ?_
    refine r_s (fr' := (13, lv, [.int 12, .int v0])) (hp' := xW B m) (q := (.bipush 12, 2, 0, 0, .null)) rfl (fun _ => rfl) (Nat.le_refl _) ?_
    refine r_ifc (len := 3) (a := 20) (b := 0) (v0 := .null) (cn := .ne) (off := 7) rfl (fun c => ?_) (fun c => ?_)
    · rw [if_pos c] at h
      refine q_li (k := 1) (i := 0) (q := (.iload_n 0, 1, 0, 0, .null)) rfl (fun _ => rfl) l0 ?_
      refine r_s (fr' := (23, lv, [.int 11, .int v0])) (hp' := xW B m) (q := (.bipush 11, 2, 0, 0, .null)) rfl (fun _ => rfl) (Nat.le_refl _) ?_
      refine r_ifc (len := 3) (a := 30) (b := 0) (v0 := .null) (cn := .ne) (off := 7) rfl (fun c => ?_) (fun c => ?_)
      · rw [if_pos c] at h
        refine r_s (fr' := (31, lv, [.int 0])) (hp' := xW B m) (q := (.iconst 0, 1, 0, 0, .null)) rfl (fun _ => rfl) (Nat.le_refl _) ?_
        obtain rfl := Option.some.inj h
        exact q_ri (q := (.ireturn, 1, 0, 0, .null)) rfl (fun _ => rfl) rfl rfl
      · rw [if_neg (by rw [c]; decide)] at h
        refine r_s (fr' := (27, lv, [.int 3])) (hp' := xW B m) (q := (.iconst 3, 1, 0, 0, .null)) rfl (fun _ => rfl) (Nat.le_refl _) ?_
        refine r_s (fr' := (31, lv, [.int 3])) (hp' := xW B m) (q := (.goto 4, 3, 31, 0, .null)) rfl (fun _ => rfl) (Nat.le_refl _) ?_
        obtain rfl := Option.some.inj h
        exact q_ri (q := (.ireturn, 1, 0, 0, .null)) rfl (fun _ => rfl) rfl rfl
    · rw [if_neg (by rw [c]; decide)] at h
      refine r_s (fr' := (17, lv, [.int 2])) (hp' := xW B m) (q := (.iconst 2, 1, 0, 0, .null)) rfl (fun _ => rfl) (Nat.le_refl _) ?_
      refine r_s (fr' := (31, lv, [.int 2])) (hp' := xW B m) (q := (.goto 14, 3, 31, 0, .null)) rfl (fun _ => rfl) (Nat.le_refl _) ?_
      obtain rfl := Option.some.inj h
      exact q_ri (q := (.ireturn, 1, 0, 0, .null)) rfl (fun _ => rfl) rfl rfl
  · rw [if_neg (by rw [c]; decide)] at h
    refine r_s (fr' := (7, lv, [.int 1])) (hp' := xW B m) (q := (.iconst 1, 1, 0, 0, .null)) rfl (fun _ => rfl) (Nat.le_refl _) ?_
    refine r_s (fr' := (31, lv, [.int 1])) (hp' := xW B m) (q := (.goto 24, 3, 31, 0, .null)) rfl (fun _ => rfl) (Nat.le_refl _) ?_
    obtain rfl := Option.some.inj h
    exact q_ri (q := (.ireturn, 1, 0, 0, .null)) rfl (fun _ => rfl) rfl rfl
set_option maxRecDepth 20000 in
theorem Z175 {B : zHp} (H : yH0 B) {F : Nat} {a0 : Int32} {m : xS} {x : Int32 × xS} (h : D175 F a0 m = some x) {d : Nat} (hd : 1 ≤ d) : zCan d 175 [.int a0] (xW B m) (some (.int x.1), xW B x.2) := by
  obtain ⟨e, rfl⟩ : ∃ e, d = e + 1 := ⟨d - 1, by omega⟩
  refine zCan_body (nL := 1) (rt := (some .int)) (cd := zc175) (xg175) ⟨Nat.le_of_ble_eq_true rfl, by decide⟩ (Nat.le_refl _) ?_
  exact T175 H hd F rfl h
/-- LentToolsModel.settles -/
def D176_0 (F : Nat) : Nat → Int32 → xS → Option (Unit × xS)
  | 0, _, _ => none
  | f + 1, v1, m =>
    if zcmp .le (m.1 70 16) 0 = true then
      some ((), m)
    else
      if xib ((m.1 70 16) - 1) 400 = true then
        (D175 F (m.1 77 (((m.1 70 16) - 1) : Int32).toNatClampNeg) m).bind fun q18 =>
          if zcmp .lt q18.1 v1 = true then
            some ((), q18.2)
          else
            if xib ((q18.2.1 70 16) - 1) 400 = true then
              (D172 F (q18.2.1 77 (((q18.2.1 70 16) - 1) : Int32).toNatClampNeg) 0 (xu q18.2 70 16 ((q18.2.1 70 16) - 1))).bind fun q46 =>
                if xib (q46.2.1 70 16) 400 = true then
                  if zcmp .ne (q46.2.1 77 ((q46.2.1 70 16) : Int32).toNatClampNeg) 11 = true then
                    D176_0 F f v1 q46.2
                  else
                    D176_0 F f v1 (xu q46.2 70 13 ((q46.2.1 70 13) - 1))
                else none
            else none
      else none
set_option maxRecDepth 20000 in
theorem T176_0 {B : zHp} (H : yH0 B) {e : Nat} (he : 2 ≤ e + 1) (F : Nat) : ∀ (f : Nat) {v1 : Int32} {lv : List (Nat × Value)} {m : xS} {x : Unit × xS}, zld lv 0 = some (.ref 70) → zld lv 1 = some (.int v1) → D176_0 F f v1 m = some x → zR none e 2 none zc176 (0, lv, []) (xW B m) (none, xW B x.2) := by
  intro f
  induction f with
  | zero => intro v1 lv m x l0 l1 h; cases h
  | succ f ih =>
    intro v1 lv m x l0 l1 h
    unfold D176_0 at h
    refine q_lr (k := 1) (i := 0) (q := (.aload_n 0, 1, 0, 0, .null)) rfl (fun _ => rfl) l0 ?_
    refine r_gi (v := (m.1 70 16)) H (pc := 1) (i := _) rfl (by decide) (by decide) rfl ?_
    refine r_if (len := 3) (a := 76) (b := 0) (v0 := .null) (cn := .le) (off := 72) rfl (fun c => ?_) (fun c => ?_)
    · rw [if_pos c] at h
      obtain rfl := Option.some.inj h
      exact r_ret (q := (.return_, 1, 0, 0, .null)) rfl rfl (fun _ => rfl)
    · rw [if_neg (by rw [c]; decide)] at h
      refine q_lr (k := 1) (i := 0) (q := (.aload_n 0, 1, 0, 0, .null)) rfl (fun _ => rfl) l0 ?_
      refine r_gr (c := 77) H (pc := 8) rfl (by decide) (by decide) ?_
      refine q_lr (k := 1) (i := 0) (q := (.aload_n 0, 1, 0, 0, .null)) rfl (fun _ => rfl) l0 ?_
      refine r_gi (v := (m.1 70 16)) H (pc := 12) (i := _) rfl (by decide) (by decide) rfl ?_
      refine r_s (fr' := (16, lv, [.int 1, .int (m.1 70 16), .ref 77])) (hp' := xW B m) (q := (.iconst 1, 1, 0, 0, .null)) rfl (fun _ => rfl) (Nat.le_refl _) ?_
      refine r_s (fr' := (17, lv, [.int ((m.1 70 16) - 1), .ref 77])) (hp' := xW B m) (q := (.isub, 1, 0, 0, .null)) rfl (fun _ => rfl) (Nat.le_refl _) ?_
      obtain ⟨c1, h⟩ := xif h
      refine q_al (n := 400) (v := (m.1 77 (((m.1 70 16) - 1) : Int32).toNatClampNeg)) H (pc := 17) rfl (by decide) c1 rfl ?_
      obtain ⟨q18, h18, h⟩ := xbind h
      refine r_callS (as := [.int (m.1 77 (((m.1 70 16) - 1) : Int32).toNatClampNeg)]) (rest := []) (rv := some (.int q18.1)) (hp' := xW B q18.2) (pc := 18) rfl xr175 rfl rfl rfl (Nat.le_of_ble_eq_true rfl) (Z175 H h18 (by omega)) (Nat.le_refl _) ?_
      refine q_li (k := 1) (i := 1) (q := (.iload_n 1, 1, 0, 0, .null)) rfl (fun _ => rfl) l1 ?_
      refine r_ifc (len := 3) (a := 76) (b := 0) (v0 := .null) (cn := .lt) (off := 54) rfl (fun c => ?_) (fun c => ?_)
      · rw [if_pos c] at h
        obtain rfl := Option.some.inj h
        exact r_ret (q := (.return_, 1, 0, 0, .null)) rfl rfl (fun _ => rfl)
      · rw [if_neg (by rw [c]; decide)] at h
        refine q_lr (k := 1) (i := 0) (q := (.aload_n 0, 1, 0, 0, .null)) rfl (fun _ => rfl) l0 ?_
        refine r_s (fr' := (27, lv, [.ref 70, .ref 70])) (hp' := xW B q18.2) (q := (.dup, 1, 0, 0, .null)) rfl (fun _ => rfl) (Nat.le_refl _) ?_
        refine r_gi (v := (q18.2.1 70 16)) H (pc := 27) (i := _) rfl (by decide) (by decide) rfl ?_
        refine r_s (fr' := (31, lv, [.int 1, .int (q18.2.1 70 16), .ref 70])) (hp' := xW B q18.2) (q := (.iconst 1, 1, 0, 0, .null)) rfl (fun _ => rfl) (Nat.le_refl _) ?_
        refine r_s (fr' := (32, lv, [.int ((q18.2.1 70 16) - 1), .ref 70])) (hp' := xW B q18.2) (q := (.isub, 1, 0, 0, .null)) rfl (fun _ => rfl) (Nat.le_refl _) ?_
        refine r_pi (s2 := (xu q18.2 70 16 ((q18.2.1 70 16) - 1))) H (pc := 32) rfl (by decide) rfl rfl ?_
        refine q_lr (k := 1) (i := 0) (q := (.aload_n 0, 1, 0, 0, .null)) rfl (fun _ => rfl) l0 ?_
        refine q_lr (k := 1) (i := 0) (q := (.aload_n 0, 1, 0, 0, .null)) rfl (fun _ => rfl) l0 ?_
        refine r_gr (c := 77) H (pc := 37) rfl (by decide) (by decide) ?_
        refine q_lr (k := 1) (i := 0) (q := (.aload_n 0, 1, 0, 0, .null)) rfl (fun _ => rfl) l0 ?_
        refine r_gi (v := ((q18.2.1 70 16) - 1)) H (pc := 41) (i := _) rfl (by decide) (by decide) rfl ?_
        obtain ⟨c2, h⟩ := xif h
        refine q_al (n := 400) (v := (q18.2.1 77 (((q18.2.1 70 16) - 1) : Int32).toNatClampNeg)) H (pc := 44) rfl (by decide) c2 rfl ?_
        refine r_s (fr' := (46, lv, [.int 0, .int (q18.2.1 77 (((q18.2.1 70 16) - 1) : Int32).toNatClampNeg), .ref 70])) (hp' := xW B (xu q18.2 70 16 ((q18.2.1 70 16) - 1))) (q := (.iconst 0, 1, 0, 0, .null)) rfl (fun _ => rfl) (Nat.le_refl _) ?_
        obtain ⟨q46, h46, h⟩ := xbind h
        refine r_call (ix := 70) (as := [.int (q18.2.1 77 (((q18.2.1 70 16) - 1) : Int32).toNatClampNeg), .int 0]) (rest := []) (rv := none) (hp' := xW B q46.2) (pc := 46) rfl xr172 rfl rfl rfl (xkd H (by decide)) (Nat.le_of_ble_eq_true rfl) (Z172 H h46 (by omega)) (Nat.le_refl _) ?_
        refine q_lr (k := 1) (i := 0) (q := (.aload_n 0, 1, 0, 0, .null)) rfl (fun _ => rfl) l0 ?_
        refine r_gr (c := 77) H (pc := 50) rfl (by decide) (by decide) ?_
        refine q_lr (k := 1) (i := 0) (q := (.aload_n 0, 1, 0, 0, .null)) rfl (fun _ => rfl) l0 ?_
        refine r_gi (v := (q46.2.1 70 16)) H (pc := 54) (i := _) rfl (by decide) (by decide) rfl ?_
        obtain ⟨c3, h⟩ := xif h
        refine q_al (n := 400) (v := (q46.2.1 77 ((q46.2.1 70 16) : Int32).toNatClampNeg)) H (pc := 57) rfl (by decide) c3 rfl ?_
        refine r_s (fr' := (60, lv, [.int 11, .int (q46.2.1 77 ((q46.2.1 70 16) : Int32).toNatClampNeg)])) (hp' := xW B q46.2) (q := (.bipush 11, 2, 0, 0, .null)) rfl (fun _ => rfl) (Nat.le_refl _) ?_
        refine r_ifc (len := 3) (a := 0) (b := 0) (v0 := .null) (cn := .ne) (off := (-60)) rfl (fun c => ?_) (fun c => ?_)
        · rw [if_pos c] at h
          exact ih l0 l1 h
        · rw [if_neg (by rw [c]; decide)] at h
          refine q_lr (k := 1) (i := 0) (q := (.aload_n 0, 1, 0, 0, .null)) rfl (fun _ => rfl) l0 ?_
          refine r_s (fr' := (65, lv, [.ref 70, .ref 70])) (hp' := xW B q46.2) (q := (.dup, 1, 0, 0, .null)) rfl (fun _ => rfl) (Nat.le_refl _) ?_
          refine r_gi (v := (q46.2.1 70 13)) H (pc := 65) (i := _) rfl (by decide) (by decide) rfl ?_
          refine r_s (fr' := (69, lv, [.int 1, .int (q46.2.1 70 13), .ref 70])) (hp' := xW B q46.2) (q := (.iconst 1, 1, 0, 0, .null)) rfl (fun _ => rfl) (Nat.le_refl _) ?_
          refine r_s (fr' := (70, lv, [.int ((q46.2.1 70 13) - 1), .ref 70])) (hp' := xW B q46.2) (q := (.isub, 1, 0, 0, .null)) rfl (fun _ => rfl) (Nat.le_refl _) ?_
          refine r_pi (s2 := (xu q46.2 70 13 ((q46.2.1 70 13) - 1))) H (pc := 70) rfl (by decide) rfl rfl ?_
          refine r_s (fr' := (0, lv, [])) (hp' := xW B (xu q46.2 70 13 ((q46.2.1 70 13) - 1))) (q := (.goto (-73), 3, 0, 0, .null)) rfl (fun _ => rfl) (Nat.le_refl _) ?_
          exact ih l0 l1 h
def D176 (F : Nat) (a1 : Int32) (m : xS) : Option (Unit × xS) := D176_0 F F a1 m
set_option maxRecDepth 20000 in
theorem Z176 {B : zHp} (H : yH0 B) {F : Nat} {a1 : Int32} {m : xS} {x : Unit × xS} (h : D176 F a1 m = some x) {d : Nat} (hd : 2 ≤ d) : zCan d 176 [.ref 70, .int a1] (xW B m) (none, xW B x.2) := by
  obtain ⟨e, rfl⟩ : ∃ e, d = e + 1 := ⟨d - 1, by omega⟩
  refine zCan_body (nL := 2) (rt := none) (cd := zc176) (xg176) ⟨Nat.le_of_ble_eq_true rfl, by decide⟩ (Nat.le_refl _) ?_
  exact T176_0 H hd F F rfl rfl h
/-- LentToolsModel.isInside -/
def D182_2 (F : Nat) : Nat → Int32 → xS → Option (Int32 × xS)
  | 0, _, _ => none
  | f + 1, v1, m =>
    if zcmp .ge v1 (m.1 70 16) = true then
      some (0, m)
    else
      if xib v1 400 = true then
        if zcmp .ne (m.1 77 (v1 : Int32).toNatClampNeg) 91 = true then
          D182_2 F f (v1 + Int32.ofInt 1) m
        else
          some (1, m)
      else none
set_option maxRecDepth 20000 in
theorem T182_2 {B : zHp} (H : yH0 B) {e : Nat} (he : 1 ≤ e + 1) (F : Nat) : ∀ (f : Nat) {v1 : Int32} {lv : List (Nat × Value)} {m : xS} {x : Int32 × xS}, zld lv 0 = some (.ref 70) → zld lv 1 = some (.int v1) → D182_2 F f v1 m = some x → zR none e 2 (some .boolean) zc182 (2, lv, []) (xW B m) (some (.int x.1), xW B x.2) := by
  intro f
  induction f with
  | zero => intro v1 lv m x l0 l1 h; cases h
  | succ f ih =>
    intro v1 lv m x l0 l1 h
    unfold D182_2 at h
    refine q_li (k := 1) (i := 1) (q := (.iload_n 1, 1, 0, 0, .null)) rfl (fun _ => rfl) l1 ?_
    refine q_lr (k := 1) (i := 0) (q := (.aload_n 0, 1, 0, 0, .null)) rfl (fun _ => rfl) l0 ?_
    refine r_gi (v := (m.1 70 16)) H (pc := 4) (i := _) rfl (by decide) (by decide) rfl ?_
    refine r_ifc (len := 3) (a := 29) (b := 0) (v0 := .null) (cn := .ge) (off := 22) rfl (fun c => ?_) (fun c => ?_)
    · rw [if_pos c] at h
      refine r_s (fr' := (30, lv, [.int 0])) (hp' := xW B m) (q := (.iconst 0, 1, 0, 0, .null)) rfl (fun _ => rfl) (Nat.le_refl _) ?_
      obtain rfl := Option.some.inj h
      exact q_ri (q := (.ireturn, 1, 0, 0, .null)) rfl (fun _ => rfl) rfl rfl
    · rw [if_neg (by rw [c]; decide)] at h
      refine q_lr (k := 1) (i := 0) (q := (.aload_n 0, 1, 0, 0, .null)) rfl (fun _ => rfl) l0 ?_
      refine r_gr (c := 77) H (pc := 11) rfl (by decide) (by decide) ?_
      refine q_li (k := 1) (i := 1) (q := (.iload_n 1, 1, 0, 0, .null)) rfl (fun _ => rfl) l1 ?_
      obtain ⟨c1, h⟩ := xif h
      refine q_al (n := 400) (v := (m.1 77 (v1 : Int32).toNatClampNeg)) H (pc := 15) rfl (by decide) c1 rfl ?_
      refine r_s (fr' := (18, lv, [.int 91, .int (m.1 77 (v1 : Int32).toNatClampNeg)])) (hp' := xW B m) (q := (.bipush 91, 2, 0, 0, .null)) rfl (fun _ => rfl) (Nat.le_refl _) ?_
      refine r_ifc (len := 3) (a := 23) (b := 0) (v0 := .null) (cn := .ne) (off := 5) rfl (fun c => ?_) (fun c => ?_)
      · rw [if_pos c] at h
        refine q_inc (i := 1) (n := 1) (q := (.iinc 1 1, 3, 0, 0, .null)) rfl (fun _ => rfl) l1 (by decide) ?_
        have l0_2 : zld (zs1 lv 1 (.int (v1 + Int32.ofInt 1))) 0 = some (.ref 70) := x_o1 l0 rfl rfl
        have l1_2 : zld (zs1 lv 1 (.int (v1 + Int32.ofInt 1))) 1 = some (.int (v1 + Int32.ofInt 1)) := zs1_ld _ _ _
        generalize (zs1 lv 1 (.int (v1 + Int32.ofInt 1))) = lv2 at *
        refine r_s (fr' := (2, lv2, [])) (hp' := xW B m) (q := (.goto (-24), 3, 2, 0, .null)) rfl (fun _ => rfl) (Nat.le_refl _) ?_
        exact ih l0_2 l1_2 h
      · rw [if_neg (by rw [c]; decide)] at h
        refine r_s (fr' := (22, lv, [.int 1])) (hp' := xW B m) (q := (.iconst 1, 1, 0, 0, .null)) rfl (fun _ => rfl) (Nat.le_refl _) ?_
        obtain rfl := Option.some.inj h
        exact q_ri (q := (.ireturn, 1, 0, 0, .null)) rfl (fun _ => rfl) rfl rfl
def D182 (F : Nat) (m : xS) : Option (Int32 × xS) :=
  D182_2 F F 0 m
set_option maxRecDepth 20000 in
theorem T182 {B : zHp} (H : yH0 B) {e : Nat} (he : 1 ≤ e + 1) (F : Nat) {lv : List (Nat × Value)} {m : xS} {x : Int32 × xS} (l0 : zld lv 0 = some (.ref 70)) (h : D182 F m = some x) : zR none e 2 (some .boolean) zc182 (0, lv, []) (xW B m) (some (.int x.1), xW B x.2) := by
  unfold D182 at h
  refine r_s (fr' := (1, lv, [.int 0])) (hp' := xW B m) (q := (.iconst 0, 1, 0, 0, .null)) rfl (fun _ => rfl) (Nat.le_refl _) ?_
  refine q_si (k := 1) (i := 1) (q := (.istore_n 1, 1, 0, 0, .null)) rfl (fun _ => rfl) (by decide) ?_
  have l0_1 : zld (zs1 lv 1 (.int 0)) 0 = some (.ref 70) := x_o1 l0 rfl rfl
  have l1_1 : zld (zs1 lv 1 (.int 0)) 1 = some (.int 0) := zs1_ld _ _ _
  generalize (zs1 lv 1 (.int 0)) = lv1 at *
  exact T182_2 H he F F l0_1 l1_1 h
set_option maxRecDepth 20000 in
theorem Z182 {B : zHp} (H : yH0 B) {F : Nat} {m : xS} {x : Int32 × xS} (h : D182 F m = some x) {d : Nat} (hd : 1 ≤ d) : zCan d 182 [.ref 70] (xW B m) (some (.int x.1), xW B x.2) := by
  obtain ⟨e, rfl⟩ : ∃ e, d = e + 1 := ⟨d - 1, by omega⟩
  refine zCan_body (nL := 2) (rt := (some .boolean)) (cd := zc182) (xg182) ⟨Nat.le_of_ble_eq_true rfl, by decide⟩ (Nat.le_refl _) ?_
  exact T182 H hd F rfl h
/-- LentToolsModel.closes -/
def D183_5 (F : Nat) : Nat → xS → Option (Unit × xS)
  | 0, _ => none
  | f + 1, m =>
    (D164 F m).bind fun q6 =>
      if zcmp .ne q6.1 93 = true then
        some ((), q6.2)
      else
        (D182 F q6.2).bind fun q15 =>
          if zcmp .eq q15.1 0 = true then
            some ((), q15.2)
          else
            (D176 F 1 q15.2).bind fun q23 =>
              (D176 F 3 (xu (xu (xu q23.2 70 16 ((q23.2.1 70 16) - 1)) 70 13 ((q23.2.1 70 13) - 1)) 70 8 ((q23.2.1 70 8) + 1))).bind fun q58 =>
                D183_5 F f q58.2
set_option maxRecDepth 20000 in
theorem T183_5 {B : zHp} (H : yH0 B) {e : Nat} (he : 3 ≤ e + 1) (F : Nat) : ∀ (f : Nat) {lv : List (Nat × Value)} {m : xS} {x : Unit × xS}, zld lv 0 = some (.ref 70) → D183_5 F f m = some x → zR none e 1 none zc183 (5, lv, []) (xW B m) (none, xW B x.2) := by
  intro f
  induction f with
  | zero => intro lv m x l0 h; cases h
  | succ f ih =>
    intro lv m x l0 h
    unfold D183_5 at h
    refine q_lr (k := 1) (i := 0) (q := (.aload_n 0, 1, 0, 0, .null)) rfl (fun _ => rfl) l0 ?_
    obtain ⟨q6, h6, h⟩ := xbind h
    refine r_call (ix := 70) (as := []) (rest := []) (rv := some (.int q6.1)) (hp' := xW B q6.2) (pc := 6) rfl xr164 rfl rfl rfl (xkd H (by decide)) (Nat.le_of_ble_eq_true rfl) (Z164 H h6 (by omega)) (Nat.le_refl _) ?_
    refine r_s (fr' := (11, lv, [.int 93, .int q6.1])) (hp' := xW B q6.2) (q := (.bipush 93, 2, 0, 0, .null)) rfl (fun _ => rfl) (Nat.le_refl _) ?_
    refine r_ifc (len := 3) (a := 64) (b := 0) (v0 := .null) (cn := .ne) (off := 53) rfl (fun c => ?_) (fun c => ?_)
    · rw [if_pos c] at h
      obtain rfl := Option.some.inj h
      exact r_ret (q := (.return_, 1, 0, 0, .null)) rfl rfl (fun _ => rfl)
    · rw [if_neg (by rw [c]; decide)] at h
      refine q_lr (k := 1) (i := 0) (q := (.aload_n 0, 1, 0, 0, .null)) rfl (fun _ => rfl) l0 ?_
      obtain ⟨q15, h15, h⟩ := xbind h
      refine r_call (ix := 70) (as := []) (rest := []) (rv := some (.int q15.1)) (hp' := xW B q15.2) (pc := 15) rfl xr182 rfl rfl rfl (xkd H (by decide)) (Nat.le_of_ble_eq_true rfl) (Z182 H h15 (by omega)) (Nat.le_refl _) ?_
      refine r_if (len := 3) (a := 64) (b := 0) (v0 := .null) (cn := .eq) (off := 46) rfl (fun c => ?_) (fun c => ?_)
      · rw [if_pos c] at h
        obtain rfl := Option.some.inj h
        exact r_ret (q := (.return_, 1, 0, 0, .null)) rfl rfl (fun _ => rfl)
      · rw [if_neg (by rw [c]; decide)] at h
        refine q_lr (k := 1) (i := 0) (q := (.aload_n 0, 1, 0, 0, .null)) rfl (fun _ => rfl) l0 ?_
        refine r_s (fr' := (23, lv, [.int 1, .ref 70])) (hp' := xW B q15.2) (q := (.iconst 1, 1, 0, 0, .null)) rfl (fun _ => rfl) (Nat.le_refl _) ?_
        obtain ⟨q23, h23, h⟩ := xbind h
        refine r_call (ix := 70) (as := [.int 1]) (rest := []) (rv := none) (hp' := xW B q23.2) (pc := 23) rfl xr176 rfl rfl rfl (xkd H (by decide)) (Nat.le_of_ble_eq_true rfl) (Z176 H h23 (by omega)) (Nat.le_refl _) ?_
        refine q_lr (k := 1) (i := 0) (q := (.aload_n 0, 1, 0, 0, .null)) rfl (fun _ => rfl) l0 ?_
        refine r_s (fr' := (28, lv, [.ref 70, .ref 70])) (hp' := xW B q23.2) (q := (.dup, 1, 0, 0, .null)) rfl (fun _ => rfl) (Nat.le_refl _) ?_
        refine r_gi (v := (q23.2.1 70 16)) H (pc := 28) (i := _) rfl (by decide) (by decide) rfl ?_
        refine r_s (fr' := (32, lv, [.int 1, .int (q23.2.1 70 16), .ref 70])) (hp' := xW B q23.2) (q := (.iconst 1, 1, 0, 0, .null)) rfl (fun _ => rfl) (Nat.le_refl _) ?_
        refine r_s (fr' := (33, lv, [.int ((q23.2.1 70 16) - 1), .ref 70])) (hp' := xW B q23.2) (q := (.isub, 1, 0, 0, .null)) rfl (fun _ => rfl) (Nat.le_refl _) ?_
        refine r_pi (s2 := (xu q23.2 70 16 ((q23.2.1 70 16) - 1))) H (pc := 33) rfl (by decide) rfl rfl ?_
        refine q_lr (k := 1) (i := 0) (q := (.aload_n 0, 1, 0, 0, .null)) rfl (fun _ => rfl) l0 ?_
        refine r_s (fr' := (38, lv, [.ref 70, .ref 70])) (hp' := xW B (xu q23.2 70 16 ((q23.2.1 70 16) - 1))) (q := (.dup, 1, 0, 0, .null)) rfl (fun _ => rfl) (Nat.le_refl _) ?_
        refine r_gi (v := (q23.2.1 70 13)) H (pc := 38) (i := _) rfl (by decide) (by decide) rfl ?_
        refine r_s (fr' := (42, lv, [.int 1, .int (q23.2.1 70 13), .ref 70])) (hp' := xW B (xu q23.2 70 16 ((q23.2.1 70 16) - 1))) (q := (.iconst 1, 1, 0, 0, .null)) rfl (fun _ => rfl) (Nat.le_refl _) ?_
        refine r_s (fr' := (43, lv, [.int ((q23.2.1 70 13) - 1), .ref 70])) (hp' := xW B (xu q23.2 70 16 ((q23.2.1 70 16) - 1))) (q := (.isub, 1, 0, 0, .null)) rfl (fun _ => rfl) (Nat.le_refl _) ?_
        refine r_pi (s2 := (xu (xu q23.2 70 16 ((q23.2.1 70 16) - 1)) 70 13 ((q23.2.1 70 13) - 1))) H (pc := 43) rfl (by decide) rfl rfl ?_
        refine q_lr (k := 1) (i := 0) (q := (.aload_n 0, 1, 0, 0, .null)) rfl (fun _ => rfl) l0 ?_
        refine r_s (fr' := (48, lv, [.ref 70, .ref 70])) (hp' := xW B (xu (xu q23.2 70 16 ((q23.2.1 70 16) - 1)) 70 13 ((q23.2.1 70 13) - 1))) (q := (.dup, 1, 0, 0, .null)) rfl (fun _ => rfl) (Nat.le_refl _) ?_
        refine r_gi (v := (q23.2.1 70 8)) H (pc := 48) (i := _) rfl (by decide) (by decide) rfl ?_
        refine r_s (fr' := (52, lv, [.int 1, .int (q23.2.1 70 8), .ref 70])) (hp' := xW B (xu (xu q23.2 70 16 ((q23.2.1 70 16) - 1)) 70 13 ((q23.2.1 70 13) - 1))) (q := (.iconst 1, 1, 0, 0, .null)) rfl (fun _ => rfl) (Nat.le_refl _) ?_
        refine r_s (fr' := (53, lv, [.int ((q23.2.1 70 8) + 1), .ref 70])) (hp' := xW B (xu (xu q23.2 70 16 ((q23.2.1 70 16) - 1)) 70 13 ((q23.2.1 70 13) - 1))) (q := (.iadd, 1, 0, 0, .null)) rfl (fun _ => rfl) (Nat.le_refl _) ?_
        refine r_pi (s2 := (xu (xu (xu q23.2 70 16 ((q23.2.1 70 16) - 1)) 70 13 ((q23.2.1 70 13) - 1)) 70 8 ((q23.2.1 70 8) + 1))) H (pc := 53) rfl (by decide) rfl rfl ?_
        refine q_lr (k := 1) (i := 0) (q := (.aload_n 0, 1, 0, 0, .null)) rfl (fun _ => rfl) l0 ?_
        refine r_s (fr' := (58, lv, [.int 3, .ref 70])) (hp' := xW B (xu (xu (xu q23.2 70 16 ((q23.2.1 70 16) - 1)) 70 13 ((q23.2.1 70 13) - 1)) 70 8 ((q23.2.1 70 8) + 1))) (q := (.iconst 3, 1, 0, 0, .null)) rfl (fun _ => rfl) (Nat.le_refl _) ?_
        obtain ⟨q58, h58, h⟩ := xbind h
        refine r_call (ix := 70) (as := [.int 3]) (rest := []) (rv := none) (hp' := xW B q58.2) (pc := 58) rfl xr176 rfl rfl rfl (xkd H (by decide)) (Nat.le_of_ble_eq_true rfl) (Z176 H h58 (by omega)) (Nat.le_refl _) ?_
        refine r_s (fr' := (5, lv, [])) (hp' := xW B q58.2) (q := (.goto (-56), 3, 5, 0, .null)) rfl (fun _ => rfl) (Nat.le_refl _) ?_
        exact ih l0 h
def D183 (F : Nat) (m : xS) : Option (Unit × xS) :=
  (D176 F 3 m).bind fun q2 =>
    D183_5 F F q2.2
set_option maxRecDepth 20000 in
theorem T183 {B : zHp} (H : yH0 B) {e : Nat} (he : 3 ≤ e + 1) (F : Nat) {lv : List (Nat × Value)} {m : xS} {x : Unit × xS} (l0 : zld lv 0 = some (.ref 70)) (h : D183 F m = some x) : zR none e 1 none zc183 (0, lv, []) (xW B m) (none, xW B x.2) := by
  unfold D183 at h
  refine q_lr (k := 1) (i := 0) (q := (.aload_n 0, 1, 0, 0, .null)) rfl (fun _ => rfl) l0 ?_
  refine r_s (fr' := (2, lv, [.int 3, .ref 70])) (hp' := xW B m) (q := (.iconst 3, 1, 0, 0, .null)) rfl (fun _ => rfl) (Nat.le_refl _) ?_
  obtain ⟨q2, h2, h⟩ := xbind h
  refine r_call (ix := 70) (as := [.int 3]) (rest := []) (rv := none) (hp' := xW B q2.2) (pc := 2) rfl xr176 rfl rfl rfl (xkd H (by decide)) (Nat.le_of_ble_eq_true rfl) (Z176 H h2 (by omega)) (Nat.le_refl _) ?_
  exact T183_5 H he F F l0 h
set_option maxRecDepth 20000 in
theorem Z183 {B : zHp} (H : yH0 B) {F : Nat} {m : xS} {x : Unit × xS} (h : D183 F m = some x) {d : Nat} (hd : 3 ≤ d) : zCan d 183 [.ref 70] (xW B m) (none, xW B x.2) := by
  obtain ⟨e, rfl⟩ : ∃ e, d = e + 1 := ⟨d - 1, by omega⟩
  refine zCan_body (nL := 1) (rt := none) (cd := zc183) (xg183) ⟨Nat.le_of_ble_eq_true rfl, by decide⟩ (Nat.le_refl _) ?_
  exact T183 H hd F rfl h
/-- LentToolsModel.tested -/
def D184_76 (F : Nat) (g12 : Int32 → xS → Option (Int32 × xS)) (v1 : Int32) (w0 : Int32) (m : xS) : Option (Int32 × xS) :=
  (D168 F m).bind fun q78 =>
    (D175 F w0 q78.2).bind fun q83 =>
      (D176 F q83.1 q83.2).bind fun q86 =>
        if xib (q86.2.1 70 16) 400 = true then
          g12 v1 (xu (xu q86.2 77 ((q86.2.1 70 16) : Int32).toNatClampNeg w0) 70 16 ((q86.2.1 70 16) + 1))
        else none
set_option maxRecDepth 20000 in
theorem T184_76 {B : zHp} (H : yH0 B) {e : Nat} (he : 9 ≤ e + 1) (F : Nat) (g12 : Int32 → xS → Option (Int32 × xS)) (k12 : ∀ {v1 : Int32} {lv : List (Nat × Value)} {m : xS} {x : Int32 × xS}, zld lv 0 = some (.ref 70) → zld lv 1 = some (.int v1) → g12 v1 m = some x → zR none e 3 (some .boolean) zc184 (12, lv, []) (xW B m) (some (.int x.1), xW B x.2)) {v1 : Int32} {w0 : Int32} {lv : List (Nat × Value)} {m : xS} {x : Int32 × xS} (l0 : zld lv 0 = some (.ref 70)) (l1 : zld lv 1 = some (.int v1)) (h : D184_76 F g12 v1 w0 m = some x) : zR none e 3 (some .boolean) zc184 (76, lv, [.int w0]) (xW B m) (some (.int x.1), xW B x.2) := by
  unfold D184_76 at h
  refine q_si (k := 1) (i := 2) (q := (.istore_n 2, 1, 0, 0, .null)) rfl (fun _ => rfl) (by decide) ?_
  have l0_1 : zld (zs1 lv 2 (.int w0)) 0 = some (.ref 70) := x_o1 l0 rfl rfl
  have l1_1 : zld (zs1 lv 2 (.int w0)) 1 = some (.int v1) := x_o1 l1 rfl rfl
  have l2_1 : zld (zs1 lv 2 (.int w0)) 2 = some (.int w0) := zs1_ld _ _ _
  generalize (zs1 lv 2 (.int w0)) = lv1 at *
  refine q_lr (k := 1) (i := 0) (q := (.aload_n 0, 1, 0, 0, .null)) rfl (fun _ => rfl) l0_1 ?_
  obtain ⟨q78, h78, h⟩ := xbind h
  refine r_call (ix := 70) (as := []) (rest := []) (rv := none) (hp' := xW B q78.2) (pc := 78) rfl xr168 rfl rfl rfl (xkd H (by decide)) (Nat.le_of_ble_eq_true rfl) (Z168 H h78 (by omega)) (Nat.le_refl _) ?_
  refine q_lr (k := 1) (i := 0) (q := (.aload_n 0, 1, 0, 0, .null)) rfl (fun _ => rfl) l0_1 ?_
  refine q_li (k := 1) (i := 2) (q := (.iload_n 2, 1, 0, 0, .null)) rfl (fun _ => rfl) l2_1 ?_
  obtain ⟨q83, h83, h⟩ := xbind h
  refine r_callS (as := [.int w0]) (rest := [.ref 70]) (rv := some (.int q83.1)) (hp' := xW B q83.2) (pc := 83) rfl xr175 rfl rfl rfl (Nat.le_of_ble_eq_true rfl) (Z175 H h83 (by omega)) (Nat.le_refl _) ?_
  obtain ⟨q86, h86, h⟩ := xbind h
  refine r_call (ix := 70) (as := [.int q83.1]) (rest := []) (rv := none) (hp' := xW B q86.2) (pc := 86) rfl xr176 rfl rfl rfl (xkd H (by decide)) (Nat.le_of_ble_eq_true rfl) (Z176 H h86 (by omega)) (Nat.le_refl _) ?_
  refine q_lr (k := 1) (i := 0) (q := (.aload_n 0, 1, 0, 0, .null)) rfl (fun _ => rfl) l0_1 ?_
  refine r_gr (c := 77) H (pc := 90) rfl (by decide) (by decide) ?_
  refine q_lr (k := 1) (i := 0) (q := (.aload_n 0, 1, 0, 0, .null)) rfl (fun _ => rfl) l0_1 ?_
  refine r_gi (v := (q86.2.1 70 16)) H (pc := 94) (i := _) rfl (by decide) (by decide) rfl ?_
  refine q_li (k := 1) (i := 2) (q := (.iload_n 2, 1, 0, 0, .null)) rfl (fun _ => rfl) l2_1 ?_
  obtain ⟨c2, h⟩ := xif h
  refine q_as (n := 400) (s2 := (xu q86.2 77 ((q86.2.1 70 16) : Int32).toNatClampNeg w0)) H (pc := 98) rfl (by decide) c2 rfl ?_
  refine q_lr (k := 1) (i := 0) (q := (.aload_n 0, 1, 0, 0, .null)) rfl (fun _ => rfl) l0_1 ?_
  refine r_s (fr' := (101, lv1, [.ref 70, .ref 70])) (hp' := xW B (xu q86.2 77 ((q86.2.1 70 16) : Int32).toNatClampNeg w0)) (q := (.dup, 1, 0, 0, .null)) rfl (fun _ => rfl) (Nat.le_refl _) ?_
  refine r_gi (v := (q86.2.1 70 16)) H (pc := 101) (i := _) rfl (by decide) (by decide) rfl ?_
  refine r_s (fr' := (105, lv1, [.int 1, .int (q86.2.1 70 16), .ref 70])) (hp' := xW B (xu q86.2 77 ((q86.2.1 70 16) : Int32).toNatClampNeg w0)) (q := (.iconst 1, 1, 0, 0, .null)) rfl (fun _ => rfl) (Nat.le_refl _) ?_
  refine r_s (fr' := (106, lv1, [.int ((q86.2.1 70 16) + 1), .ref 70])) (hp' := xW B (xu q86.2 77 ((q86.2.1 70 16) : Int32).toNatClampNeg w0)) (q := (.iadd, 1, 0, 0, .null)) rfl (fun _ => rfl) (Nat.le_refl _) ?_
  refine r_pi (s2 := (xu (xu q86.2 77 ((q86.2.1 70 16) : Int32).toNatClampNeg w0) 70 16 ((q86.2.1 70 16) + 1))) H (pc := 106) rfl (by decide) rfl rfl ?_
  refine r_s (fr' := (12, lv1, [])) (hp' := xW B (xu (xu q86.2 77 ((q86.2.1 70 16) : Int32).toNatClampNeg w0) 70 16 ((q86.2.1 70 16) + 1))) (q := (.goto (-97), 3, 12, 0, .null)) rfl (fun _ => rfl) (Nat.le_refl _) ?_
  exact k12 l0_1 l1_1 h
def D184_54 (F : Nat) (g12 : Int32 → xS → Option (Int32 × xS)) (v1 : Int32) (w0 : Int32) (m : xS) : Option (Int32 × xS) :=
  if zcmp .eq w0 0 = true then
    g12 w0 m
  else
    (D167 F 6385252 m).bind fun q63 =>
      if zcmp .eq q63.1 0 = true then
        D184_76 F g12 w0 13 q63.2
      else
        D184_76 F g12 w0 12 q63.2
set_option maxRecDepth 20000 in
theorem T184_54 {B : zHp} (H : yH0 B) {e : Nat} (he : 9 ≤ e + 1) (F : Nat) (g12 : Int32 → xS → Option (Int32 × xS)) (k12 : ∀ {v1 : Int32} {lv : List (Nat × Value)} {m : xS} {x : Int32 × xS}, zld lv 0 = some (.ref 70) → zld lv 1 = some (.int v1) → g12 v1 m = some x → zR none e 3 (some .boolean) zc184 (12, lv, []) (xW B m) (some (.int x.1), xW B x.2)) {v1 : Int32} {w0 : Int32} {lv : List (Nat × Value)} {m : xS} {x : Int32 × xS} (l0 : zld lv 0 = some (.ref 70)) (l1 : zld lv 1 = some (.int v1)) (h : D184_54 F g12 v1 w0 m = some x) : zR none e 3 (some .boolean) zc184 (54, lv, [.int w0]) (xW B m) (some (.int x.1), xW B x.2) := by
  unfold D184_54 at h
  refine q_si (k := 1) (i := 1) (q := (.istore_n 1, 1, 0, 0, .null)) rfl (fun _ => rfl) (by decide) ?_
  have l0_1 : zld (zs1 lv 1 (.int w0)) 0 = some (.ref 70) := x_o1 l0 rfl rfl
  have l1_1 : zld (zs1 lv 1 (.int w0)) 1 = some (.int w0) := zs1_ld _ _ _
  generalize (zs1 lv 1 (.int w0)) = lv1 at *
  refine q_li (k := 1) (i := 1) (q := (.iload_n 1, 1, 0, 0, .null)) rfl (fun _ => rfl) l1_1 ?_
  refine r_if (len := 3) (a := 12) (b := 0) (v0 := .null) (cn := .eq) (off := (-44)) rfl (fun c => ?_) (fun c => ?_)
  · rw [if_pos c] at h
    exact k12 l0_1 l1_1 h
  · rw [if_neg (by rw [c]; decide)] at h
    refine q_lr (k := 1) (i := 0) (q := (.aload_n 0, 1, 0, 0, .null)) rfl (fun _ => rfl) l0_1 ?_
    refine r_s (fr' := (63, lv1, [.long 6385252, .ref 70])) (hp' := xW B m) (q := (.ldc2_w 193, 3, 0, 0, .long 6385252)) rfl (fun _ => rfl) (Nat.le_refl _) ?_
    obtain ⟨q63, h63, h⟩ := xbind h
    refine r_call (ix := 70) (as := [.long 6385252]) (rest := []) (rv := some (.int q63.1)) (hp' := xW B q63.2) (pc := 63) rfl xr167 rfl rfl rfl (xkd H (by decide)) (Nat.le_of_ble_eq_true rfl) (Z167 H h63 (by omega)) (Nat.le_refl _) ?_
    refine r_if (len := 3) (a := 74) (b := 0) (v0 := .null) (cn := .eq) (off := 8) rfl (fun c => ?_) (fun c => ?_)
    · rw [if_pos c] at h
      refine r_s (fr' := (76, lv1, [.int 13])) (hp' := xW B q63.2) (q := (.bipush 13, 2, 0, 0, .null)) rfl (fun _ => rfl) (Nat.le_refl _) ?_
      exact T184_76 H he F _ k12 l0_1 l1_1 h
    · rw [if_neg (by rw [c]; decide)] at h
      refine r_s (fr' := (71, lv1, [.int 12])) (hp' := xW B q63.2) (q := (.bipush 12, 2, 0, 0, .null)) rfl (fun _ => rfl) (Nat.le_refl _) ?_
      refine r_s (fr' := (76, lv1, [.int 12])) (hp' := xW B q63.2) (q := (.goto 5, 3, 76, 0, .null)) rfl (fun _ => rfl) (Nat.le_refl _) ?_
      exact T184_76 H he F _ k12 l0_1 l1_1 h
def D184_49 (F : Nat) (g12 : Int32 → xS → Option (Int32 × xS)) (v1 : Int32) (m : xS) : Option (Int32 × xS) :=
  D184_54 F g12 v1 1 m
set_option maxRecDepth 20000 in
theorem T184_49 {B : zHp} (H : yH0 B) {e : Nat} (he : 9 ≤ e + 1) (F : Nat) (g12 : Int32 → xS → Option (Int32 × xS)) (k12 : ∀ {v1 : Int32} {lv : List (Nat × Value)} {m : xS} {x : Int32 × xS}, zld lv 0 = some (.ref 70) → zld lv 1 = some (.int v1) → g12 v1 m = some x → zR none e 3 (some .boolean) zc184 (12, lv, []) (xW B m) (some (.int x.1), xW B x.2)) {v1 : Int32} {lv : List (Nat × Value)} {m : xS} {x : Int32 × xS} (l0 : zld lv 0 = some (.ref 70)) (l1 : zld lv 1 = some (.int v1)) (h : D184_49 F g12 v1 m = some x) : zR none e 3 (some .boolean) zc184 (49, lv, []) (xW B m) (some (.int x.1), xW B x.2) := by
  unfold D184_49 at h
  refine r_s (fr' := (50, lv, [.int 1])) (hp' := xW B m) (q := (.iconst 1, 1, 0, 0, .null)) rfl (fun _ => rfl) (Nat.le_refl _) ?_
  refine r_s (fr' := (54, lv, [.int 1])) (hp' := xW B m) (q := (.goto 4, 3, 54, 0, .null)) rfl (fun _ => rfl) (Nat.le_refl _) ?_
  exact T184_54 H he F _ k12 l0 l1 h
def D184_12 (F : Nat) : Nat → Int32 → xS → Option (Int32 × xS)
  | 0, _, _ => none
  | f + 1, v1, m =>
    if zcmp .eq v1 0 = true then
      (D182 F m).bind fun q113 =>
        if zcmp .eq q113.1 0 = true then
          (D176 F 1 q113.2).bind fun q136 =>
            some (1, q136.2)
        else
          (D164 F q113.2).bind fun q120 =>
            (D163 F 0 (q120.2.1 70 8) q120.2).bind fun q130 =>
              if xbo q130.1 = true then
                some (q130.1, q130.2)
              else none
    else
      (D181 F m).bind fun q17 =>
        if zcmp .ne q17.1 0 = true then
          (D183 F q17.2).bind fun q26 =>
            (D167 F 6385252 q26.2).bind fun q33 =>
              if zcmp .ne q33.1 0 = true then
                D184_49 F (D184_12 F f) v1 q33.2
              else
                (D167 F 28530 q33.2).bind fun q43 =>
                  if zcmp .eq q43.1 0 = true then
                    D184_54 F (D184_12 F f) v1 0 q43.2
                  else
                    D184_49 F (D184_12 F f) v1 q43.2
        else
          some (0, q17.2)
set_option maxRecDepth 20000 in
theorem T184_12 {B : zHp} (H : yH0 B) {e : Nat} (he : 9 ≤ e + 1) (F : Nat) : ∀ (f : Nat) {v1 : Int32} {lv : List (Nat × Value)} {m : xS} {x : Int32 × xS}, zld lv 0 = some (.ref 70) → zld lv 1 = some (.int v1) → D184_12 F f v1 m = some x → zR none e 3 (some .boolean) zc184 (12, lv, []) (xW B m) (some (.int x.1), xW B x.2) := by
  intro f
  induction f with
  | zero => intro v1 lv m x l0 l1 h; cases h
  | succ f ih =>
    intro v1 lv m x l0 l1 h
    unfold D184_12 at h
    refine q_li (k := 1) (i := 1) (q := (.iload_n 1, 1, 0, 0, .null)) rfl (fun _ => rfl) l1 ?_
    refine r_if (len := 3) (a := 112) (b := 0) (v0 := .null) (cn := .eq) (off := 99) rfl (fun c => ?_) (fun c => ?_)
    · rw [if_pos c] at h
      refine q_lr (k := 1) (i := 0) (q := (.aload_n 0, 1, 0, 0, .null)) rfl (fun _ => rfl) l0 ?_
      obtain ⟨q113, h113, h⟩ := xbind h
      refine r_call (ix := 70) (as := []) (rest := []) (rv := some (.int q113.1)) (hp' := xW B q113.2) (pc := 113) rfl xr182 rfl rfl rfl (xkd H (by decide)) (Nat.le_of_ble_eq_true rfl) (Z182 H h113 (by omega)) (Nat.le_refl _) ?_
      refine r_if (len := 3) (a := 134) (b := 0) (v0 := .null) (cn := .eq) (off := 18) rfl (fun c => ?_) (fun c => ?_)
      · rw [if_pos c] at h
        refine q_lr (k := 1) (i := 0) (q := (.aload_n 0, 1, 0, 0, .null)) rfl (fun _ => rfl) l0 ?_
        refine r_s (fr' := (136, lv, [.int 1, .ref 70])) (hp' := xW B q113.2) (q := (.iconst 1, 1, 0, 0, .null)) rfl (fun _ => rfl) (Nat.le_refl _) ?_
        obtain ⟨q136, h136, h⟩ := xbind h
        refine r_call (ix := 70) (as := [.int 1]) (rest := []) (rv := none) (hp' := xW B q136.2) (pc := 136) rfl xr176 rfl rfl rfl (xkd H (by decide)) (Nat.le_of_ble_eq_true rfl) (Z176 H h136 (by omega)) (Nat.le_refl _) ?_
        refine r_s (fr' := (140, lv, [.int 1])) (hp' := xW B q136.2) (q := (.iconst 1, 1, 0, 0, .null)) rfl (fun _ => rfl) (Nat.le_refl _) ?_
        obtain rfl := Option.some.inj h
        exact q_ri (q := (.ireturn, 1, 0, 0, .null)) rfl (fun _ => rfl) rfl rfl
      · rw [if_neg (by rw [c]; decide)] at h
        refine q_lr (k := 1) (i := 0) (q := (.aload_n 0, 1, 0, 0, .null)) rfl (fun _ => rfl) l0 ?_
        obtain ⟨q120, h120, h⟩ := xbind h
        refine r_call (ix := 70) (as := []) (rest := []) (rv := some (.int q120.1)) (hp' := xW B q120.2) (pc := 120) rfl xr164 rfl rfl rfl (xkd H (by decide)) (Nat.le_of_ble_eq_true rfl) (Z164 H h120 (by omega)) (Nat.le_refl _) ?_
        refine r_s (fr' := (124, lv, [])) (hp' := xW B q120.2) (q := (.pop, 1, 0, 0, .null)) rfl (fun _ => rfl) (Nat.le_refl _) ?_
        refine q_lr (k := 1) (i := 0) (q := (.aload_n 0, 1, 0, 0, .null)) rfl (fun _ => rfl) l0 ?_
        refine r_s (fr' := (126, lv, [.int 0, .ref 70])) (hp' := xW B q120.2) (q := (.iconst 0, 1, 0, 0, .null)) rfl (fun _ => rfl) (Nat.le_refl _) ?_
        refine q_lr (k := 1) (i := 0) (q := (.aload_n 0, 1, 0, 0, .null)) rfl (fun _ => rfl) l0 ?_
        refine r_gi (v := (q120.2.1 70 8)) H (pc := 127) (i := _) rfl (by decide) (by decide) rfl ?_
        obtain ⟨q130, h130, h⟩ := xbind h
        refine r_call (ix := 70) (as := [.int 0, .int (q120.2.1 70 8)]) (rest := []) (rv := some (.int q130.1)) (hp' := xW B q130.2) (pc := 130) rfl xr163 rfl rfl rfl (xkd H (by decide)) (Nat.le_of_ble_eq_true rfl) (Z163 H h130 (by omega)) (Nat.le_refl _) ?_
        obtain ⟨c1, h⟩ := xif h
        obtain rfl := Option.some.inj h
        exact q_ri (q := (.ireturn, 1, 0, 0, .null)) rfl (fun _ => rfl) rfl (xbo_ok c1)
    · rw [if_neg (by rw [c]; decide)] at h
      refine q_lr (k := 1) (i := 0) (q := (.aload_n 0, 1, 0, 0, .null)) rfl (fun _ => rfl) l0 ?_
      obtain ⟨q17, h17, h⟩ := xbind h
      refine r_call (ix := 70) (as := []) (rest := []) (rv := some (.int q17.1)) (hp' := xW B q17.2) (pc := 17) rfl xr181 rfl rfl rfl (xkd H (by decide)) (Nat.le_of_ble_eq_true rfl) (Z181 H h17 (by omega)) (Nat.le_refl _) ?_
      refine r_if (len := 3) (a := 25) (b := 0) (v0 := .null) (cn := .ne) (off := 5) rfl (fun c => ?_) (fun c => ?_)
      · rw [if_pos c] at h
        refine q_lr (k := 1) (i := 0) (q := (.aload_n 0, 1, 0, 0, .null)) rfl (fun _ => rfl) l0 ?_
        obtain ⟨q26, h26, h⟩ := xbind h
        refine r_call (ix := 70) (as := []) (rest := []) (rv := none) (hp' := xW B q26.2) (pc := 26) rfl xr183 rfl rfl rfl (xkd H (by decide)) (Nat.le_of_ble_eq_true rfl) (Z183 H h26 (by omega)) (Nat.le_refl _) ?_
        refine q_lr (k := 1) (i := 0) (q := (.aload_n 0, 1, 0, 0, .null)) rfl (fun _ => rfl) l0 ?_
        refine r_s (fr' := (33, lv, [.long 6385252, .ref 70])) (hp' := xW B q26.2) (q := (.ldc2_w 193, 3, 0, 0, .long 6385252)) rfl (fun _ => rfl) (Nat.le_refl _) ?_
        obtain ⟨q33, h33, h⟩ := xbind h
        refine r_call (ix := 70) (as := [.long 6385252]) (rest := []) (rv := some (.int q33.1)) (hp' := xW B q33.2) (pc := 33) rfl xr167 rfl rfl rfl (xkd H (by decide)) (Nat.le_of_ble_eq_true rfl) (Z167 H h33 (by omega)) (Nat.le_refl _) ?_
        refine r_if (len := 3) (a := 49) (b := 0) (v0 := .null) (cn := .ne) (off := 13) rfl (fun c => ?_) (fun c => ?_)
        · rw [if_pos c] at h
          exact T184_49 H he F _ ih l0 l1 h
        · rw [if_neg (by rw [c]; decide)] at h
          refine q_lr (k := 1) (i := 0) (q := (.aload_n 0, 1, 0, 0, .null)) rfl (fun _ => rfl) l0 ?_
          refine r_s (fr' := (43, lv, [.long 28530, .ref 70])) (hp' := xW B q33.2) (q := (.ldc2_w 195, 3, 0, 0, .long 28530)) rfl (fun _ => rfl) (Nat.le_refl _) ?_
          obtain ⟨q43, h43, h⟩ := xbind h
          refine r_call (ix := 70) (as := [.long 28530]) (rest := []) (rv := some (.int q43.1)) (hp' := xW B q43.2) (pc := 43) rfl xr167 rfl rfl rfl (xkd H (by decide)) (Nat.le_of_ble_eq_true rfl) (Z167 H h43 (by omega)) (Nat.le_refl _) ?_
          refine r_if (len := 3) (a := 53) (b := 0) (v0 := .null) (cn := .eq) (off := 7) rfl (fun c => ?_) (fun c => ?_)
          · rw [if_pos c] at h
            refine r_s (fr' := (54, lv, [.int 0])) (hp' := xW B q43.2) (q := (.iconst 0, 1, 0, 0, .null)) rfl (fun _ => rfl) (Nat.le_refl _) ?_
            exact T184_54 H he F _ ih l0 l1 h
          · rw [if_neg (by rw [c]; decide)] at h
            exact T184_49 H he F _ ih l0 l1 h
      · rw [if_neg (by rw [c]; decide)] at h
        refine r_s (fr' := (24, lv, [.int 0])) (hp' := xW B q17.2) (q := (.iconst 0, 1, 0, 0, .null)) rfl (fun _ => rfl) (Nat.le_refl _) ?_
        obtain rfl := Option.some.inj h
        exact q_ri (q := (.ireturn, 1, 0, 0, .null)) rfl (fun _ => rfl) rfl rfl
def D184 (F : Nat) (m : xS) : Option (Int32 × xS) :=
  D184_12 F F 1 (xu (xu m 70 16 0) 70 13 0)
set_option maxRecDepth 20000 in
theorem T184 {B : zHp} (H : yH0 B) {e : Nat} (he : 9 ≤ e + 1) (F : Nat) {lv : List (Nat × Value)} {m : xS} {x : Int32 × xS} (l0 : zld lv 0 = some (.ref 70)) (h : D184 F m = some x) : zR none e 3 (some .boolean) zc184 (0, lv, []) (xW B m) (some (.int x.1), xW B x.2) := by
  unfold D184 at h
  refine q_lr (k := 1) (i := 0) (q := (.aload_n 0, 1, 0, 0, .null)) rfl (fun _ => rfl) l0 ?_
  refine r_s (fr' := (2, lv, [.int 0, .ref 70])) (hp' := xW B m) (q := (.iconst 0, 1, 0, 0, .null)) rfl (fun _ => rfl) (Nat.le_refl _) ?_
  refine r_pi (s2 := (xu m 70 16 0)) H (pc := 2) rfl (by decide) rfl rfl ?_
  refine q_lr (k := 1) (i := 0) (q := (.aload_n 0, 1, 0, 0, .null)) rfl (fun _ => rfl) l0 ?_
  refine r_s (fr' := (7, lv, [.int 0, .ref 70])) (hp' := xW B (xu m 70 16 0)) (q := (.iconst 0, 1, 0, 0, .null)) rfl (fun _ => rfl) (Nat.le_refl _) ?_
  refine r_pi (s2 := (xu (xu m 70 16 0) 70 13 0)) H (pc := 7) rfl (by decide) rfl rfl ?_
  refine r_s (fr' := (11, lv, [.int 1])) (hp' := xW B (xu (xu m 70 16 0) 70 13 0)) (q := (.iconst 1, 1, 0, 0, .null)) rfl (fun _ => rfl) (Nat.le_refl _) ?_
  refine q_si (k := 1) (i := 1) (q := (.istore_n 1, 1, 0, 0, .null)) rfl (fun _ => rfl) (by decide) ?_
  have l0_1 : zld (zs1 lv 1 (.int 1)) 0 = some (.ref 70) := x_o1 l0 rfl rfl
  have l1_1 : zld (zs1 lv 1 (.int 1)) 1 = some (.int 1) := zs1_ld _ _ _
  generalize (zs1 lv 1 (.int 1)) = lv1 at *
  exact T184_12 H he F F l0_1 l1_1 h
set_option maxRecDepth 20000 in
theorem Z184 {B : zHp} (H : yH0 B) {F : Nat} {m : xS} {x : Int32 × xS} (h : D184 F m = some x) {d : Nat} (hd : 9 ≤ d) : zCan d 184 [.ref 70] (xW B m) (some (.int x.1), xW B x.2) := by
  obtain ⟨e, rfl⟩ : ∃ e, d = e + 1 := ⟨d - 1, by omega⟩
  refine zCan_body (nL := 3) (rt := (some .boolean)) (cd := zc184) (xg184) ⟨Nat.le_of_ble_eq_true rfl, by decide⟩ (Nat.le_refl _) ?_
  exact T184 H hd F rfl h
/-- LentToolsModel.isLendHere -/
def D185_110 (F : Nat) (v1 : Int32) (m : xS) : Option (Int32 × xS) :=
  if xib (m.1 70 11) 7 = true then
    if xib (v1 + 3) 288 = true then
      if xib (m.1 70 11) 6 = true then
        if xib (m.1 70 11) 6 = true then
          some (1, (xu (xu m 74 ((v1 + 3) : Int32).toNatClampNeg (m.1 73 ((m.1 70 11) : Int32).toNatClampNeg)) 75 ((m.1 70 11) : Int32).toNatClampNeg ((m.1 75 ((m.1 70 11) : Int32).toNatClampNeg) + 1)))
        else none
      else none
    else none
  else none
set_option maxRecDepth 20000 in
theorem T185_110 {B : zHp} (H : yH0 B) {e : Nat} (he : 10 ≤ e + 1) (F : Nat) {v1 : Int32} {lv : List (Nat × Value)} {m : xS} {x : Int32 × xS} (l0 : zld lv 0 = some (.ref 70)) (l1 : zld lv 1 = some (.int v1)) (h : D185_110 F v1 m = some x) : zR none e 2 (some .boolean) zc185 (110, lv, []) (xW B m) (some (.int x.1), xW B x.2) := by
  unfold D185_110 at h
  refine q_lr (k := 1) (i := 0) (q := (.aload_n 0, 1, 0, 0, .null)) rfl (fun _ => rfl) l0 ?_
  refine r_gr (c := 74) H (pc := 111) rfl (by decide) (by decide) ?_
  refine q_li (k := 1) (i := 1) (q := (.iload_n 1, 1, 0, 0, .null)) rfl (fun _ => rfl) l1 ?_
  refine r_s (fr' := (116, lv, [.int 3, .int v1, .ref 74])) (hp' := xW B m) (q := (.iconst 3, 1, 0, 0, .null)) rfl (fun _ => rfl) (Nat.le_refl _) ?_
  refine r_s (fr' := (117, lv, [.int (v1 + 3), .ref 74])) (hp' := xW B m) (q := (.iadd, 1, 0, 0, .null)) rfl (fun _ => rfl) (Nat.le_refl _) ?_
  refine q_lr (k := 1) (i := 0) (q := (.aload_n 0, 1, 0, 0, .null)) rfl (fun _ => rfl) l0 ?_
  refine r_gr (c := 73) H (pc := 118) rfl (by decide) (by decide) ?_
  refine q_lr (k := 1) (i := 0) (q := (.aload_n 0, 1, 0, 0, .null)) rfl (fun _ => rfl) l0 ?_
  refine r_gi (v := (m.1 70 11)) H (pc := 122) (i := _) rfl (by decide) (by decide) rfl ?_
  obtain ⟨c1, h⟩ := xif h
  refine q_al (n := 7) (v := (m.1 73 ((m.1 70 11) : Int32).toNatClampNeg)) H (pc := 125) rfl (by decide) c1 rfl ?_
  obtain ⟨c2, h⟩ := xif h
  refine q_as (n := 288) (s2 := (xu m 74 ((v1 + 3) : Int32).toNatClampNeg (m.1 73 ((m.1 70 11) : Int32).toNatClampNeg))) H (pc := 126) rfl (by decide) c2 rfl ?_
  refine q_lr (k := 1) (i := 0) (q := (.aload_n 0, 1, 0, 0, .null)) rfl (fun _ => rfl) l0 ?_
  refine r_gr (c := 75) H (pc := 128) rfl (by decide) (by decide) ?_
  refine q_lr (k := 1) (i := 0) (q := (.aload_n 0, 1, 0, 0, .null)) rfl (fun _ => rfl) l0 ?_
  refine r_gi (v := (m.1 70 11)) H (pc := 132) (i := _) rfl (by decide) (by decide) rfl ?_
  refine r_s (fr' := (136, lv, [.int (m.1 70 11), .ref 75, .int (m.1 70 11), .ref 75])) (hp' := xW B (xu m 74 ((v1 + 3) : Int32).toNatClampNeg (m.1 73 ((m.1 70 11) : Int32).toNatClampNeg))) (q := (.dup2, 1, 0, 0, .null)) rfl (fun _ => rfl) (Nat.le_refl _) ?_
  obtain ⟨c3, h⟩ := xif h
  refine q_al (n := 6) (v := (m.1 75 ((m.1 70 11) : Int32).toNatClampNeg)) H (pc := 136) rfl (by decide) c3 rfl ?_
  refine r_s (fr' := (138, lv, [.int 1, .int (m.1 75 ((m.1 70 11) : Int32).toNatClampNeg), .int (m.1 70 11), .ref 75])) (hp' := xW B (xu m 74 ((v1 + 3) : Int32).toNatClampNeg (m.1 73 ((m.1 70 11) : Int32).toNatClampNeg))) (q := (.iconst 1, 1, 0, 0, .null)) rfl (fun _ => rfl) (Nat.le_refl _) ?_
  refine r_s (fr' := (139, lv, [.int ((m.1 75 ((m.1 70 11) : Int32).toNatClampNeg) + 1), .int (m.1 70 11), .ref 75])) (hp' := xW B (xu m 74 ((v1 + 3) : Int32).toNatClampNeg (m.1 73 ((m.1 70 11) : Int32).toNatClampNeg))) (q := (.iadd, 1, 0, 0, .null)) rfl (fun _ => rfl) (Nat.le_refl _) ?_
  obtain ⟨c4, h⟩ := xif h
  refine q_as (n := 6) (s2 := (xu (xu m 74 ((v1 + 3) : Int32).toNatClampNeg (m.1 73 ((m.1 70 11) : Int32).toNatClampNeg)) 75 ((m.1 70 11) : Int32).toNatClampNeg ((m.1 75 ((m.1 70 11) : Int32).toNatClampNeg) + 1))) H (pc := 139) rfl (by decide) c4 rfl ?_
  refine r_s (fr' := (141, lv, [.int 1])) (hp' := xW B (xu (xu m 74 ((v1 + 3) : Int32).toNatClampNeg (m.1 73 ((m.1 70 11) : Int32).toNatClampNeg)) 75 ((m.1 70 11) : Int32).toNatClampNeg ((m.1 75 ((m.1 70 11) : Int32).toNatClampNeg) + 1))) (q := (.iconst 1, 1, 0, 0, .null)) rfl (fun _ => rfl) (Nat.le_refl _) ?_
  obtain rfl := Option.some.inj h
  exact q_ri (q := (.ireturn, 1, 0, 0, .null)) rfl (fun _ => rfl) rfl rfl
def D185 (F : Nat) (m : xS) : Option (Int32 × xS) :=
  (D168 F m).bind fun q1 =>
    if xib (q1.2.1 70 11) 6 = true then
      if xib (q1.2.1 70 11) 7 = true then
        if xib ((48 * (q1.2.1 70 11)) + (4 * (q1.2.1 75 ((q1.2.1 70 11) : Int32).toNatClampNeg))) 288 = true then
          (D179 F (xu q1.2 74 (((48 * (q1.2.1 70 11)) + (4 * (q1.2.1 75 ((q1.2.1 70 11) : Int32).toNatClampNeg))) : Int32).toNatClampNeg (q1.2.1 73 ((q1.2.1 70 11) : Int32).toNatClampNeg))).bind fun q40 =>
            if zcmp .ne q40.1 0 = true then
              if xib (q40.2.1 70 11) 7 = true then
                if xib (((48 * (q1.2.1 70 11)) + (4 * (q1.2.1 75 ((q1.2.1 70 11) : Int32).toNatClampNeg))) + 1) 288 = true then
                  if xib (((48 * (q1.2.1 70 11)) + (4 * (q1.2.1 75 ((q1.2.1 70 11) : Int32).toNatClampNeg))) + 2) 288 = true then
                    (D169 F 26982 (xu (xu q40.2 74 ((((48 * (q1.2.1 70 11)) + (4 * (q1.2.1 75 ((q1.2.1 70 11) : Int32).toNatClampNeg))) + 1) : Int32).toNatClampNeg (q40.2.1 73 ((q40.2.1 70 11) : Int32).toNatClampNeg)) 74 ((((48 * (q1.2.1 70 11)) + (4 * (q1.2.1 75 ((q1.2.1 70 11) : Int32).toNatClampNeg))) + 2) : Int32).toNatClampNeg (-1))).bind fun q78 =>
                      if zcmp .eq q78.1 0 = true then
                        D185_110 F ((48 * (q1.2.1 70 11)) + (4 * (q1.2.1 75 ((q1.2.1 70 11) : Int32).toNatClampNeg))) q78.2
                      else
                        if xib (q78.2.1 70 11) 7 = true then
                          if xib (((48 * (q1.2.1 70 11)) + (4 * (q1.2.1 75 ((q1.2.1 70 11) : Int32).toNatClampNeg))) + 2) 288 = true then
                            (D184 F (xu q78.2 74 ((((48 * (q1.2.1 70 11)) + (4 * (q1.2.1 75 ((q1.2.1 70 11) : Int32).toNatClampNeg))) + 2) : Int32).toNatClampNeg (q78.2.1 73 ((q78.2.1 70 11) : Int32).toNatClampNeg))).bind fun q102 =>
                              if zcmp .ne q102.1 0 = true then
                                D185_110 F ((48 * (q1.2.1 70 11)) + (4 * (q1.2.1 75 ((q1.2.1 70 11) : Int32).toNatClampNeg))) q102.2
                              else
                                some (0, q102.2)
                          else none
                        else none
                  else none
                else none
              else none
            else
              some (0, q40.2)
        else none
      else none
    else none
set_option maxRecDepth 20000 in
theorem T185 {B : zHp} (H : yH0 B) {e : Nat} (he : 10 ≤ e + 1) (F : Nat) {lv : List (Nat × Value)} {m : xS} {x : Int32 × xS} (l0 : zld lv 0 = some (.ref 70)) (h : D185 F m = some x) : zR none e 2 (some .boolean) zc185 (0, lv, []) (xW B m) (some (.int x.1), xW B x.2) := by
  unfold D185 at h
  refine q_lr (k := 1) (i := 0) (q := (.aload_n 0, 1, 0, 0, .null)) rfl (fun _ => rfl) l0 ?_
  obtain ⟨q1, h1, h⟩ := xbind h
  refine r_call (ix := 70) (as := []) (rest := []) (rv := none) (hp' := xW B q1.2) (pc := 1) rfl xr168 rfl rfl rfl (xkd H (by decide)) (Nat.le_of_ble_eq_true rfl) (Z168 H h1 (by omega)) (Nat.le_refl _) ?_
  refine r_s (fr' := (6, lv, [.int 48])) (hp' := xW B q1.2) (q := (.bipush 48, 2, 0, 0, .null)) rfl (fun _ => rfl) (Nat.le_refl _) ?_
  refine q_lr (k := 1) (i := 0) (q := (.aload_n 0, 1, 0, 0, .null)) rfl (fun _ => rfl) l0 ?_
  refine r_gi (v := (q1.2.1 70 11)) H (pc := 7) (i := _) rfl (by decide) (by decide) rfl ?_
  refine r_s (fr' := (11, lv, [.int (48 * (q1.2.1 70 11))])) (hp' := xW B q1.2) (q := (.imul, 1, 0, 0, .null)) rfl (fun _ => rfl) (Nat.le_refl _) ?_
  refine r_s (fr' := (12, lv, [.int 4, .int (48 * (q1.2.1 70 11))])) (hp' := xW B q1.2) (q := (.iconst 4, 1, 0, 0, .null)) rfl (fun _ => rfl) (Nat.le_refl _) ?_
  refine q_lr (k := 1) (i := 0) (q := (.aload_n 0, 1, 0, 0, .null)) rfl (fun _ => rfl) l0 ?_
  refine r_gr (c := 75) H (pc := 13) rfl (by decide) (by decide) ?_
  refine q_lr (k := 1) (i := 0) (q := (.aload_n 0, 1, 0, 0, .null)) rfl (fun _ => rfl) l0 ?_
  refine r_gi (v := (q1.2.1 70 11)) H (pc := 17) (i := _) rfl (by decide) (by decide) rfl ?_
  obtain ⟨c1, h⟩ := xif h
  refine q_al (n := 6) (v := (q1.2.1 75 ((q1.2.1 70 11) : Int32).toNatClampNeg)) H (pc := 20) rfl (by decide) c1 rfl ?_
  refine r_s (fr' := (22, lv, [.int (4 * (q1.2.1 75 ((q1.2.1 70 11) : Int32).toNatClampNeg)), .int (48 * (q1.2.1 70 11))])) (hp' := xW B q1.2) (q := (.imul, 1, 0, 0, .null)) rfl (fun _ => rfl) (Nat.le_refl _) ?_
  refine r_s (fr' := (23, lv, [.int ((48 * (q1.2.1 70 11)) + (4 * (q1.2.1 75 ((q1.2.1 70 11) : Int32).toNatClampNeg)))])) (hp' := xW B q1.2) (q := (.iadd, 1, 0, 0, .null)) rfl (fun _ => rfl) (Nat.le_refl _) ?_
  refine q_si (k := 1) (i := 1) (q := (.istore_n 1, 1, 0, 0, .null)) rfl (fun _ => rfl) (by decide) ?_
  have l0_2 : zld (zs1 lv 1 (.int ((48 * (q1.2.1 70 11)) + (4 * (q1.2.1 75 ((q1.2.1 70 11) : Int32).toNatClampNeg))))) 0 = some (.ref 70) := x_o1 l0 rfl rfl
  have l1_2 : zld (zs1 lv 1 (.int ((48 * (q1.2.1 70 11)) + (4 * (q1.2.1 75 ((q1.2.1 70 11) : Int32).toNatClampNeg))))) 1 = some (.int ((48 * (q1.2.1 70 11)) + (4 * (q1.2.1 75 ((q1.2.1 70 11) : Int32).toNatClampNeg)))) := zs1_ld _ _ _
  generalize (zs1 lv 1 (.int ((48 * (q1.2.1 70 11)) + (4 * (q1.2.1 75 ((q1.2.1 70 11) : Int32).toNatClampNeg))))) = lv2 at *
  refine q_lr (k := 1) (i := 0) (q := (.aload_n 0, 1, 0, 0, .null)) rfl (fun _ => rfl) l0_2 ?_
  refine r_gr (c := 74) H (pc := 25) rfl (by decide) (by decide) ?_
  refine q_li (k := 1) (i := 1) (q := (.iload_n 1, 1, 0, 0, .null)) rfl (fun _ => rfl) l1_2 ?_
  refine q_lr (k := 1) (i := 0) (q := (.aload_n 0, 1, 0, 0, .null)) rfl (fun _ => rfl) l0_2 ?_
  refine r_gr (c := 73) H (pc := 30) rfl (by decide) (by decide) ?_
  refine q_lr (k := 1) (i := 0) (q := (.aload_n 0, 1, 0, 0, .null)) rfl (fun _ => rfl) l0_2 ?_
  refine r_gi (v := (q1.2.1 70 11)) H (pc := 34) (i := _) rfl (by decide) (by decide) rfl ?_
  obtain ⟨c3, h⟩ := xif h
  refine q_al (n := 7) (v := (q1.2.1 73 ((q1.2.1 70 11) : Int32).toNatClampNeg)) H (pc := 37) rfl (by decide) c3 rfl ?_
  obtain ⟨c4, h⟩ := xif h
  refine q_as (n := 288) (s2 := (xu q1.2 74 (((48 * (q1.2.1 70 11)) + (4 * (q1.2.1 75 ((q1.2.1 70 11) : Int32).toNatClampNeg))) : Int32).toNatClampNeg (q1.2.1 73 ((q1.2.1 70 11) : Int32).toNatClampNeg))) H (pc := 38) rfl (by decide) c4 rfl ?_
  refine q_lr (k := 1) (i := 0) (q := (.aload_n 0, 1, 0, 0, .null)) rfl (fun _ => rfl) l0_2 ?_
  obtain ⟨q40, h40, h⟩ := xbind h
  refine r_call (ix := 70) (as := []) (rest := []) (rv := some (.int q40.1)) (hp' := xW B q40.2) (pc := 40) rfl xr179 rfl rfl rfl (xkd H (by decide)) (Nat.le_of_ble_eq_true rfl) (Z179 H h40 (by omega)) (Nat.le_refl _) ?_
  refine r_if (len := 3) (a := 48) (b := 0) (v0 := .null) (cn := .ne) (off := 5) rfl (fun c => ?_) (fun c => ?_)
  · rw [if_pos c] at h
    refine q_lr (k := 1) (i := 0) (q := (.aload_n 0, 1, 0, 0, .null)) rfl (fun _ => rfl) l0_2 ?_
    refine r_gr (c := 74) H (pc := 49) rfl (by decide) (by decide) ?_
    refine q_li (k := 1) (i := 1) (q := (.iload_n 1, 1, 0, 0, .null)) rfl (fun _ => rfl) l1_2 ?_
    refine r_s (fr' := (54, lv2, [.int 1, .int ((48 * (q1.2.1 70 11)) + (4 * (q1.2.1 75 ((q1.2.1 70 11) : Int32).toNatClampNeg))), .ref 74])) (hp' := xW B q40.2) (q := (.iconst 1, 1, 0, 0, .null)) rfl (fun _ => rfl) (Nat.le_refl _) ?_
    refine r_s (fr' := (55, lv2, [.int (((48 * (q1.2.1 70 11)) + (4 * (q1.2.1 75 ((q1.2.1 70 11) : Int32).toNatClampNeg))) + 1), .ref 74])) (hp' := xW B q40.2) (q := (.iadd, 1, 0, 0, .null)) rfl (fun _ => rfl) (Nat.le_refl _) ?_
    refine q_lr (k := 1) (i := 0) (q := (.aload_n 0, 1, 0, 0, .null)) rfl (fun _ => rfl) l0_2 ?_
    refine r_gr (c := 73) H (pc := 56) rfl (by decide) (by decide) ?_
    refine q_lr (k := 1) (i := 0) (q := (.aload_n 0, 1, 0, 0, .null)) rfl (fun _ => rfl) l0_2 ?_
    refine r_gi (v := (q40.2.1 70 11)) H (pc := 60) (i := _) rfl (by decide) (by decide) rfl ?_
    obtain ⟨c5, h⟩ := xif h
    refine q_al (n := 7) (v := (q40.2.1 73 ((q40.2.1 70 11) : Int32).toNatClampNeg)) H (pc := 63) rfl (by decide) c5 rfl ?_
    obtain ⟨c6, h⟩ := xif h
    refine q_as (n := 288) (s2 := (xu q40.2 74 ((((48 * (q1.2.1 70 11)) + (4 * (q1.2.1 75 ((q1.2.1 70 11) : Int32).toNatClampNeg))) + 1) : Int32).toNatClampNeg (q40.2.1 73 ((q40.2.1 70 11) : Int32).toNatClampNeg))) H (pc := 64) rfl (by decide) c6 rfl ?_
    refine q_lr (k := 1) (i := 0) (q := (.aload_n 0, 1, 0, 0, .null)) rfl (fun _ => rfl) l0_2 ?_
    refine r_gr (c := 74) H (pc := 66) rfl (by decide) (by decide) ?_
    refine q_li (k := 1) (i := 1) (q := (.iload_n 1, 1, 0, 0, .null)) rfl (fun _ => rfl) l1_2 ?_
    refine r_s (fr' := (71, lv2, [.int 2, .int ((48 * (q1.2.1 70 11)) + (4 * (q1.2.1 75 ((q1.2.1 70 11) : Int32).toNatClampNeg))), .ref 74])) (hp' := xW B (xu q40.2 74 ((((48 * (q1.2.1 70 11)) + (4 * (q1.2.1 75 ((q1.2.1 70 11) : Int32).toNatClampNeg))) + 1) : Int32).toNatClampNeg (q40.2.1 73 ((q40.2.1 70 11) : Int32).toNatClampNeg))) (q := (.iconst 2, 1, 0, 0, .null)) rfl (fun _ => rfl) (Nat.le_refl _) ?_
    refine r_s (fr' := (72, lv2, [.int (((48 * (q1.2.1 70 11)) + (4 * (q1.2.1 75 ((q1.2.1 70 11) : Int32).toNatClampNeg))) + 2), .ref 74])) (hp' := xW B (xu q40.2 74 ((((48 * (q1.2.1 70 11)) + (4 * (q1.2.1 75 ((q1.2.1 70 11) : Int32).toNatClampNeg))) + 1) : Int32).toNatClampNeg (q40.2.1 73 ((q40.2.1 70 11) : Int32).toNatClampNeg))) (q := (.iadd, 1, 0, 0, .null)) rfl (fun _ => rfl) (Nat.le_refl _) ?_
    refine r_s (fr' := (73, lv2, [.int (-1), .int (((48 * (q1.2.1 70 11)) + (4 * (q1.2.1 75 ((q1.2.1 70 11) : Int32).toNatClampNeg))) + 2), .ref 74])) (hp' := xW B (xu q40.2 74 ((((48 * (q1.2.1 70 11)) + (4 * (q1.2.1 75 ((q1.2.1 70 11) : Int32).toNatClampNeg))) + 1) : Int32).toNatClampNeg (q40.2.1 73 ((q40.2.1 70 11) : Int32).toNatClampNeg))) (q := (.iconst (-1), 1, 0, 0, .null)) rfl (fun _ => rfl) (Nat.le_refl _) ?_
    obtain ⟨c7, h⟩ := xif h
    refine q_as (n := 288) (s2 := (xu (xu q40.2 74 ((((48 * (q1.2.1 70 11)) + (4 * (q1.2.1 75 ((q1.2.1 70 11) : Int32).toNatClampNeg))) + 1) : Int32).toNatClampNeg (q40.2.1 73 ((q40.2.1 70 11) : Int32).toNatClampNeg)) 74 ((((48 * (q1.2.1 70 11)) + (4 * (q1.2.1 75 ((q1.2.1 70 11) : Int32).toNatClampNeg))) + 2) : Int32).toNatClampNeg (-1))) H (pc := 73) rfl (by decide) c7 rfl ?_
    refine q_lr (k := 1) (i := 0) (q := (.aload_n 0, 1, 0, 0, .null)) rfl (fun _ => rfl) l0_2 ?_
    refine r_s (fr' := (78, lv2, [.long 26982, .ref 70])) (hp' := xW B (xu (xu q40.2 74 ((((48 * (q1.2.1 70 11)) + (4 * (q1.2.1 75 ((q1.2.1 70 11) : Int32).toNatClampNeg))) + 1) : Int32).toNatClampNeg (q40.2.1 73 ((q40.2.1 70 11) : Int32).toNatClampNeg)) 74 ((((48 * (q1.2.1 70 11)) + (4 * (q1.2.1 75 ((q1.2.1 70 11) : Int32).toNatClampNeg))) + 2) : Int32).toNatClampNeg (-1))) (q := (.ldc2_w 197, 3, 0, 0, .long 26982)) rfl (fun _ => rfl) (Nat.le_refl _) ?_
    obtain ⟨q78, h78, h⟩ := xbind h
    refine r_call (ix := 70) (as := [.long 26982]) (rest := []) (rv := some (.int q78.1)) (hp' := xW B q78.2) (pc := 78) rfl xr169 rfl rfl rfl (xkd H (by decide)) (Nat.le_of_ble_eq_true rfl) (Z169 H h78 (by omega)) (Nat.le_refl _) ?_
    refine r_if (len := 3) (a := 110) (b := 0) (v0 := .null) (cn := .eq) (off := 29) rfl (fun c => ?_) (fun c => ?_)
    · rw [if_pos c] at h
      exact T185_110 H he F l0_2 l1_2 h
    · rw [if_neg (by rw [c]; decide)] at h
      refine q_lr (k := 1) (i := 0) (q := (.aload_n 0, 1, 0, 0, .null)) rfl (fun _ => rfl) l0_2 ?_
      refine r_gr (c := 74) H (pc := 85) rfl (by decide) (by decide) ?_
      refine q_li (k := 1) (i := 1) (q := (.iload_n 1, 1, 0, 0, .null)) rfl (fun _ => rfl) l1_2 ?_
      refine r_s (fr' := (90, lv2, [.int 2, .int ((48 * (q1.2.1 70 11)) + (4 * (q1.2.1 75 ((q1.2.1 70 11) : Int32).toNatClampNeg))), .ref 74])) (hp' := xW B q78.2) (q := (.iconst 2, 1, 0, 0, .null)) rfl (fun _ => rfl) (Nat.le_refl _) ?_
      refine r_s (fr' := (91, lv2, [.int (((48 * (q1.2.1 70 11)) + (4 * (q1.2.1 75 ((q1.2.1 70 11) : Int32).toNatClampNeg))) + 2), .ref 74])) (hp' := xW B q78.2) (q := (.iadd, 1, 0, 0, .null)) rfl (fun _ => rfl) (Nat.le_refl _) ?_
      refine q_lr (k := 1) (i := 0) (q := (.aload_n 0, 1, 0, 0, .null)) rfl (fun _ => rfl) l0_2 ?_
      refine r_gr (c := 73) H (pc := 92) rfl (by decide) (by decide) ?_
      refine q_lr (k := 1) (i := 0) (q := (.aload_n 0, 1, 0, 0, .null)) rfl (fun _ => rfl) l0_2 ?_
      refine r_gi (v := (q78.2.1 70 11)) H (pc := 96) (i := _) rfl (by decide) (by decide) rfl ?_
      obtain ⟨c8, h⟩ := xif h
      refine q_al (n := 7) (v := (q78.2.1 73 ((q78.2.1 70 11) : Int32).toNatClampNeg)) H (pc := 99) rfl (by decide) c8 rfl ?_
      obtain ⟨c9, h⟩ := xif h
      refine q_as (n := 288) (s2 := (xu q78.2 74 ((((48 * (q1.2.1 70 11)) + (4 * (q1.2.1 75 ((q1.2.1 70 11) : Int32).toNatClampNeg))) + 2) : Int32).toNatClampNeg (q78.2.1 73 ((q78.2.1 70 11) : Int32).toNatClampNeg))) H (pc := 100) rfl (by decide) c9 rfl ?_
      refine q_lr (k := 1) (i := 0) (q := (.aload_n 0, 1, 0, 0, .null)) rfl (fun _ => rfl) l0_2 ?_
      obtain ⟨q102, h102, h⟩ := xbind h
      refine r_call (ix := 70) (as := []) (rest := []) (rv := some (.int q102.1)) (hp' := xW B q102.2) (pc := 102) rfl xr184 rfl rfl rfl (xkd H (by decide)) (Nat.le_of_ble_eq_true rfl) (Z184 H h102 (by omega)) (Nat.le_refl _) ?_
      refine r_if (len := 3) (a := 110) (b := 0) (v0 := .null) (cn := .ne) (off := 5) rfl (fun c => ?_) (fun c => ?_)
      · rw [if_pos c] at h
        exact T185_110 H he F l0_2 l1_2 h
      · rw [if_neg (by rw [c]; decide)] at h
        refine r_s (fr' := (109, lv2, [.int 0])) (hp' := xW B q102.2) (q := (.iconst 0, 1, 0, 0, .null)) rfl (fun _ => rfl) (Nat.le_refl _) ?_
        obtain rfl := Option.some.inj h
        exact q_ri (q := (.ireturn, 1, 0, 0, .null)) rfl (fun _ => rfl) rfl rfl
  · rw [if_neg (by rw [c]; decide)] at h
    refine r_s (fr' := (47, lv2, [.int 0])) (hp' := xW B q40.2) (q := (.iconst 0, 1, 0, 0, .null)) rfl (fun _ => rfl) (Nat.le_refl _) ?_
    obtain rfl := Option.some.inj h
    exact q_ri (q := (.ireturn, 1, 0, 0, .null)) rfl (fun _ => rfl) rfl rfl
set_option maxRecDepth 20000 in
theorem Z185 {B : zHp} (H : yH0 B) {F : Nat} {m : xS} {x : Int32 × xS} (h : D185 F m = some x) {d : Nat} (hd : 10 ≤ d) : zCan d 185 [.ref 70] (xW B m) (some (.int x.1), xW B x.2) := by
  obtain ⟨e, rfl⟩ : ∃ e, d = e + 1 := ⟨d - 1, by omega⟩
  refine zCan_body (nL := 2) (rt := (some .boolean)) (cd := zc185) (xg185) ⟨Nat.le_of_ble_eq_true rfl, by decide⟩ (Nat.le_refl _) ?_
  exact T185 H hd F rfl h
/-- LentToolsModel.clauseHere -/
def D195_49 (F : Nat) (v1 : Int32) (v2 : Int32) (m : xS) : Option (Int32 × xS) :=
  (D163 F 0 v1 m).bind fun q52 =>
    if xbo q52.1 = true then
      some (q52.1, q52.2)
    else none
set_option maxRecDepth 20000 in
theorem T195_49 {B : zHp} (H : yH0 B) {e : Nat} (he : 11 ≤ e + 1) (F : Nat) {v1 : Int32} {v2 : Int32} {lv : List (Nat × Value)} {m : xS} {x : Int32 × xS} (l0 : zld lv 0 = some (.ref 70)) (l1 : zld lv 1 = some (.int v1)) (l2 : zld lv 2 = some (.int v2)) (h : D195_49 F v1 v2 m = some x) : zR none e 3 (some .boolean) zc195 (49, lv, []) (xW B m) (some (.int x.1), xW B x.2) := by
  unfold D195_49 at h
  refine q_lr (k := 1) (i := 0) (q := (.aload_n 0, 1, 0, 0, .null)) rfl (fun _ => rfl) l0 ?_
  refine r_s (fr' := (51, lv, [.int 0, .ref 70])) (hp' := xW B m) (q := (.iconst 0, 1, 0, 0, .null)) rfl (fun _ => rfl) (Nat.le_refl _) ?_
  refine q_li (k := 1) (i := 1) (q := (.iload_n 1, 1, 0, 0, .null)) rfl (fun _ => rfl) l1 ?_
  obtain ⟨q52, h52, h⟩ := xbind h
  refine r_call (ix := 70) (as := [.int 0, .int v1]) (rest := []) (rv := some (.int q52.1)) (hp' := xW B q52.2) (pc := 52) rfl xr163 rfl rfl rfl (xkd H (by decide)) (Nat.le_of_ble_eq_true rfl) (Z163 H h52 (by omega)) (Nat.le_refl _) ?_
  obtain ⟨c1, h⟩ := xif h
  obtain rfl := Option.some.inj h
  exact q_ri (q := (.ireturn, 1, 0, 0, .null)) rfl (fun _ => rfl) rfl (xbo_ok c1)
def D195_71 (F : Nat) (v1 : Int32) (v2 : Int32) (w0 : Int32) (w1 : Int32) (m : xS) : Option (Int32 × xS) :=
  if zcmp .ne w1 w0 = true then
    if zcmp .eq v2 0 = true then
      (D185 F (xu m 70 14 ((m.1 70 14) + 1))).bind fun q104 =>
        if xbo q104.1 = true then
          some (q104.1, q104.2)
        else none
    else
      (D193 F v1 (xu m 70 14 ((m.1 70 14) + 1))).bind fun q97 =>
        if xbo q97.1 = true then
          some (q97.1, q97.2)
        else none
  else
    (D163 F 4 v1 m).bind fun q77 =>
      if xbo q77.1 = true then
        some (q77.1, q77.2)
      else none
set_option maxRecDepth 20000 in
theorem T195_71 {B : zHp} (H : yH0 B) {e : Nat} (he : 11 ≤ e + 1) (F : Nat) {v1 : Int32} {v2 : Int32} {w0 : Int32} {w1 : Int32} {lv : List (Nat × Value)} {m : xS} {x : Int32 × xS} (l0 : zld lv 0 = some (.ref 70)) (l1 : zld lv 1 = some (.int v1)) (l2 : zld lv 2 = some (.int v2)) (h : D195_71 F v1 v2 w0 w1 m = some x) : zR none e 3 (some .boolean) zc195 (71, lv, [.int w0, .int w1]) (xW B m) (some (.int x.1), xW B x.2) := by
  unfold D195_71 at h
  refine r_ifc (len := 3) (a := 81) (b := 0) (v0 := .null) (cn := .ne) (off := 10) rfl (fun c => ?_) (fun c => ?_)
  · rw [if_pos c] at h
    refine q_lr (k := 1) (i := 0) (q := (.aload_n 0, 1, 0, 0, .null)) rfl (fun _ => rfl) l0 ?_
    refine r_s (fr' := (83, lv, [.ref 70, .ref 70])) (hp' := xW B m) (q := (.dup, 1, 0, 0, .null)) rfl (fun _ => rfl) (Nat.le_refl _) ?_
    refine r_gi (v := (m.1 70 14)) H (pc := 83) (i := _) rfl (by decide) (by decide) rfl ?_
    refine r_s (fr' := (87, lv, [.int 1, .int (m.1 70 14), .ref 70])) (hp' := xW B m) (q := (.iconst 1, 1, 0, 0, .null)) rfl (fun _ => rfl) (Nat.le_refl _) ?_
    refine r_s (fr' := (88, lv, [.int ((m.1 70 14) + 1), .ref 70])) (hp' := xW B m) (q := (.iadd, 1, 0, 0, .null)) rfl (fun _ => rfl) (Nat.le_refl _) ?_
    refine r_pi (s2 := (xu m 70 14 ((m.1 70 14) + 1))) H (pc := 88) rfl (by decide) rfl rfl ?_
    refine q_li (k := 1) (i := 2) (q := (.iload_n 2, 1, 0, 0, .null)) rfl (fun _ => rfl) l2 ?_
    refine r_if (len := 3) (a := 103) (b := 0) (v0 := .null) (cn := .eq) (off := 11) rfl (fun c => ?_) (fun c => ?_)
    · rw [if_pos c] at h
      refine q_lr (k := 1) (i := 0) (q := (.aload_n 0, 1, 0, 0, .null)) rfl (fun _ => rfl) l0 ?_
      obtain ⟨q104, h104, h⟩ := xbind h
      refine r_call (ix := 70) (as := []) (rest := []) (rv := some (.int q104.1)) (hp' := xW B q104.2) (pc := 104) rfl xr185 rfl rfl rfl (xkd H (by decide)) (Nat.le_of_ble_eq_true rfl) (Z185 H h104 (by omega)) (Nat.le_refl _) ?_
      obtain ⟨c1, h⟩ := xif h
      obtain rfl := Option.some.inj h
      exact q_ri (q := (.ireturn, 1, 0, 0, .null)) rfl (fun _ => rfl) rfl (xbo_ok c1)
    · rw [if_neg (by rw [c]; decide)] at h
      refine q_lr (k := 1) (i := 0) (q := (.aload_n 0, 1, 0, 0, .null)) rfl (fun _ => rfl) l0 ?_
      refine q_li (k := 1) (i := 1) (q := (.iload_n 1, 1, 0, 0, .null)) rfl (fun _ => rfl) l1 ?_
      obtain ⟨q97, h97, h⟩ := xbind h
      refine r_call (ix := 70) (as := [.int v1]) (rest := []) (rv := some (.int q97.1)) (hp' := xW B q97.2) (pc := 97) rfl xr193 rfl rfl rfl (xkd H (by decide)) (Nat.le_of_ble_eq_true rfl) (Z193 H h97 (by omega)) (Nat.le_refl _) ?_
      refine r_s (fr' := (107, lv, [.int q97.1])) (hp' := xW B q97.2) (q := (.goto 7, 3, 107, 0, .null)) rfl (fun _ => rfl) (Nat.le_refl _) ?_
      obtain ⟨c2, h⟩ := xif h
      obtain rfl := Option.some.inj h
      exact q_ri (q := (.ireturn, 1, 0, 0, .null)) rfl (fun _ => rfl) rfl (xbo_ok c2)
  · rw [if_neg (by rw [c]; decide)] at h
    refine q_lr (k := 1) (i := 0) (q := (.aload_n 0, 1, 0, 0, .null)) rfl (fun _ => rfl) l0 ?_
    refine r_s (fr' := (76, lv, [.int 4, .ref 70])) (hp' := xW B m) (q := (.iconst 4, 1, 0, 0, .null)) rfl (fun _ => rfl) (Nat.le_refl _) ?_
    refine q_li (k := 1) (i := 1) (q := (.iload_n 1, 1, 0, 0, .null)) rfl (fun _ => rfl) l1 ?_
    obtain ⟨q77, h77, h⟩ := xbind h
    refine r_call (ix := 70) (as := [.int 4, .int v1]) (rest := []) (rv := some (.int q77.1)) (hp' := xW B q77.2) (pc := 77) rfl xr163 rfl rfl rfl (xkd H (by decide)) (Nat.le_of_ble_eq_true rfl) (Z163 H h77 (by omega)) (Nat.le_refl _) ?_
    obtain ⟨c3, h⟩ := xif h
    obtain rfl := Option.some.inj h
    exact q_ri (q := (.ireturn, 1, 0, 0, .null)) rfl (fun _ => rfl) rfl (xbo_ok c3)
def D195_56 (F : Nat) (v1 : Int32) (v2 : Int32) (m : xS) : Option (Int32 × xS) :=
  if zcmp .eq v2 0 = true then
    D195_71 F v1 v2 12 (m.1 70 14) m
  else
    D195_71 F v1 v2 40 (m.1 70 14) m
set_option maxRecDepth 20000 in
theorem T195_56 {B : zHp} (H : yH0 B) {e : Nat} (he : 11 ≤ e + 1) (F : Nat) {v1 : Int32} {v2 : Int32} {lv : List (Nat × Value)} {m : xS} {x : Int32 × xS} (l0 : zld lv 0 = some (.ref 70)) (l1 : zld lv 1 = some (.int v1)) (l2 : zld lv 2 = some (.int v2)) (h : D195_56 F v1 v2 m = some x) : zR none e 3 (some .boolean) zc195 (56, lv, []) (xW B m) (some (.int x.1), xW B x.2) := by
  unfold D195_56 at h
  refine q_lr (k := 1) (i := 0) (q := (.aload_n 0, 1, 0, 0, .null)) rfl (fun _ => rfl) l0 ?_
  refine r_gi (v := (m.1 70 14)) H (pc := 57) (i := _) rfl (by decide) (by decide) rfl ?_
  refine q_li (k := 1) (i := 2) (q := (.iload_n 2, 1, 0, 0, .null)) rfl (fun _ => rfl) l2 ?_
  refine r_if (len := 3) (a := 69) (b := 0) (v0 := .null) (cn := .eq) (off := 8) rfl (fun c => ?_) (fun c => ?_)
  · rw [if_pos c] at h
    refine r_s (fr' := (71, lv, [.int 12, .int (m.1 70 14)])) (hp' := xW B m) (q := (.bipush 12, 2, 0, 0, .null)) rfl (fun _ => rfl) (Nat.le_refl _) ?_
    exact T195_71 H he F l0 l1 l2 h
  · rw [if_neg (by rw [c]; decide)] at h
    refine r_s (fr' := (66, lv, [.int 40, .int (m.1 70 14)])) (hp' := xW B m) (q := (.bipush 40, 2, 0, 0, .null)) rfl (fun _ => rfl) (Nat.le_refl _) ?_
    refine r_s (fr' := (71, lv, [.int 40, .int (m.1 70 14)])) (hp' := xW B m) (q := (.goto 5, 3, 71, 0, .null)) rfl (fun _ => rfl) (Nat.le_refl _) ?_
    exact T195_71 H he F l0 l1 l2 h
def D195_24 (F : Nat) (v1 : Int32) (w0 : Int32) (m : xS) : Option (Int32 × xS) :=
  if zcmp .eq w0 0 = true then
    (D167 F 1818586724 m).bind fun q43 =>
      if zcmp .ne q43.1 0 = true then
        D195_56 F v1 w0 q43.2
      else
        D195_49 F v1 w0 q43.2
  else
    (D194 F m).bind fun q30 =>
      if zcmp .ne q30.1 0 = true then
        D195_56 F v1 w0 q30.2
      else
        D195_49 F v1 w0 q30.2
set_option maxRecDepth 20000 in
theorem T195_24 {B : zHp} (H : yH0 B) {e : Nat} (he : 11 ≤ e + 1) (F : Nat) {v1 : Int32} {w0 : Int32} {lv : List (Nat × Value)} {m : xS} {x : Int32 × xS} (l0 : zld lv 0 = some (.ref 70)) (l1 : zld lv 1 = some (.int v1)) (h : D195_24 F v1 w0 m = some x) : zR none e 3 (some .boolean) zc195 (24, lv, [.int w0]) (xW B m) (some (.int x.1), xW B x.2) := by
  unfold D195_24 at h
  refine q_si (k := 1) (i := 2) (q := (.istore_n 2, 1, 0, 0, .null)) rfl (fun _ => rfl) (by decide) ?_
  have l0_1 : zld (zs1 lv 2 (.int w0)) 0 = some (.ref 70) := x_o1 l0 rfl rfl
  have l1_1 : zld (zs1 lv 2 (.int w0)) 1 = some (.int v1) := x_o1 l1 rfl rfl
  have l2_1 : zld (zs1 lv 2 (.int w0)) 2 = some (.int w0) := zs1_ld _ _ _
  generalize (zs1 lv 2 (.int w0)) = lv1 at *
  refine q_li (k := 1) (i := 2) (q := (.iload_n 2, 1, 0, 0, .null)) rfl (fun _ => rfl) l2_1 ?_
  refine r_if (len := 3) (a := 39) (b := 0) (v0 := .null) (cn := .eq) (off := 13) rfl (fun c => ?_) (fun c => ?_)
  · rw [if_pos c] at h
    refine q_lr (k := 1) (i := 0) (q := (.aload_n 0, 1, 0, 0, .null)) rfl (fun _ => rfl) l0_1 ?_
    refine r_s (fr' := (43, lv1, [.long 1818586724, .ref 70])) (hp' := xW B m) (q := (.ldc2_w 244, 3, 0, 0, .long 1818586724)) rfl (fun _ => rfl) (Nat.le_refl _) ?_
    obtain ⟨q43, h43, h⟩ := xbind h
    refine r_call (ix := 70) (as := [.long 1818586724]) (rest := []) (rv := some (.int q43.1)) (hp' := xW B q43.2) (pc := 43) rfl xr167 rfl rfl rfl (xkd H (by decide)) (Nat.le_of_ble_eq_true rfl) (Z167 H h43 (by omega)) (Nat.le_refl _) ?_
    refine r_if (len := 3) (a := 56) (b := 0) (v0 := .null) (cn := .ne) (off := 10) rfl (fun c => ?_) (fun c => ?_)
    · rw [if_pos c] at h
      exact T195_56 H he F l0_1 l1_1 l2_1 h
    · rw [if_neg (by rw [c]; decide)] at h
      exact T195_49 H he F l0_1 l1_1 l2_1 h
  · rw [if_neg (by rw [c]; decide)] at h
    refine q_lr (k := 1) (i := 0) (q := (.aload_n 0, 1, 0, 0, .null)) rfl (fun _ => rfl) l0_1 ?_
    obtain ⟨q30, h30, h⟩ := xbind h
    refine r_call (ix := 70) (as := []) (rest := []) (rv := some (.int q30.1)) (hp' := xW B q30.2) (pc := 30) rfl xr194 rfl rfl rfl (xkd H (by decide)) (Nat.le_of_ble_eq_true rfl) (Z194 H h30 (by omega)) (Nat.le_refl _) ?_
    refine r_if (len := 3) (a := 56) (b := 0) (v0 := .null) (cn := .ne) (off := 23) rfl (fun c => ?_) (fun c => ?_)
    · rw [if_pos c] at h
      exact T195_56 H he F l0_1 l1_1 l2_1 h
    · rw [if_neg (by rw [c]; decide)] at h
      refine r_s (fr' := (49, lv1, [])) (hp' := xW B q30.2) (q := (.goto 13, 3, 49, 0, .null)) rfl (fun _ => rfl) (Nat.le_refl _) ?_
      exact T195_49 H he F l0_1 l1_1 l2_1 h
def D195 (F : Nat) (m : xS) : Option (Int32 × xS) :=
  (D164 F m).bind fun q1 =>
    if zcmp .ne (q1.2.1 70 11) 6 = true then
      D195_24 F (q1.2.1 70 8) 0 q1.2
    else
      D195_24 F (q1.2.1 70 8) 1 q1.2
set_option maxRecDepth 20000 in
theorem T195 {B : zHp} (H : yH0 B) {e : Nat} (he : 11 ≤ e + 1) (F : Nat) {lv : List (Nat × Value)} {m : xS} {x : Int32 × xS} (l0 : zld lv 0 = some (.ref 70)) (h : D195 F m = some x) : zR none e 3 (some .boolean) zc195 (0, lv, []) (xW B m) (some (.int x.1), xW B x.2) := by
  unfold D195 at h
  refine q_lr (k := 1) (i := 0) (q := (.aload_n 0, 1, 0, 0, .null)) rfl (fun _ => rfl) l0 ?_
  obtain ⟨q1, h1, h⟩ := xbind h
  refine r_call (ix := 70) (as := []) (rest := []) (rv := some (.int q1.1)) (hp' := xW B q1.2) (pc := 1) rfl xr164 rfl rfl rfl (xkd H (by decide)) (Nat.le_of_ble_eq_true rfl) (Z164 H h1 (by omega)) (Nat.le_refl _) ?_
  refine r_s (fr' := (5, lv, [])) (hp' := xW B q1.2) (q := (.pop, 1, 0, 0, .null)) rfl (fun _ => rfl) (Nat.le_refl _) ?_
  refine q_lr (k := 1) (i := 0) (q := (.aload_n 0, 1, 0, 0, .null)) rfl (fun _ => rfl) l0 ?_
  refine r_gi (v := (q1.2.1 70 8)) H (pc := 6) (i := _) rfl (by decide) (by decide) rfl ?_
  refine q_si (k := 1) (i := 1) (q := (.istore_n 1, 1, 0, 0, .null)) rfl (fun _ => rfl) (by decide) ?_
  have l0_1 : zld (zs1 lv 1 (.int (q1.2.1 70 8))) 0 = some (.ref 70) := x_o1 l0 rfl rfl
  have l1_1 : zld (zs1 lv 1 (.int (q1.2.1 70 8))) 1 = some (.int (q1.2.1 70 8)) := zs1_ld _ _ _
  generalize (zs1 lv 1 (.int (q1.2.1 70 8))) = lv1 at *
  refine q_lr (k := 1) (i := 0) (q := (.aload_n 0, 1, 0, 0, .null)) rfl (fun _ => rfl) l0_1 ?_
  refine r_gi (v := (q1.2.1 70 11)) H (pc := 11) (i := _) rfl (by decide) (by decide) rfl ?_
  refine r_s (fr' := (16, lv1, [.int 6, .int (q1.2.1 70 11)])) (hp' := xW B q1.2) (q := (.bipush 6, 2, 0, 0, .null)) rfl (fun _ => rfl) (Nat.le_refl _) ?_
  refine r_ifc (len := 3) (a := 23) (b := 0) (v0 := .null) (cn := .ne) (off := 7) rfl (fun c => ?_) (fun c => ?_)
  · rw [if_pos c] at h
    refine r_s (fr' := (24, lv1, [.int 0])) (hp' := xW B q1.2) (q := (.iconst 0, 1, 0, 0, .null)) rfl (fun _ => rfl) (Nat.le_refl _) ?_
    exact T195_24 H he F l0_1 l1_1 h
  · rw [if_neg (by rw [c]; decide)] at h
    refine r_s (fr' := (20, lv1, [.int 1])) (hp' := xW B q1.2) (q := (.iconst 1, 1, 0, 0, .null)) rfl (fun _ => rfl) (Nat.le_refl _) ?_
    refine r_s (fr' := (24, lv1, [.int 1])) (hp' := xW B q1.2) (q := (.goto 4, 3, 24, 0, .null)) rfl (fun _ => rfl) (Nat.le_refl _) ?_
    exact T195_24 H he F l0_1 l1_1 h
set_option maxRecDepth 20000 in
theorem Z195 {B : zHp} (H : yH0 B) {F : Nat} {m : xS} {x : Int32 × xS} (h : D195 F m = some x) {d : Nat} (hd : 11 ≤ d) : zCan d 195 [.ref 70] (xW B m) (some (.int x.1), xW B x.2) := by
  obtain ⟨e, rfl⟩ : ∃ e, d = e + 1 := ⟨d - 1, by omega⟩
  refine zCan_body (nL := 3) (rt := (some .boolean)) (cd := zc195) (xg195) ⟨Nat.le_of_ble_eq_true rfl, by decide⟩ (Nat.le_refl _) ?_
  exact T195 H hd F rfl h
/-- LentToolsModel.readsAll -/
def D196_88 (F : Nat) (v1 : Int32) (m : xS) : Option (Int32 × xS) :=
  if zcmp .ne (m.1 70 9) 0 = true then
    some (0, (xu m 70 1 0))
  else
    some (1, (xu m 70 1 0))
set_option maxRecDepth 20000 in
theorem T196_88 {B : zHp} (H : yH0 B) {e : Nat} (he : 12 ≤ e + 1) (F : Nat) {v1 : Int32} {lv : List (Nat × Value)} {m : xS} {x : Int32 × xS} (l0 : zld lv 0 = some (.ref 70)) (l1 : zld lv 1 = some (.int v1)) (h : D196_88 F v1 m = some x) : zR none e 2 (some .boolean) zc196 (88, lv, []) (xW B m) (some (.int x.1), xW B x.2) := by
  unfold D196_88 at h
  refine q_lr (k := 1) (i := 0) (q := (.aload_n 0, 1, 0, 0, .null)) rfl (fun _ => rfl) l0 ?_
  refine r_s (fr' := (90, lv, [.int 0, .ref 70])) (hp' := xW B m) (q := (.iconst 0, 1, 0, 0, .null)) rfl (fun _ => rfl) (Nat.le_refl _) ?_
  refine r_pi (s2 := (xu m 70 1 0)) H (pc := 90) rfl (by decide) rfl rfl ?_
  refine q_lr (k := 1) (i := 0) (q := (.aload_n 0, 1, 0, 0, .null)) rfl (fun _ => rfl) l0 ?_
  refine r_gi (v := (m.1 70 9)) H (pc := 94) (i := _) rfl (by decide) (by decide) rfl ?_
  refine r_if (len := 3) (a := 104) (b := 0) (v0 := .null) (cn := .ne) (off := 7) rfl (fun c => ?_) (fun c => ?_)
  · rw [if_pos c] at h
    refine r_s (fr' := (105, lv, [.int 0])) (hp' := xW B (xu m 70 1 0)) (q := (.iconst 0, 1, 0, 0, .null)) rfl (fun _ => rfl) (Nat.le_refl _) ?_
    obtain rfl := Option.some.inj h
    exact q_ri (q := (.ireturn, 1, 0, 0, .null)) rfl (fun _ => rfl) rfl rfl
  · rw [if_neg (by rw [c]; decide)] at h
    refine r_s (fr' := (101, lv, [.int 1])) (hp' := xW B (xu m 70 1 0)) (q := (.iconst 1, 1, 0, 0, .null)) rfl (fun _ => rfl) (Nat.le_refl _) ?_
    refine r_s (fr' := (105, lv, [.int 1])) (hp' := xW B (xu m 70 1 0)) (q := (.goto 4, 3, 105, 0, .null)) rfl (fun _ => rfl) (Nat.le_refl _) ?_
    obtain rfl := Option.some.inj h
    exact q_ri (q := (.ireturn, 1, 0, 0, .null)) rfl (fun _ => rfl) rfl rfl
def D196_66 (F : Nat) (v1 : Int32) (m : xS) : Option (Int32 × xS) :=
  if zcmp .eq v1 0 = true then
    D196_88 F v1 m
  else
    (D164 F m).bind fun q71 =>
      if zcmp .eq q71.1 (-1) = true then
        D196_88 F v1 q71.2
      else
        (D163 F 0 (q71.2.1 70 8) q71.2).bind fun q84 =>
          D196_88 F v1 q84.2
set_option maxRecDepth 20000 in
theorem T196_66 {B : zHp} (H : yH0 B) {e : Nat} (he : 12 ≤ e + 1) (F : Nat) {v1 : Int32} {lv : List (Nat × Value)} {m : xS} {x : Int32 × xS} (l0 : zld lv 0 = some (.ref 70)) (l1 : zld lv 1 = some (.int v1)) (h : D196_66 F v1 m = some x) : zR none e 2 (some .boolean) zc196 (66, lv, []) (xW B m) (some (.int x.1), xW B x.2) := by
  unfold D196_66 at h
  refine q_li (k := 1) (i := 1) (q := (.iload_n 1, 1, 0, 0, .null)) rfl (fun _ => rfl) l1 ?_
  refine r_if (len := 3) (a := 88) (b := 0) (v0 := .null) (cn := .eq) (off := 21) rfl (fun c => ?_) (fun c => ?_)
  · rw [if_pos c] at h
    exact T196_88 H he F l0 l1 h
  · rw [if_neg (by rw [c]; decide)] at h
    refine q_lr (k := 1) (i := 0) (q := (.aload_n 0, 1, 0, 0, .null)) rfl (fun _ => rfl) l0 ?_
    obtain ⟨q71, h71, h⟩ := xbind h
    refine r_call (ix := 70) (as := []) (rest := []) (rv := some (.int q71.1)) (hp' := xW B q71.2) (pc := 71) rfl xr164 rfl rfl rfl (xkd H (by decide)) (Nat.le_of_ble_eq_true rfl) (Z164 H h71 (by omega)) (Nat.le_refl _) ?_
    refine r_s (fr' := (75, lv, [.int (-1), .int q71.1])) (hp' := xW B q71.2) (q := (.iconst (-1), 1, 0, 0, .null)) rfl (fun _ => rfl) (Nat.le_refl _) ?_
    refine r_ifc (len := 3) (a := 88) (b := 0) (v0 := .null) (cn := .eq) (off := 13) rfl (fun c => ?_) (fun c => ?_)
    · rw [if_pos c] at h
      exact T196_88 H he F l0 l1 h
    · rw [if_neg (by rw [c]; decide)] at h
      refine q_lr (k := 1) (i := 0) (q := (.aload_n 0, 1, 0, 0, .null)) rfl (fun _ => rfl) l0 ?_
      refine r_s (fr' := (80, lv, [.int 0, .ref 70])) (hp' := xW B q71.2) (q := (.iconst 0, 1, 0, 0, .null)) rfl (fun _ => rfl) (Nat.le_refl _) ?_
      refine q_lr (k := 1) (i := 0) (q := (.aload_n 0, 1, 0, 0, .null)) rfl (fun _ => rfl) l0 ?_
      refine r_gi (v := (q71.2.1 70 8)) H (pc := 81) (i := _) rfl (by decide) (by decide) rfl ?_
      obtain ⟨q84, h84, h⟩ := xbind h
      refine r_call (ix := 70) (as := [.int 0, .int (q71.2.1 70 8)]) (rest := []) (rv := some (.int q84.1)) (hp' := xW B q84.2) (pc := 84) rfl xr163 rfl rfl rfl (xkd H (by decide)) (Nat.le_of_ble_eq_true rfl) (Z163 H h84 (by omega)) (Nat.le_refl _) ?_
      refine r_s (fr' := (88, lv, [])) (hp' := xW B q84.2) (q := (.pop, 1, 0, 0, .null)) rfl (fun _ => rfl) (Nat.le_refl _) ?_
      exact T196_88 H he F l0 l1 h
def D196_35 (F : Nat) : Nat → Int32 → xS → Option (Int32 × xS)
  | 0, _, _ => none
  | f + 1, v1, m =>
    if zcmp .eq v1 0 = true then
      D196_66 F v1 m
    else
      (D164 F m).bind fun q40 =>
        if zcmp .ne q40.1 59 = true then
          D196_66 F v1 q40.2
        else
          (D195 F (xu q40.2 70 8 ((q40.2.1 70 8) + 1))).bind fun q59 =>
            D196_35 F f q59.1 q59.2
set_option maxRecDepth 20000 in
theorem T196_35 {B : zHp} (H : yH0 B) {e : Nat} (he : 12 ≤ e + 1) (F : Nat) : ∀ (f : Nat) {v1 : Int32} {lv : List (Nat × Value)} {m : xS} {x : Int32 × xS}, zld lv 0 = some (.ref 70) → zld lv 1 = some (.int v1) → D196_35 F f v1 m = some x → zR none e 2 (some .boolean) zc196 (35, lv, []) (xW B m) (some (.int x.1), xW B x.2) := by
  intro f
  induction f with
  | zero => intro v1 lv m x l0 l1 h; cases h
  | succ f ih =>
    intro v1 lv m x l0 l1 h
    unfold D196_35 at h
    refine q_li (k := 1) (i := 1) (q := (.iload_n 1, 1, 0, 0, .null)) rfl (fun _ => rfl) l1 ?_
    refine r_if (len := 3) (a := 66) (b := 0) (v0 := .null) (cn := .eq) (off := 30) rfl (fun c => ?_) (fun c => ?_)
    · rw [if_pos c] at h
      exact T196_66 H he F l0 l1 h
    · rw [if_neg (by rw [c]; decide)] at h
      refine q_lr (k := 1) (i := 0) (q := (.aload_n 0, 1, 0, 0, .null)) rfl (fun _ => rfl) l0 ?_
      obtain ⟨q40, h40, h⟩ := xbind h
      refine r_call (ix := 70) (as := []) (rest := []) (rv := some (.int q40.1)) (hp' := xW B q40.2) (pc := 40) rfl xr164 rfl rfl rfl (xkd H (by decide)) (Nat.le_of_ble_eq_true rfl) (Z164 H h40 (by omega)) (Nat.le_refl _) ?_
      refine r_s (fr' := (45, lv, [.int 59, .int q40.1])) (hp' := xW B q40.2) (q := (.bipush 59, 2, 0, 0, .null)) rfl (fun _ => rfl) (Nat.le_refl _) ?_
      refine r_ifc (len := 3) (a := 66) (b := 0) (v0 := .null) (cn := .ne) (off := 21) rfl (fun c => ?_) (fun c => ?_)
      · rw [if_pos c] at h
        exact T196_66 H he F l0 l1 h
      · rw [if_neg (by rw [c]; decide)] at h
        refine q_lr (k := 1) (i := 0) (q := (.aload_n 0, 1, 0, 0, .null)) rfl (fun _ => rfl) l0 ?_
        refine r_s (fr' := (50, lv, [.ref 70, .ref 70])) (hp' := xW B q40.2) (q := (.dup, 1, 0, 0, .null)) rfl (fun _ => rfl) (Nat.le_refl _) ?_
        refine r_gi (v := (q40.2.1 70 8)) H (pc := 50) (i := _) rfl (by decide) (by decide) rfl ?_
        refine r_s (fr' := (54, lv, [.int 1, .int (q40.2.1 70 8), .ref 70])) (hp' := xW B q40.2) (q := (.iconst 1, 1, 0, 0, .null)) rfl (fun _ => rfl) (Nat.le_refl _) ?_
        refine r_s (fr' := (55, lv, [.int ((q40.2.1 70 8) + 1), .ref 70])) (hp' := xW B q40.2) (q := (.iadd, 1, 0, 0, .null)) rfl (fun _ => rfl) (Nat.le_refl _) ?_
        refine r_pi (s2 := (xu q40.2 70 8 ((q40.2.1 70 8) + 1))) H (pc := 55) rfl (by decide) rfl rfl ?_
        refine q_lr (k := 1) (i := 0) (q := (.aload_n 0, 1, 0, 0, .null)) rfl (fun _ => rfl) l0 ?_
        obtain ⟨q59, h59, h⟩ := xbind h
        refine r_call (ix := 70) (as := []) (rest := []) (rv := some (.int q59.1)) (hp' := xW B q59.2) (pc := 59) rfl xr195 rfl rfl rfl (xkd H (by decide)) (Nat.le_of_ble_eq_true rfl) (Z195 H h59 (by omega)) (Nat.le_refl _) ?_
        refine q_si (k := 1) (i := 1) (q := (.istore_n 1, 1, 0, 0, .null)) rfl (fun _ => rfl) (by decide) ?_
        have l0_1 : zld (zs1 lv 1 (.int q59.1)) 0 = some (.ref 70) := x_o1 l0 rfl rfl
        have l1_1 : zld (zs1 lv 1 (.int q59.1)) 1 = some (.int q59.1) := zs1_ld _ _ _
        generalize (zs1 lv 1 (.int q59.1)) = lv1 at *
        refine r_s (fr' := (35, lv1, [])) (hp' := xW B q59.2) (q := (.goto (-28), 3, 35, 0, .null)) rfl (fun _ => rfl) (Nat.le_refl _) ?_
        exact ih l0_1 l1_1 h
def D196 (F : Nat) (m : xS) : Option (Int32 × xS) :=
  if xib (m.1 70 11) 7 = true then
    (D195 F (xu (xu (xu (xu (xu m 73 ((m.1 70 11) : Int32).toNatClampNeg 0) 70 14 0) 70 8 0) 70 9 0) 70 12 0)).bind fun q31 =>
      D196_35 F F q31.1 q31.2
  else none
set_option maxRecDepth 20000 in
theorem T196 {B : zHp} (H : yH0 B) {e : Nat} (he : 12 ≤ e + 1) (F : Nat) {lv : List (Nat × Value)} {m : xS} {x : Int32 × xS} (l0 : zld lv 0 = some (.ref 70)) (h : D196 F m = some x) : zR none e 2 (some .boolean) zc196 (0, lv, []) (xW B m) (some (.int x.1), xW B x.2) := by
  unfold D196 at h
  refine q_lr (k := 1) (i := 0) (q := (.aload_n 0, 1, 0, 0, .null)) rfl (fun _ => rfl) l0 ?_
  refine r_gr (c := 73) H (pc := 1) rfl (by decide) (by decide) ?_
  refine q_lr (k := 1) (i := 0) (q := (.aload_n 0, 1, 0, 0, .null)) rfl (fun _ => rfl) l0 ?_
  refine r_gi (v := (m.1 70 11)) H (pc := 5) (i := _) rfl (by decide) (by decide) rfl ?_
  refine r_s (fr' := (9, lv, [.int 0, .int (m.1 70 11), .ref 73])) (hp' := xW B m) (q := (.iconst 0, 1, 0, 0, .null)) rfl (fun _ => rfl) (Nat.le_refl _) ?_
  obtain ⟨c1, h⟩ := xif h
  refine q_as (n := 7) (s2 := (xu m 73 ((m.1 70 11) : Int32).toNatClampNeg 0)) H (pc := 9) rfl (by decide) c1 rfl ?_
  refine q_lr (k := 1) (i := 0) (q := (.aload_n 0, 1, 0, 0, .null)) rfl (fun _ => rfl) l0 ?_
  refine r_s (fr' := (12, lv, [.int 0, .ref 70])) (hp' := xW B (xu m 73 ((m.1 70 11) : Int32).toNatClampNeg 0)) (q := (.iconst 0, 1, 0, 0, .null)) rfl (fun _ => rfl) (Nat.le_refl _) ?_
  refine r_pi (s2 := (xu (xu m 73 ((m.1 70 11) : Int32).toNatClampNeg 0) 70 14 0)) H (pc := 12) rfl (by decide) rfl rfl ?_
  refine q_lr (k := 1) (i := 0) (q := (.aload_n 0, 1, 0, 0, .null)) rfl (fun _ => rfl) l0 ?_
  refine r_s (fr' := (17, lv, [.int 0, .ref 70])) (hp' := xW B (xu (xu m 73 ((m.1 70 11) : Int32).toNatClampNeg 0) 70 14 0)) (q := (.iconst 0, 1, 0, 0, .null)) rfl (fun _ => rfl) (Nat.le_refl _) ?_
  refine r_pi (s2 := (xu (xu (xu m 73 ((m.1 70 11) : Int32).toNatClampNeg 0) 70 14 0) 70 8 0)) H (pc := 17) rfl (by decide) rfl rfl ?_
  refine q_lr (k := 1) (i := 0) (q := (.aload_n 0, 1, 0, 0, .null)) rfl (fun _ => rfl) l0 ?_
  refine r_s (fr' := (22, lv, [.int 0, .ref 70])) (hp' := xW B (xu (xu (xu m 73 ((m.1 70 11) : Int32).toNatClampNeg 0) 70 14 0) 70 8 0)) (q := (.iconst 0, 1, 0, 0, .null)) rfl (fun _ => rfl) (Nat.le_refl _) ?_
  refine r_pi (s2 := (xu (xu (xu (xu m 73 ((m.1 70 11) : Int32).toNatClampNeg 0) 70 14 0) 70 8 0) 70 9 0)) H (pc := 22) rfl (by decide) rfl rfl ?_
  refine q_lr (k := 1) (i := 0) (q := (.aload_n 0, 1, 0, 0, .null)) rfl (fun _ => rfl) l0 ?_
  refine r_s (fr' := (27, lv, [.int 0, .ref 70])) (hp' := xW B (xu (xu (xu (xu m 73 ((m.1 70 11) : Int32).toNatClampNeg 0) 70 14 0) 70 8 0) 70 9 0)) (q := (.iconst 0, 1, 0, 0, .null)) rfl (fun _ => rfl) (Nat.le_refl _) ?_
  refine r_pi (s2 := (xu (xu (xu (xu (xu m 73 ((m.1 70 11) : Int32).toNatClampNeg 0) 70 14 0) 70 8 0) 70 9 0) 70 12 0)) H (pc := 27) rfl (by decide) rfl rfl ?_
  refine q_lr (k := 1) (i := 0) (q := (.aload_n 0, 1, 0, 0, .null)) rfl (fun _ => rfl) l0 ?_
  obtain ⟨q31, h31, h⟩ := xbind h
  refine r_call (ix := 70) (as := []) (rest := []) (rv := some (.int q31.1)) (hp' := xW B q31.2) (pc := 31) rfl xr195 rfl rfl rfl (xkd H (by decide)) (Nat.le_of_ble_eq_true rfl) (Z195 H h31 (by omega)) (Nat.le_refl _) ?_
  refine q_si (k := 1) (i := 1) (q := (.istore_n 1, 1, 0, 0, .null)) rfl (fun _ => rfl) (by decide) ?_
  have l0_2 : zld (zs1 lv 1 (.int q31.1)) 0 = some (.ref 70) := x_o1 l0 rfl rfl
  have l1_2 : zld (zs1 lv 1 (.int q31.1)) 1 = some (.int q31.1) := zs1_ld _ _ _
  generalize (zs1 lv 1 (.int q31.1)) = lv2 at *
  exact T196_35 H he F F l0_2 l1_2 h
set_option maxRecDepth 20000 in
theorem Z196 {B : zHp} (H : yH0 B) {F : Nat} {m : xS} {x : Int32 × xS} (h : D196 F m = some x) {d : Nat} (hd : 12 ≤ d) : zCan d 196 [.ref 70] (xW B m) (some (.int x.1), xW B x.2) := by
  obtain ⟨e, rfl⟩ : ∃ e, d = e + 1 := ⟨d - 1, by omega⟩
  refine zCan_body (nL := 2) (rt := (some .boolean)) (cd := zc196) (xg196) ⟨Nat.le_of_ble_eq_true rfl, by decide⟩ (Nat.le_refl _) ?_
  exact T196 H hd F rfl h
/-- LentToolsModel.rule -/
def D197 (F : Nat) (m : xS) : Option (Int32 × xS) :=
  if zcmp .ne (m.1 70 2) 6 = true then
    if xib (m.1 70 2) 6 = true then
      (D196 F (xu (xu m 70 11 (m.1 70 2)) 75 ((m.1 70 2) : Int32).toNatClampNeg 0)).bind fun q30 =>
        if zcmp .ne q30.1 0 = true then
          some ((((q30.2.1 70 2) + 1) - 1), (xu q30.2 70 2 ((q30.2.1 70 2) + 1)))
        else
          some (((-2) - (q30.2.1 70 9)), q30.2)
    else none
  else
    some ((-1), m)
set_option maxRecDepth 20000 in
theorem T197 {B : zHp} (H : yH0 B) {e : Nat} (he : 13 ≤ e + 1) (F : Nat) {lv : List (Nat × Value)} {m : xS} {x : Int32 × xS} (l0 : zld lv 0 = some (.ref 70)) (h : D197 F m = some x) : zR none e 1 (some .int) zc197 (0, lv, []) (xW B m) (some (.int x.1), xW B x.2) := by
  unfold D197 at h
  refine q_lr (k := 1) (i := 0) (q := (.aload_n 0, 1, 0, 0, .null)) rfl (fun _ => rfl) l0 ?_
  refine r_gi (v := (m.1 70 2)) H (pc := 1) (i := _) rfl (by decide) (by decide) rfl ?_
  refine r_s (fr' := (6, lv, [.int 6, .int (m.1 70 2)])) (hp' := xW B m) (q := (.bipush 6, 2, 0, 0, .null)) rfl (fun _ => rfl) (Nat.le_refl _) ?_
  refine r_ifc (len := 3) (a := 11) (b := 0) (v0 := .null) (cn := .ne) (off := 5) rfl (fun c => ?_) (fun c => ?_)
  · rw [if_pos c] at h
    refine q_lr (k := 1) (i := 0) (q := (.aload_n 0, 1, 0, 0, .null)) rfl (fun _ => rfl) l0 ?_
    refine q_lr (k := 1) (i := 0) (q := (.aload_n 0, 1, 0, 0, .null)) rfl (fun _ => rfl) l0 ?_
    refine r_gi (v := (m.1 70 2)) H (pc := 13) (i := _) rfl (by decide) (by decide) rfl ?_
    refine r_pi (s2 := (xu m 70 11 (m.1 70 2))) H (pc := 16) rfl (by decide) rfl rfl ?_
    refine q_lr (k := 1) (i := 0) (q := (.aload_n 0, 1, 0, 0, .null)) rfl (fun _ => rfl) l0 ?_
    refine r_gr (c := 75) H (pc := 20) rfl (by decide) (by decide) ?_
    refine q_lr (k := 1) (i := 0) (q := (.aload_n 0, 1, 0, 0, .null)) rfl (fun _ => rfl) l0 ?_
    refine r_gi (v := (m.1 70 2)) H (pc := 24) (i := _) rfl (by decide) (by decide) rfl ?_
    refine r_s (fr' := (28, lv, [.int 0, .int (m.1 70 2), .ref 75])) (hp' := xW B (xu m 70 11 (m.1 70 2))) (q := (.iconst 0, 1, 0, 0, .null)) rfl (fun _ => rfl) (Nat.le_refl _) ?_
    obtain ⟨c1, h⟩ := xif h
    refine q_as (n := 6) (s2 := (xu (xu m 70 11 (m.1 70 2)) 75 ((m.1 70 2) : Int32).toNatClampNeg 0)) H (pc := 28) rfl (by decide) c1 rfl ?_
    refine q_lr (k := 1) (i := 0) (q := (.aload_n 0, 1, 0, 0, .null)) rfl (fun _ => rfl) l0 ?_
    obtain ⟨q30, h30, h⟩ := xbind h
    refine r_call (ix := 70) (as := []) (rest := []) (rv := some (.int q30.1)) (hp' := xW B q30.2) (pc := 30) rfl xr196 rfl rfl rfl (xkd H (by decide)) (Nat.le_of_ble_eq_true rfl) (Z196 H h30 (by omega)) (Nat.le_refl _) ?_
    refine r_if (len := 3) (a := 44) (b := 0) (v0 := .null) (cn := .ne) (off := 11) rfl (fun c => ?_) (fun c => ?_)
    · rw [if_pos c] at h
      refine q_lr (k := 1) (i := 0) (q := (.aload_n 0, 1, 0, 0, .null)) rfl (fun _ => rfl) l0 ?_
      refine r_s (fr' := (46, lv, [.ref 70, .ref 70])) (hp' := xW B q30.2) (q := (.dup, 1, 0, 0, .null)) rfl (fun _ => rfl) (Nat.le_refl _) ?_
      refine r_gi (v := (q30.2.1 70 2)) H (pc := 46) (i := _) rfl (by decide) (by decide) rfl ?_
      refine r_s (fr' := (50, lv, [.int 1, .int (q30.2.1 70 2), .ref 70])) (hp' := xW B q30.2) (q := (.iconst 1, 1, 0, 0, .null)) rfl (fun _ => rfl) (Nat.le_refl _) ?_
      refine r_s (fr' := (51, lv, [.int ((q30.2.1 70 2) + 1), .ref 70])) (hp' := xW B q30.2) (q := (.iadd, 1, 0, 0, .null)) rfl (fun _ => rfl) (Nat.le_refl _) ?_
      refine r_pi (s2 := (xu q30.2 70 2 ((q30.2.1 70 2) + 1))) H (pc := 51) rfl (by decide) rfl rfl ?_
      refine q_lr (k := 1) (i := 0) (q := (.aload_n 0, 1, 0, 0, .null)) rfl (fun _ => rfl) l0 ?_
      refine r_gi (v := ((q30.2.1 70 2) + 1)) H (pc := 55) (i := _) rfl (by decide) (by decide) rfl ?_
      refine r_s (fr' := (59, lv, [.int 1, .int ((q30.2.1 70 2) + 1)])) (hp' := xW B (xu q30.2 70 2 ((q30.2.1 70 2) + 1))) (q := (.iconst 1, 1, 0, 0, .null)) rfl (fun _ => rfl) (Nat.le_refl _) ?_
      refine r_s (fr' := (60, lv, [.int (((q30.2.1 70 2) + 1) - 1)])) (hp' := xW B (xu q30.2 70 2 ((q30.2.1 70 2) + 1))) (q := (.isub, 1, 0, 0, .null)) rfl (fun _ => rfl) (Nat.le_refl _) ?_
      obtain rfl := Option.some.inj h
      exact q_ri (q := (.ireturn, 1, 0, 0, .null)) rfl (fun _ => rfl) rfl rfl
    · rw [if_neg (by rw [c]; decide)] at h
      refine r_s (fr' := (38, lv, [.int (-2)])) (hp' := xW B q30.2) (q := (.bipush (-2), 2, 0, 0, .null)) rfl (fun _ => rfl) (Nat.le_refl _) ?_
      refine q_lr (k := 1) (i := 0) (q := (.aload_n 0, 1, 0, 0, .null)) rfl (fun _ => rfl) l0 ?_
      refine r_gi (v := (q30.2.1 70 9)) H (pc := 39) (i := _) rfl (by decide) (by decide) rfl ?_
      refine r_s (fr' := (43, lv, [.int ((-2) - (q30.2.1 70 9))])) (hp' := xW B q30.2) (q := (.isub, 1, 0, 0, .null)) rfl (fun _ => rfl) (Nat.le_refl _) ?_
      obtain rfl := Option.some.inj h
      exact q_ri (q := (.ireturn, 1, 0, 0, .null)) rfl (fun _ => rfl) rfl rfl
  · rw [if_neg (by rw [c]; decide)] at h
    refine r_s (fr' := (10, lv, [.int (-1)])) (hp' := xW B m) (q := (.iconst (-1), 1, 0, 0, .null)) rfl (fun _ => rfl) (Nat.le_refl _) ?_
    obtain rfl := Option.some.inj h
    exact q_ri (q := (.ireturn, 1, 0, 0, .null)) rfl (fun _ => rfl) rfl rfl
set_option maxRecDepth 20000 in
theorem Z197 {B : zHp} (H : yH0 B) {F : Nat} {m : xS} {x : Int32 × xS} (h : D197 F m = some x) {d : Nat} (hd : 13 ≤ d) : zCan d 197 [.ref 70] (xW B m) (some (.int x.1), xW B x.2) := by
  obtain ⟨e, rfl⟩ : ∃ e, d = e + 1 := ⟨d - 1, by omega⟩
  refine zCan_body (nL := 1) (rt := (some .int)) (cd := zc197) (xg197) ⟨Nat.le_of_ble_eq_true rfl, by decide⟩ (Nat.le_refl _) ?_
  exact T197 H hd F rfl h
/-- LentToolsModel.village -/
def D198_72 (F : Nat) : Nat → Int32 → xS → Option (Int32 × xS)
  | 0, _, _ => none
  | f + 1, v1, m =>
    if zcmp .ge v1 6 = true then
      some ((m.1 80 2), (xu m 70 25 0))
    else
      if xib (118 + v1) 148 = true then
        D198_72 F f (v1 + Int32.ofInt 1) (xu m 80 ((118 + v1) : Int32).toNatClampNeg (-1))
      else none
set_option maxRecDepth 20000 in
theorem T198_72 {B : zHp} (H : yH0 B) {e : Nat} (he : 13 ≤ e + 1) (F : Nat) : ∀ (f : Nat) {v1 : Int32} {lv : List (Nat × Value)} {m : xS} {x : Int32 × xS}, zld lv 0 = some (.ref 70) → zld lv 1 = some (.int v1) → D198_72 F f v1 m = some x → zR none e 2 (some .int) zc198 (72, lv, []) (xW B m) (some (.int x.1), xW B x.2) := by
  intro f
  induction f with
  | zero => intro v1 lv m x l0 l1 h; cases h
  | succ f ih =>
    intro v1 lv m x l0 l1 h
    unfold D198_72 at h
    refine q_li (k := 1) (i := 1) (q := (.iload_n 1, 1, 0, 0, .null)) rfl (fun _ => rfl) l1 ?_
    refine r_s (fr' := (75, lv, [.int 6, .int v1])) (hp' := xW B m) (q := (.bipush 6, 2, 0, 0, .null)) rfl (fun _ => rfl) (Nat.le_refl _) ?_
    refine r_ifc (len := 3) (a := 94) (b := 0) (v0 := .null) (cn := .ge) (off := 19) rfl (fun c => ?_) (fun c => ?_)
    · rw [if_pos c] at h
      refine q_lr (k := 1) (i := 0) (q := (.aload_n 0, 1, 0, 0, .null)) rfl (fun _ => rfl) l0 ?_
      refine r_s (fr' := (96, lv, [.int 0, .ref 70])) (hp' := xW B m) (q := (.iconst 0, 1, 0, 0, .null)) rfl (fun _ => rfl) (Nat.le_refl _) ?_
      refine r_pi (s2 := (xu m 70 25 0)) H (pc := 96) rfl (by decide) rfl rfl ?_
      refine q_lr (k := 1) (i := 0) (q := (.aload_n 0, 1, 0, 0, .null)) rfl (fun _ => rfl) l0 ?_
      refine r_gr (c := 80) H (pc := 100) rfl (by decide) (by decide) ?_
      refine r_s (fr' := (104, lv, [.int 2, .ref 80])) (hp' := xW B (xu m 70 25 0)) (q := (.iconst 2, 1, 0, 0, .null)) rfl (fun _ => rfl) (Nat.le_refl _) ?_
      refine q_al (n := 148) (v := (m.1 80 2)) H (pc := 104) rfl (by decide) (by decide) rfl ?_
      obtain rfl := Option.some.inj h
      exact q_ri (q := (.ireturn, 1, 0, 0, .null)) rfl (fun _ => rfl) rfl rfl
    · rw [if_neg (by rw [c]; decide)] at h
      refine q_lr (k := 1) (i := 0) (q := (.aload_n 0, 1, 0, 0, .null)) rfl (fun _ => rfl) l0 ?_
      refine r_gr (c := 80) H (pc := 79) rfl (by decide) (by decide) ?_
      refine r_s (fr' := (84, lv, [.int 118, .ref 80])) (hp' := xW B m) (q := (.bipush 118, 2, 0, 0, .null)) rfl (fun _ => rfl) (Nat.le_refl _) ?_
      refine q_li (k := 1) (i := 1) (q := (.iload_n 1, 1, 0, 0, .null)) rfl (fun _ => rfl) l1 ?_
      refine r_s (fr' := (86, lv, [.int (118 + v1), .ref 80])) (hp' := xW B m) (q := (.iadd, 1, 0, 0, .null)) rfl (fun _ => rfl) (Nat.le_refl _) ?_
      refine r_s (fr' := (87, lv, [.int (-1), .int (118 + v1), .ref 80])) (hp' := xW B m) (q := (.iconst (-1), 1, 0, 0, .null)) rfl (fun _ => rfl) (Nat.le_refl _) ?_
      obtain ⟨c1, h⟩ := xif h
      refine q_as (n := 148) (s2 := (xu m 80 ((118 + v1) : Int32).toNatClampNeg (-1))) H (pc := 87) rfl (by decide) c1 rfl ?_
      refine q_inc (i := 1) (n := 1) (q := (.iinc 1 1, 3, 0, 0, .null)) rfl (fun _ => rfl) l1 (by decide) ?_
      have l0_2 : zld (zs1 lv 1 (.int (v1 + Int32.ofInt 1))) 0 = some (.ref 70) := x_o1 l0 rfl rfl
      have l1_2 : zld (zs1 lv 1 (.int (v1 + Int32.ofInt 1))) 1 = some (.int (v1 + Int32.ofInt 1)) := zs1_ld _ _ _
      generalize (zs1 lv 1 (.int (v1 + Int32.ofInt 1))) = lv2 at *
      refine r_s (fr' := (72, lv2, [])) (hp' := xW B (xu m 80 ((118 + v1) : Int32).toNatClampNeg (-1))) (q := (.goto (-19), 3, 72, 0, .null)) rfl (fun _ => rfl) (Nat.le_refl _) ?_
      exact ih l0_2 l1_2 h
def D198_45 (F : Nat) : Nat → Int32 → xS → Option (Int32 × xS)
  | 0, _, _ => none
  | f + 1, v1, m =>
    if zcmp .ge v1 148 = true then
      D198_72 F F 0 m
    else
      if xib v1 148 = true then
        if xib v1 148 = true then
          D198_45 F f (v1 + Int32.ofInt 1) (xu m 80 (v1 : Int32).toNatClampNeg (m.1 76 (v1 : Int32).toNatClampNeg))
        else none
      else none
set_option maxRecDepth 20000 in
theorem T198_45 {B : zHp} (H : yH0 B) {e : Nat} (he : 13 ≤ e + 1) (F : Nat) : ∀ (f : Nat) {v1 : Int32} {lv : List (Nat × Value)} {m : xS} {x : Int32 × xS}, zld lv 0 = some (.ref 70) → zld lv 1 = some (.int v1) → D198_45 F f v1 m = some x → zR none e 2 (some .int) zc198 (45, lv, []) (xW B m) (some (.int x.1), xW B x.2) := by
  intro f
  induction f with
  | zero => intro v1 lv m x l0 l1 h; cases h
  | succ f ih =>
    intro v1 lv m x l0 l1 h
    unfold D198_45 at h
    refine q_li (k := 1) (i := 1) (q := (.iload_n 1, 1, 0, 0, .null)) rfl (fun _ => rfl) l1 ?_
    refine r_s (fr' := (49, lv, [.int 148, .int v1])) (hp' := xW B m) (q := (.sipush 148, 3, 0, 0, .null)) rfl (fun _ => rfl) (Nat.le_refl _) ?_
    refine r_ifc (len := 3) (a := 70) (b := 0) (v0 := .null) (cn := .ge) (off := 21) rfl (fun c => ?_) (fun c => ?_)
    · rw [if_pos c] at h
      refine r_s (fr' := (71, lv, [.int 0])) (hp' := xW B m) (q := (.iconst 0, 1, 0, 0, .null)) rfl (fun _ => rfl) (Nat.le_refl _) ?_
      refine q_si (k := 1) (i := 1) (q := (.istore_n 1, 1, 0, 0, .null)) rfl (fun _ => rfl) (by decide) ?_
      have l0_1 : zld (zs1 lv 1 (.int 0)) 0 = some (.ref 70) := x_o1 l0 rfl rfl
      have l1_1 : zld (zs1 lv 1 (.int 0)) 1 = some (.int 0) := zs1_ld _ _ _
      generalize (zs1 lv 1 (.int 0)) = lv1 at *
      exact T198_72 H he F F l0_1 l1_1 h
    · rw [if_neg (by rw [c]; decide)] at h
      refine q_lr (k := 1) (i := 0) (q := (.aload_n 0, 1, 0, 0, .null)) rfl (fun _ => rfl) l0 ?_
      refine r_gr (c := 80) H (pc := 53) rfl (by decide) (by decide) ?_
      refine q_li (k := 1) (i := 1) (q := (.iload_n 1, 1, 0, 0, .null)) rfl (fun _ => rfl) l1 ?_
      refine q_lr (k := 1) (i := 0) (q := (.aload_n 0, 1, 0, 0, .null)) rfl (fun _ => rfl) l0 ?_
      refine r_gr (c := 76) H (pc := 58) rfl (by decide) (by decide) ?_
      refine q_li (k := 1) (i := 1) (q := (.iload_n 1, 1, 0, 0, .null)) rfl (fun _ => rfl) l1 ?_
      obtain ⟨c2, h⟩ := xif h
      refine q_al (n := 148) (v := (m.1 76 (v1 : Int32).toNatClampNeg)) H (pc := 62) rfl (by decide) c2 rfl ?_
      obtain ⟨c3, h⟩ := xif h
      refine q_as (n := 148) (s2 := (xu m 80 (v1 : Int32).toNatClampNeg (m.1 76 (v1 : Int32).toNatClampNeg))) H (pc := 63) rfl (by decide) c3 rfl ?_
      refine q_inc (i := 1) (n := 1) (q := (.iinc 1 1, 3, 0, 0, .null)) rfl (fun _ => rfl) l1 (by decide) ?_
      have l0_4 : zld (zs1 lv 1 (.int (v1 + Int32.ofInt 1))) 0 = some (.ref 70) := x_o1 l0 rfl rfl
      have l1_4 : zld (zs1 lv 1 (.int (v1 + Int32.ofInt 1))) 1 = some (.int (v1 + Int32.ofInt 1)) := zs1_ld _ _ _
      generalize (zs1 lv 1 (.int (v1 + Int32.ofInt 1))) = lv4 at *
      refine r_s (fr' := (45, lv4, [])) (hp' := xW B (xu m 80 (v1 : Int32).toNatClampNeg (m.1 76 (v1 : Int32).toNatClampNeg))) (q := (.goto (-22), 3, 45, 0, .null)) rfl (fun _ => rfl) (Nat.le_refl _) ?_
      exact ih l0_4 l1_4 h
def D198_8 (F : Nat) : Nat → Int32 → xS → Option (Int32 × xS)
  | 0, _, _ => none
  | f + 1, v1, m =>
    if zcmp .ge v1 148 = true then
      (D196 F m).bind fun q29 =>
        if zcmp .ne q29.1 0 = true then
          D198_45 F F 0 q29.2
        else
          some (((-2) - (q29.2.1 70 9)), q29.2)
    else
      if xib v1 148 = true then
        D198_8 F f (v1 + Int32.ofInt 1) (xu m 76 (v1 : Int32).toNatClampNeg 0)
      else none
set_option maxRecDepth 20000 in
theorem T198_8 {B : zHp} (H : yH0 B) {e : Nat} (he : 13 ≤ e + 1) (F : Nat) : ∀ (f : Nat) {v1 : Int32} {lv : List (Nat × Value)} {m : xS} {x : Int32 × xS}, zld lv 0 = some (.ref 70) → zld lv 1 = some (.int v1) → D198_8 F f v1 m = some x → zR none e 2 (some .int) zc198 (8, lv, []) (xW B m) (some (.int x.1), xW B x.2) := by
  intro f
  induction f with
  | zero => intro v1 lv m x l0 l1 h; cases h
  | succ f ih =>
    intro v1 lv m x l0 l1 h
    unfold D198_8 at h
    refine q_li (k := 1) (i := 1) (q := (.iload_n 1, 1, 0, 0, .null)) rfl (fun _ => rfl) l1 ?_
    refine r_s (fr' := (12, lv, [.int 148, .int v1])) (hp' := xW B m) (q := (.sipush 148, 3, 0, 0, .null)) rfl (fun _ => rfl) (Nat.le_refl _) ?_
    refine r_ifc (len := 3) (a := 28) (b := 0) (v0 := .null) (cn := .ge) (off := 16) rfl (fun c => ?_) (fun c => ?_)
    · rw [if_pos c] at h
      refine q_lr (k := 1) (i := 0) (q := (.aload_n 0, 1, 0, 0, .null)) rfl (fun _ => rfl) l0 ?_
      obtain ⟨q29, h29, h⟩ := xbind h
      refine r_call (ix := 70) (as := []) (rest := []) (rv := some (.int q29.1)) (hp' := xW B q29.2) (pc := 29) rfl xr196 rfl rfl rfl (xkd H (by decide)) (Nat.le_of_ble_eq_true rfl) (Z196 H h29 (by omega)) (Nat.le_refl _) ?_
      refine r_if (len := 3) (a := 43) (b := 0) (v0 := .null) (cn := .ne) (off := 11) rfl (fun c => ?_) (fun c => ?_)
      · rw [if_pos c] at h
        refine r_s (fr' := (44, lv, [.int 0])) (hp' := xW B q29.2) (q := (.iconst 0, 1, 0, 0, .null)) rfl (fun _ => rfl) (Nat.le_refl _) ?_
        refine q_si (k := 1) (i := 1) (q := (.istore_n 1, 1, 0, 0, .null)) rfl (fun _ => rfl) (by decide) ?_
        have l0_1 : zld (zs1 lv 1 (.int 0)) 0 = some (.ref 70) := x_o1 l0 rfl rfl
        have l1_1 : zld (zs1 lv 1 (.int 0)) 1 = some (.int 0) := zs1_ld _ _ _
        generalize (zs1 lv 1 (.int 0)) = lv1 at *
        exact T198_45 H he F F l0_1 l1_1 h
      · rw [if_neg (by rw [c]; decide)] at h
        refine r_s (fr' := (37, lv, [.int (-2)])) (hp' := xW B q29.2) (q := (.bipush (-2), 2, 0, 0, .null)) rfl (fun _ => rfl) (Nat.le_refl _) ?_
        refine q_lr (k := 1) (i := 0) (q := (.aload_n 0, 1, 0, 0, .null)) rfl (fun _ => rfl) l0 ?_
        refine r_gi (v := (q29.2.1 70 9)) H (pc := 38) (i := _) rfl (by decide) (by decide) rfl ?_
        refine r_s (fr' := (42, lv, [.int ((-2) - (q29.2.1 70 9))])) (hp' := xW B q29.2) (q := (.isub, 1, 0, 0, .null)) rfl (fun _ => rfl) (Nat.le_refl _) ?_
        obtain rfl := Option.some.inj h
        exact q_ri (q := (.ireturn, 1, 0, 0, .null)) rfl (fun _ => rfl) rfl rfl
    · rw [if_neg (by rw [c]; decide)] at h
      refine q_lr (k := 1) (i := 0) (q := (.aload_n 0, 1, 0, 0, .null)) rfl (fun _ => rfl) l0 ?_
      refine r_gr (c := 76) H (pc := 16) rfl (by decide) (by decide) ?_
      refine q_li (k := 1) (i := 1) (q := (.iload_n 1, 1, 0, 0, .null)) rfl (fun _ => rfl) l1 ?_
      refine r_s (fr' := (21, lv, [.int 0, .int v1, .ref 76])) (hp' := xW B m) (q := (.iconst 0, 1, 0, 0, .null)) rfl (fun _ => rfl) (Nat.le_refl _) ?_
      obtain ⟨c2, h⟩ := xif h
      refine q_as (n := 148) (s2 := (xu m 76 (v1 : Int32).toNatClampNeg 0)) H (pc := 21) rfl (by decide) c2 rfl ?_
      refine q_inc (i := 1) (n := 1) (q := (.iinc 1 1, 3, 0, 0, .null)) rfl (fun _ => rfl) l1 (by decide) ?_
      have l0_3 : zld (zs1 lv 1 (.int (v1 + Int32.ofInt 1))) 0 = some (.ref 70) := x_o1 l0 rfl rfl
      have l1_3 : zld (zs1 lv 1 (.int (v1 + Int32.ofInt 1))) 1 = some (.int (v1 + Int32.ofInt 1)) := zs1_ld _ _ _
      generalize (zs1 lv 1 (.int (v1 + Int32.ofInt 1))) = lv3 at *
      refine r_s (fr' := (8, lv3, [])) (hp' := xW B (xu m 76 (v1 : Int32).toNatClampNeg 0)) (q := (.goto (-17), 3, 8, 0, .null)) rfl (fun _ => rfl) (Nat.le_refl _) ?_
      exact ih l0_3 l1_3 h
def D198 (F : Nat) (m : xS) : Option (Int32 × xS) :=
  D198_8 F F 0 (xu m 70 11 6)
set_option maxRecDepth 20000 in
theorem T198 {B : zHp} (H : yH0 B) {e : Nat} (he : 13 ≤ e + 1) (F : Nat) {lv : List (Nat × Value)} {m : xS} {x : Int32 × xS} (l0 : zld lv 0 = some (.ref 70)) (h : D198 F m = some x) : zR none e 2 (some .int) zc198 (0, lv, []) (xW B m) (some (.int x.1), xW B x.2) := by
  unfold D198 at h
  refine q_lr (k := 1) (i := 0) (q := (.aload_n 0, 1, 0, 0, .null)) rfl (fun _ => rfl) l0 ?_
  refine r_s (fr' := (3, lv, [.int 6, .ref 70])) (hp' := xW B m) (q := (.bipush 6, 2, 0, 0, .null)) rfl (fun _ => rfl) (Nat.le_refl _) ?_
  refine r_pi (s2 := (xu m 70 11 6)) H (pc := 3) rfl (by decide) rfl rfl ?_
  refine r_s (fr' := (7, lv, [.int 0])) (hp' := xW B (xu m 70 11 6)) (q := (.iconst 0, 1, 0, 0, .null)) rfl (fun _ => rfl) (Nat.le_refl _) ?_
  refine q_si (k := 1) (i := 1) (q := (.istore_n 1, 1, 0, 0, .null)) rfl (fun _ => rfl) (by decide) ?_
  have l0_1 : zld (zs1 lv 1 (.int 0)) 0 = some (.ref 70) := x_o1 l0 rfl rfl
  have l1_1 : zld (zs1 lv 1 (.int 0)) 1 = some (.int 0) := zs1_ld _ _ _
  generalize (zs1 lv 1 (.int 0)) = lv1 at *
  exact T198_8 H he F F l0_1 l1_1 h
set_option maxRecDepth 20000 in
theorem Z198 {B : zHp} (H : yH0 B) {F : Nat} {m : xS} {x : Int32 × xS} (h : D198 F m = some x) {d : Nat} (hd : 13 ≤ d) : zCan d 198 [.ref 70] (xW B m) (some (.int x.1), xW B x.2) := by
  obtain ⟨e, rfl⟩ : ∃ e, d = e + 1 := ⟨d - 1, by omega⟩
  refine zCan_body (nL := 2) (rt := (some .int)) (cd := zc198) (xg198) ⟨Nat.le_of_ble_eq_true rfl, by decide⟩ (Nat.le_refl _) ?_
  exact T198 H hd F rfl h
