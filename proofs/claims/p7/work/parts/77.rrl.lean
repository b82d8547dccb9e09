/-! The class's readRule: its loop runs the machine. -/
section YTL
variable {hp hp0 hp' : zHp} {ev : zEv} {d nL : Nat} {rt : Option FieldType} {cd : List (Option zEn)} {r : zRe} {pc : Nat} {lv : List (Nat × Value)}
theorem h_tail2 (hd : 8 ≤ d) (H : yH0 hp) (hN : hp.1 + 3 ≤ zSC) (l0 : zld lv 0 = some (.ref 6)) (l1 : zld lv 1 = some (.ref 2)) : ∃ x : zRe, zR none d 3 yRT zc33 (117, lv, []) hp x ∧ hp.1 ≤ x.2.1 ∧ ((x = (some .null, hp) ∧ (xof hp).1 2 4 ≠ 0) ∨ ∃ hp5, x = (some (.ref hp.1), hp5) ∧ yNw hp hp5 ∧ (xof hp).1 2 4 = 0) := by
  have head : ∀ {r : zRe}, zR none d 3 yRT zc33 (121, lv, [.int (if (xof hp).1 2 4 = 0 then 1 else 0)]) hp r → zR none d 3 yRT zc33 (117, lv, []) hp r := by
    intro r K
    refine q_lr (k := 1) (i := 1) (q := (.aload_n 1, 1, 0, 0, .null)) rfl (fun _ => rfl) l1 ?_
    exact r_call (ix := 2) (as := []) (rest := []) (rv := some (.int (if (xof hp).1 2 4 = 0 then 1 else 0))) (hp' := hp) (pc := 118) rfl xr51 rfl rfl rfl (h_kd H (by decide)) (Nat.le_of_ble_eq_true rfl) (h_snd H (by omega)) (Nat.le_refl _) K
  by_cases c3 : (xof hp).1 2 4 = 0
  · rw [if_pos c3] at head
    obtain ⟨i1, i2, -, f7, h7⟩ := xta_ok H (show xta 7 0 400 = true by decide)
    have n7 : ¬ 7 = hp.1 := by omega
    obtain ⟨j1, j2, fs6, x6, h6, k6⟩ := xti_ok H (show xti 6 5 1 = true by decide)
    obtain ⟨-, -, fs6b, h6b, k6b⟩ := xtr_ok H (show xtr 6 5 0 7 = true by decide)
    have n6 : ¬ 6 = hp.1 := by omega
    have b6 := xT_of H 6 1 (0, 400) rfl
    have e6 : (xof hp).1 6 1 = x6 := by
      unfold xof
      dsimp only
      rw [h6]
      dsimp only
      rw [k6]
    rw [e6] at b6
    have b61 : (0 : Int) ≤ x6.toInt := b6.1
    have b62 : x6.toInt ≤ 400 := b6.2
    have hN1 : hp.1 < zSC := by omega
    obtain ⟨n, g, hn, z⟩ := h_cpy (d := d) (hp := (hp.1 + 1, zup hp.2 hp.1 (.inr (4, [.null, .null])))) (f := f7) (L := x6) ((zupo n7).trans h7) (by show 7 < hp.1 + 1; omega) (by show hp.1 + 1 < zSC; omega) ⟨b61, b62⟩ (by omega)
    have e7 : (xof hp).1 7 = f7 := by
      funext j
      unfold xof
      dsimp only
      rw [h7]
    have hn : n ≤ 400 ∧ (n = ((xof hp).1 6 1).toInt.toNat ∧ ∀ j, j < n → g j = (xof hp).1 7 j) := ⟨hn.1, by rw [e6]; exact hn.2.1, fun j hj => by rw [e7]; exact hn.2.2 j hj⟩
    have z2 := h_ini (d := d) (hp := (hp.1 + 2, zup (zup hp.2 hp.1 (.inr (4, [.null, .null]))) (hp.1 + 1) (.inl (0, n, .inl g)))) (a := hp.1) (b := hp.1 + 1) (by show hp.1 < hp.1 + 2; omega) ((zupo (by omega)).trans zups) (by show hp.1 + 2 < zSC; omega) (by omega)
    refine ⟨(some (.ref hp.1), (hp.1 + 3, zup (zup (zup (zup hp.2 hp.1 (.inr (4, [.null, .null]))) (hp.1 + 1) (.inl (0, n, .inl g))) (hp.1 + 2) (.inl (3, 64, .inr (.inl (fun _ => 0))))) hp.1 (.inr (4, [.ref (hp.1 + 1), .ref (hp.1 + 2)])))), head (r_if (len := 3) (a := 145) (b := 0) (v0 := .null) (cn := .eq) (off := 24) rfl (fun c => absurd (zeq c) (by decide)) (fun _ => ?_)), Nat.le_add_right _ 3, Or.inr ⟨_, rfl, ⟨n, g, fun _ => 0, hn, rfl, zups, ((zupo (by omega)).trans (zupo (by omega))).trans zups, (zupo (by omega)).trans zups, fun i a1 a2 a3 => (((zupo a1).trans (zupo a3)).trans (zupo a2)).trans (zupo a1)⟩, c3⟩⟩
    · refine r_s (fr' := (127, lv, [.ref hp.1])) (hp' := (hp.1 + 1, zup hp.2 hp.1 (.inr (4, [.null, .null])))) (q := (.new 59, 3, 4, 0, .null)) rfl (fun call => ?_) (Nat.le_succ _) ?_
      · show zNew 4 zdf4 (124, lv, []) hp = _
        unfold zNew
        rw [if_pos hN1]
        rfl
      refine r_s (fr' := (128, lv, [.ref hp.1, .ref hp.1])) (hp' := (hp.1 + 1, zup hp.2 hp.1 (.inr (4, [.null, .null])))) (q := (.dup, 1, 0, 0, .null)) rfl (fun _ => rfl) (Nat.le_refl _) ?_
      refine q_lr (k := 1) (i := 0) (q := (.aload_n 0, 1, 0, 0, .null)) rfl (fun _ => rfl) l0 ?_
      refine r_get (pc := 129) (ix := 6) (fs := fs6b) rfl (by decide) ⟨by show 6 < hp.1 + 1; omega, j2⟩ ((zupo n6).trans h6b) k6b ?_
      refine q_lr (k := 1) (i := 0) (q := (.aload_n 0, 1, 0, 0, .null)) rfl (fun _ => rfl) l0 ?_
      refine r_get (pc := 133) (ix := 6) (fs := fs6) rfl (by decide) ⟨by show 6 < hp.1 + 1; omega, j2⟩ ((zupo n6).trans h6) k6 ?_
      refine r_callS (as := [.ref 7, .int x6]) (rest := [.ref hp.1, .ref hp.1]) (rv := some (.ref (hp.1 + 1))) (pc := 136) rfl xr292 rfl rfl rfl (Nat.le_of_ble_eq_true rfl) z (Nat.le_succ _) ?_
      refine r_callI (ix := hp.1) (as := [.ref (hp.1 + 1)]) (rest := [.ref hp.1]) (rv := none) (pc := 139) rfl xr25 rfl rfl rfl hN1 (Nat.le_of_ble_eq_true rfl) z2 (Nat.le_succ _) ?_
      refine r_s (fr' := (146, lv, [.ref hp.1])) (q := (.goto 4, 3, 146, 0, .null)) rfl (fun _ => rfl) (Nat.le_refl _) ?_
      exact r_ret (q := (.areturn, 1, 0, 0, .null)) rfl rfl (fun _ => rfl)
  · rw [if_neg c3] at head
    refine ⟨(some .null, hp), head (r_if (len := 3) (a := 145) (b := 0) (v0 := .null) (cn := .eq) (off := 24) rfl (fun _ => ?_) (fun c => absurd rfl (zneq c))), Nat.le_refl _, Or.inl ⟨rfl, c3⟩⟩
    refine r_s (fr' := (146, lv, [.null])) (hp' := hp) (q := (.aconst_null, 1, 0, 0, .null)) rfl (fun _ => rfl) (Nat.le_refl _) ?_
    exact r_ret (q := (.areturn, 1, 0, 0, .null)) rfl rfl (fun _ => rfl)
end YTL
theorem xof_f {B : zHp} (H : yH0 B) {m : xS} {ix a b : Nat} (ht : xti ix a b = true) : (xof (xW B m)).1 ix b = m.1 ix b := by
  obtain ⟨-, -, fs, x, h3, h4⟩ := xti_ok H ht
  unfold xof
  dsimp only
  rw [xW_o h3]
  dsimp only
  rw [xf_i h4]
def trun (b : Nat → Int) (n : Nat) : Nat → tSt → Int ⊕ tSt
  | 0, s => .inr s
  | f + 1, s => if s.2.2.2.2.2.1 = 4 then .inr s else match tstp b n s with
    | .inl x => .inl x
    | .inr s' => trun b n f s'
def kL (m0 : xS) (n : Nat) (s : tSt) (m : xS) : Prop := (∃ (bg : Nat) (ww : Int), kC m0 n s.1 bg 0 s.2.2.1 s.2.2.2.1 (s.2.2.2.2.1 : Int) (s.2.1 : Int) (tdp s.2.2.2.1 : Int) (tbr s.2.2.2.1 : Int) (s.2.2.2.2.2.1 : Int) ww m ∧ (s.2.2.2.2.2.1 ≠ 0 → ww = (s.2.2.2.2.2.2 : Int))) ∧ kI s ∧ s.2.2.2.2.2.1 ≤ 4
def kE (m0 : xS) (n : Nat) (r : Int ⊕ tSt) (m : xS) : Prop := match r with
  | .inl f => f ≠ 0 ∧ kF m0 n f m
  | .inr s => kL m0 n s m
section KRR
variable {B : zHp} {m0 : xS} {b : Nat → Int} {n d : Nat}
theorem kgt {i : Int32} : zcmp .gt i 400 = true ∨ zcmp .gt i 400 = false := by
  cases zcmp .gt i 400 with
  | true => exact Or.inl rfl
  | false => exact Or.inr rfl
theorem kX (H : yH0 B) (X : yTx B) (hd : 8 ≤ d) {f : Int} {m : xS} {lv : List (Nat × Value)} {i : Int32} (h : kF m0 n f m) (hf : f ≠ 0) (l0 : zld lv 0 = some (.ref 6)) (l1 : zld lv 1 = some (.ref 2)) (l2 : zld lv 2 = some (.int i)) {r : zRe} (K : zR none d 3 yRT zc33 (117, lv, []) (xW B m) r) : zR none d 3 yRT zc33 (37, lv, []) (xW B m) r := by
  obtain ⟨p, bg, out, wait, cl, k, dp, br, ex, wh, h⟩ := h
  have h5 := h.2.2.2.2.1
  refine q_li (k := 1) (i := 2) (q := (.iload_n 2, 1, 0, 0, .null)) rfl (fun _ => rfl) l2 ?_
  refine r_s (fr' := (41, lv, [.int 400, .int i])) (hp' := xW B m) (q := (.sipush 400, 3, 0, 0, .null)) rfl (fun _ => rfl) (Nat.le_refl _) ?_
  refine r_ifc (len := 3) (a := 117) (b := 0) (v0 := .null) (cn := .gt) (off := 76) rfl (fun _ => K) (fun _ => ?_)
  refine q_lr (k := 1) (i := 0) (q := (.aload_n 0, 1, 0, 0, .null)) rfl (fun _ => rfl) l0 ?_
  refine r_gi (v := m.1 6 8) H (pc := 45) (i := _) rfl (by decide) (by decide) rfl ?_
  refine r_s (fr' := (49, lv, [.int 4, .int (m.1 6 8)])) (hp' := xW B m) (q := (.iconst 4, 1, 0, 0, .null)) rfl (fun _ => rfl) (Nat.le_refl _) ?_
  refine r_ifc (len := 3) (a := 117) (b := 0) (v0 := .null) (cn := .eq) (off := 68) rfl (fun _ => K) (fun _ => ?_)
  refine q_lr (k := 1) (i := 1) (q := (.aload_n 1, 1, 0, 0, .null)) rfl (fun _ => rfl) l1 ?_
  have e : D51_2 500 m = some (0, m) := by
    unfold D51_2
    rw [if_pos]
    exact (yhl_cmp .ne (m.1 2 4) 0).mpr (by show (m.1 2 4).toInt ≠ 0; rw [h5]; exact hf)
  refine r_call (ix := 2) (as := []) (rest := []) (rv := some (.int 0)) (hp' := xW B m) (pc := 53) rfl xr51 rfl rfl rfl (xkd H (by decide)) (Nat.le_of_ble_eq_true rfl) (Z51_2 H X e (by omega)) (Nat.le_refl _) ?_
  exact r_if (len := 3) (a := 117) (b := 0) (v0 := .null) (cn := .eq) (off := 61) rfl (fun _ => K) (fun c => absurd c (by decide))
theorem krr (H : yH0 B) (X : yTx B) (hd : 10 ≤ d) (N : kN m0 b n) : ∀ (f : Nat) {s : tSt} {m : xS} {lv : List (Nat × Value)} {i : Int32}, kL m0 n s m → i.toInt + (f : Int) = 401 → 0 ≤ i.toInt → zld lv 0 = some (.ref 6) → zld lv 1 = some (.ref 2) → zld lv 2 = some (.int i) → ∃ m' lv', kE m0 n (trun b n f s) m' ∧ zld lv' 0 = some (.ref 6) ∧ zld lv' 1 = some (.ref 2) ∧ ∀ r, zR none d 3 yRT zc33 (117, lv', []) (xW B m') r → zR none d 3 yRT zc33 (37, lv, []) (xW B m) r := by
  intro f
  induction f with
  | zero =>
    intro s m lv i h hi i0 l0 l1 l2
    refine ⟨m, lv, h, l0, l1, fun r K => ?_⟩
    refine q_li (k := 1) (i := 2) (q := (.iload_n 2, 1, 0, 0, .null)) rfl (fun _ => rfl) l2 ?_
    refine r_s (fr' := (41, lv, [.int 400, .int i])) (hp' := xW B m) (q := (.sipush 400, 3, 0, 0, .null)) rfl (fun _ => rfl) (Nat.le_refl _) ?_
    refine r_ifc (len := 3) (a := 117) (b := 0) (v0 := .null) (cn := .gt) (off := 76) rfl (fun _ => K) (fun c => ?_)
    have c : ¬ (400 : Int) < i.toInt := zf c
    omega
  | succ f ih =>
    intro s m lv i h hi i0 l0 l1 l2
    obtain ⟨⟨bg, ww, hC, hw⟩, hI, hx⟩ := h
    have h5 := hC.2.2.2.2.1
    have h12 := hC.2.2.2.2.2.2.2.2.2.2.2.1
    have head : ∀ {r : zRe}, zR none d 3 yRT zc33 (49, lv, [.int 4, .int (m.1 6 8)]) (xW B m) r → zR none d 3 yRT zc33 (37, lv, []) (xW B m) r := by
      intro r K
      refine q_li (k := 1) (i := 2) (q := (.iload_n 2, 1, 0, 0, .null)) rfl (fun _ => rfl) l2 ?_
      refine r_s (fr' := (41, lv, [.int 400, .int i])) (hp' := xW B m) (q := (.sipush 400, 3, 0, 0, .null)) rfl (fun _ => rfl) (Nat.le_refl _) ?_
      refine r_ifc (len := 3) (a := 117) (b := 0) (v0 := .null) (cn := .gt) (off := 76) rfl (fun c => ?_) (fun _ => ?_)
      · have c : (400 : Int) < i.toInt := zt c
        omega
      refine q_lr (k := 1) (i := 0) (q := (.aload_n 0, 1, 0, 0, .null)) rfl (fun _ => rfl) l0 ?_
      refine r_gi (v := m.1 6 8) H (pc := 45) (i := _) rfl (by decide) (by decide) rfl ?_
      exact r_s (fr' := (49, lv, [.int 4, .int (m.1 6 8)])) (hp' := xW B m) (q := (.iconst 4, 1, 0, 0, .null)) rfl (fun _ => rfl) (Nat.le_refl _) K
    by_cases x4 : s.2.2.2.2.2.1 = 4
    · refine ⟨m, lv, ?_, l0, l1, fun r K => head (r_ifc (len := 3) (a := 117) (b := 0) (v0 := .null) (cn := .eq) (off := 68) rfl (fun _ => K) (fun c => ?_))⟩
      · unfold trun
        rw [if_pos x4]
        exact ⟨⟨bg, ww, hC, hw⟩, hI, hx⟩
      · have c : ¬ (m.1 6 8).toInt = 4 := zf c
        exact absurd (h12.trans (by rw [x4]; rfl)) c
    · have head2 : ∀ {r : zRe}, zR none d 3 yRT zc33 (59, lv, []) (xW B m) r → zR none d 3 yRT zc33 (37, lv, []) (xW B m) r := by
        intro r K
        refine head (r_ifc (len := 3) (a := 117) (b := 0) (v0 := .null) (cn := .eq) (off := 68) rfl (fun c => ?_) (fun _ => ?_))
        · have c : (m.1 6 8).toInt = 4 := zt c
          omega
        refine q_lr (k := 1) (i := 1) (q := (.aload_n 1, 1, 0, 0, .null)) rfl (fun _ => rfl) l1 ?_
        have e : D51_2 500 m = some (1, m) := by
          unfold D51_2
          rw [if_neg]
          intro z
          exact ((yhl_cmp .ne (m.1 2 4) 0).mp z : (m.1 2 4).toInt ≠ 0) h5
        refine r_call (ix := 2) (as := []) (rest := []) (rv := some (.int 1)) (hp' := xW B m) (pc := 53) rfl xr51 rfl rfl rfl (xkd H (by decide)) (Nat.le_of_ble_eq_true rfl) (Z51_2 H X e (by omega)) (Nat.le_refl _) ?_
        exact r_if (len := 3) (a := 117) (b := 0) (v0 := .null) (cn := .eq) (off := 61) rfl (fun c => absurd c (by decide)) (fun _ => K)
      -- a turn
      have turn : ∃ m2 : xS, kR m0 n (tstp b n s) m2 ∧ ∀ r, zR none d 3 yRT zc33 (111, lv, []) (xW B m2) r → zR none d 3 yRT zc33 (59, lv, []) (xW B m) r := by
        obtain ⟨p, k, out, wait, cl, ex, wh⟩ := s
        dsimp only at hC hw hx x4 h12
        have rd : ∀ {r : zRe} {pc : Nat} {rest : List Value} {ix len : Nat}, zg zc33 pc = some (.getfield ix, len, 5, 8, .null) → zR none d 3 yRT zc33 (pc + 3, lv, .int (m.1 6 8) :: rest) (xW B m) r → zR none d 3 yRT zc33 (pc, lv, .ref 6 :: rest) (xW B m) r := fun {r pc rest ix len} hq K => r_gi (v := m.1 6 8) H hq (by decide) (by decide) rfl K
        by_cases d0 : ex = 0
        · subst d0
          obtain ⟨x, e, hq⟩ := P34 (F := 500) (Nat.le_refl _) N hC hI
          refine ⟨x.2, hq, fun r K => ?_⟩
          refine q_lr (k := 1) (i := 0) (q := (.aload_n 0, 1, 0, 0, .null)) rfl (fun _ => rfl) l0 ?_
          refine rd (pc := 60) rfl ?_
          refine r_if (len := 3) (a := 74) (b := 0) (v0 := .null) (cn := .ne) (off := 11) rfl (fun c => absurd h12 (zt c)) (fun _ => ?_)
          refine q_lr (k := 1) (i := 0) (q := (.aload_n 0, 1, 0, 0, .null)) rfl (fun _ => rfl) l0 ?_
          refine q_lr (k := 1) (i := 1) (q := (.aload_n 1, 1, 0, 0, .null)) rfl (fun _ => rfl) l1 ?_
          refine r_call (ix := 6) (as := [.ref 2]) (rest := []) (rv := none) (hp' := xW B x.2) (pc := 68) rfl xr34 rfl rfl rfl (xkd H (by decide)) (Nat.le_of_ble_eq_true rfl) (Z34_6_2 H X e (by omega)) (Nat.le_refl _) ?_
          exact r_s (fr' := (111, lv, [])) (hp' := xW B x.2) (q := (.goto 40, 3, 111, 0, .null)) rfl (fun _ => rfl) (Nat.le_refl _) K
        · have hw := hw d0
          rw [hw] at hC
          have h74 : ∀ {r : zRe}, zR none d 3 yRT zc33 (74, lv, []) (xW B m) r → zR none d 3 yRT zc33 (59, lv, []) (xW B m) r := by
            intro r K
            refine q_lr (k := 1) (i := 0) (q := (.aload_n 0, 1, 0, 0, .null)) rfl (fun _ => rfl) l0 ?_
            refine rd (pc := 60) rfl ?_
            refine r_if (len := 3) (a := 74) (b := 0) (v0 := .null) (cn := .ne) (off := 11) rfl (fun _ => K) (fun c => ?_)
            have c : (m.1 6 8).toInt = 0 := Decidable.not_not.mp (zf c)
            omega
          by_cases d1 : ex = 1
          · subst d1
            obtain ⟨x, e, hq⟩ := P35 (F := 500) (Nat.le_refl _) N hC hI
            refine ⟨x.2, hq, fun r K => h74 ?_⟩
            refine q_lr (k := 1) (i := 0) (q := (.aload_n 0, 1, 0, 0, .null)) rfl (fun _ => rfl) l0 ?_
            refine rd (pc := 75) rfl ?_
            refine r_s (fr' := (79, lv, [.int 1, .int (m.1 6 8)])) (hp' := xW B m) (q := (.iconst 1, 1, 0, 0, .null)) rfl (fun _ => rfl) (Nat.le_refl _) ?_
            refine r_ifc (len := 3) (a := 90) (b := 0) (v0 := .null) (cn := .ne) (off := 11) rfl (fun c => absurd h12 (zt c)) (fun _ => ?_)
            refine q_lr (k := 1) (i := 0) (q := (.aload_n 0, 1, 0, 0, .null)) rfl (fun _ => rfl) l0 ?_
            refine q_lr (k := 1) (i := 1) (q := (.aload_n 1, 1, 0, 0, .null)) rfl (fun _ => rfl) l1 ?_
            refine r_call (ix := 6) (as := [.ref 2]) (rest := []) (rv := none) (hp' := xW B x.2) (pc := 84) rfl xr35 rfl rfl rfl (xkd H (by decide)) (Nat.le_of_ble_eq_true rfl) (Z35_6_2 H X e (by omega)) (Nat.le_refl _) ?_
            exact r_s (fr' := (111, lv, [])) (hp' := xW B x.2) (q := (.goto 24, 3, 111, 0, .null)) rfl (fun _ => rfl) (Nat.le_refl _) K
          · have h90 : ∀ {r : zRe}, zR none d 3 yRT zc33 (90, lv, []) (xW B m) r → zR none d 3 yRT zc33 (59, lv, []) (xW B m) r := by
              intro r K
              refine h74 ?_
              refine q_lr (k := 1) (i := 0) (q := (.aload_n 0, 1, 0, 0, .null)) rfl (fun _ => rfl) l0 ?_
              refine rd (pc := 75) rfl ?_
              refine r_s (fr' := (79, lv, [.int 1, .int (m.1 6 8)])) (hp' := xW B m) (q := (.iconst 1, 1, 0, 0, .null)) rfl (fun _ => rfl) (Nat.le_refl _) ?_
              refine r_ifc (len := 3) (a := 90) (b := 0) (v0 := .null) (cn := .ne) (off := 11) rfl (fun _ => K) (fun c => ?_)
              have c : (m.1 6 8).toInt = 1 := Decidable.not_not.mp (zf c)
              omega
            by_cases d2 : ex = 2
            · subst d2
              have hI2 := hI
              obtain ⟨i1, i2, i3, i4⟩ := hI2
              obtain ⟨x, e, hq⟩ := P36s (F := 500) (Nat.le_refl _) N hC i1 i2 i3 i4
              refine ⟨x.2, hq, fun r K => h90 ?_⟩
              refine q_lr (k := 1) (i := 0) (q := (.aload_n 0, 1, 0, 0, .null)) rfl (fun _ => rfl) l0 ?_
              refine rd (pc := 91) rfl ?_
              refine r_s (fr' := (95, lv, [.int 2, .int (m.1 6 8)])) (hp' := xW B m) (q := (.iconst 2, 1, 0, 0, .null)) rfl (fun _ => rfl) (Nat.le_refl _) ?_
              refine r_ifc (len := 3) (a := 106) (b := 0) (v0 := .null) (cn := .ne) (off := 11) rfl (fun c => absurd h12 (zt c)) (fun _ => ?_)
              refine q_lr (k := 1) (i := 0) (q := (.aload_n 0, 1, 0, 0, .null)) rfl (fun _ => rfl) l0 ?_
              refine q_lr (k := 1) (i := 1) (q := (.aload_n 1, 1, 0, 0, .null)) rfl (fun _ => rfl) l1 ?_
              refine r_call (ix := 6) (as := [.ref 2]) (rest := []) (rv := none) (hp' := xW B x.2) (pc := 100) rfl xr36 rfl rfl rfl (xkd H (by decide)) (Nat.le_of_ble_eq_true rfl) (Z36_6_2 H X e (by omega)) (Nat.le_refl _) ?_
              exact r_s (fr' := (111, lv, [])) (hp' := xW B x.2) (q := (.goto 8, 3, 111, 0, .null)) rfl (fun _ => rfl) (Nat.le_refl _) K
            · have d3 : ex = 3 := by omega
              subst d3
              obtain ⟨x, e, hq⟩ := P38 (F := 500) (Nat.le_refl _) N hC hI
              refine ⟨x.2, hq, fun r K => h90 ?_⟩
              refine q_lr (k := 1) (i := 0) (q := (.aload_n 0, 1, 0, 0, .null)) rfl (fun _ => rfl) l0 ?_
              refine rd (pc := 91) rfl ?_
              refine r_s (fr' := (95, lv, [.int 2, .int (m.1 6 8)])) (hp' := xW B m) (q := (.iconst 2, 1, 0, 0, .null)) rfl (fun _ => rfl) (Nat.le_refl _) ?_
              refine r_ifc (len := 3) (a := 106) (b := 0) (v0 := .null) (cn := .ne) (off := 11) rfl (fun _ => ?_) (fun c => ?_)
              · refine q_lr (k := 1) (i := 0) (q := (.aload_n 0, 1, 0, 0, .null)) rfl (fun _ => rfl) l0 ?_
                refine q_lr (k := 1) (i := 1) (q := (.aload_n 1, 1, 0, 0, .null)) rfl (fun _ => rfl) l1 ?_
                exact r_call (ix := 6) (as := [.ref 2]) (rest := []) (rv := none) (hp' := xW B x.2) (pc := 108) rfl xr38 rfl rfl rfl (xkd H (by decide)) (Nat.le_of_ble_eq_true rfl) (Z38_6_2 H X e (by omega)) (Nat.le_refl _) K
              · have c : (m.1 6 8).toInt = 2 := Decidable.not_not.mp (zf c)
                omega
      obtain ⟨m2, hR, tr⟩ := turn
      have e1 : (i + Int32.ofInt 1).toInt = i.toInt + 1 := xa1 (by show _ ≤ _ + (1 : Int); omega) (by show _ + (1 : Int) ≤ _; omega)
      have k0 : zld (zs1 lv 2 (.int (i + Int32.ofInt 1))) 0 = some (.ref 6) := x_o1 l0 rfl rfl
      have k1 : zld (zs1 lv 2 (.int (i + Int32.ofInt 1))) 1 = some (.ref 2) := x_o1 l1 rfl rfl
      have k2 : zld (zs1 lv 2 (.int (i + Int32.ofInt 1))) 2 = some (.int (i + Int32.ofInt 1)) := zs1_ld _ _ _
      have back : ∀ {r : zRe}, zR none d 3 yRT zc33 (37, zs1 lv 2 (.int (i + Int32.ofInt 1)), []) (xW B m2) r → zR none d 3 yRT zc33 (37, lv, []) (xW B m) r := by
        intro r K
        refine head2 (tr r ?_)
        refine q_inc (i := 2) (n := 1) (q := (.iinc 2 1, 3, 0, 0, .null)) rfl (fun _ => rfl) l2 (by decide) ?_
        exact r_s (fr' := (37, zs1 lv 2 (.int (i + Int32.ofInt 1)), [])) (hp' := xW B m2) (q := (.goto (-77), 3, 37, 0, .null)) rfl (fun _ => rfl) (Nat.le_refl _) K
      have tu : trun b n (f + 1) s = (match tstp b n s with
        | .inl x => .inl x
        | .inr s' => trun b n f s') := by
        show (if s.2.2.2.2.2.1 = 4 then _ else _) = _
        rw [if_neg x4]
      rw [tu]
      cases hs : tstp b n s with
      | inl x =>
        rw [hs] at hR
        exact ⟨m2, _, hR, k0, k1, fun r K => back (kX H X (by omega) hR.2 hR.1 k0 k1 k2 K)⟩
      | inr s' =>
        rw [hs] at hR
        obtain ⟨⟨bg', hC'⟩, hI'⟩ := hR
        obtain ⟨m3, lv3, a1, a2, a3, a4⟩ := ih (s := s') (m := m2) ⟨⟨bg', _, hC', fun _ => rfl⟩, hI', tstp_ex hs⟩ (by rw [e1]; omega) (by rw [e1]; omega) k0 k1 k2
        exact ⟨m3, lv3, a1, a2, a3, fun r K => back (a4 r K)⟩
end KRR
