/-! The class's rule: a new Rule. -/
set_option maxRecDepth 4000 in
theorem xg292 : zg zms 292 = some (zm292.2.2.1, zm292.2.2.2.1, zc292) := rfl
set_option maxRecDepth 4000 in
theorem xg25 : zg zms 25 = some (zm25.2.2.1, zm25.2.2.2.1, zc25) := rfl
theorem xr292 : zar 292 = (2, 200) := by decide +kernel
theorem xr25 : zar 25 = (1, 4) := by decide +kernel
section YNEW
variable {hp hp0 hp' : zHp} {ev : zEv} {d nL : Nat} {rt : Option FieldType} {cd : List (Option zEn)} {r : zRe} {pc : Nat} {lv : List (Nat × Value)}
theorem zup2 {h : Nat → zCl} {i : Nat} {a b : zCl} : zup (zup h i a) i b = zup h i b := by
  funext j
  unfold zup
  by_cases e : j = i
  · rw [if_pos e, if_pos e]
  · rw [if_neg e, if_neg e, if_neg e]
theorem zupo {h : Nat → zCl} {i j : Nat} {a : zCl} (e : ¬ j = i) : zup h i a j = h j := if_neg e
theorem zups {h : Nat → zCl} {i : Nat} {a : zCl} : zup h i a i = a := if_pos rfl
theorem h_len {len a b ix n : Nat} {rest : List Value} {v0 : Value} {f : Nat → Int32} (hq : zg cd pc = some (.arraylength, len, a, b, v0)) (h1 : ix < hp.1) (h2 : ix < zSC) (hc : hp.2 ix = .inl (0, n, .inl f)) (K : zR ev d nL rt cd (pc + 1, lv, .int (Int32.ofNat n) :: rest) hp r) : zR ev d nL rt cd (pc, lv, .ref ix :: rest) hp r := by
  refine r_s hq (fun call => ?_) (Nat.le_refl _) K
  show zAlen ztb ev (pc, lv, .ref ix :: rest) hp = _
  unfold zAlen
  dsimp only
  rw [if_pos h2, if_pos h1, hc]
  rfl
/-- a constructor's call whose answer is known -/
theorem r_callI {i len k ix n ci : Nat} {as st rest : List Value} {v : Value} {rv : Option Value} (hq : zg cd pc = some (.invokespecial i, len, k, 1, v)) (ha : zar k = (n, ci)) (hst : st.drop n = .ref ix :: rest) (htk : (st.take n).reverse = as) (hln : (st.take n).length = n) (hix : ix < zSC) (hsm : (rest.map fun v => v.category).sum ≤ 8) (hc : zCan d k (.ref ix :: as) hp (rv, hp')) (hm : hp.1 ≤ hp'.1) (K : zR ev d nL rt cd (pc + 3, lv, rv.toList ++ rest) hp' r) : zR ev d nL rt cd (pc, lv, st) hp r := by
  obtain ⟨n0, f0, K⟩ := K
  obtain ⟨fc, hc⟩ := hc
  refine ⟨n0 + 1, f0 + fc, fun f1 f2 h1 h2 => ?_⟩
  obtain ⟨g, rfl⟩ : ∃ g, f2 = g + 1 := ⟨f2 - 1, by omega⟩
  unfold zrun
  rw [hq]
  dsimp only
  have e : zdo zts ev (zcall zts zms f1 d) nL rt (.invokespecial i, len, k, 1, v) (pc, lv, st) hp = some (.inl ((pc + 3, lv, rv.toList ++ rest), hp')) := by
    show zCalI (zcall zts zms f1 d) k (zar k).1 (pc, lv, st) hp = _
    rw [ha]
    unfold zCalI
    dsimp only
    rw [hst]
    dsimp only
    rw [if_pos ⟨hln, hix, hsm⟩, htk, hc f1 (by omega)]
    rfl
  rw [e]
  dsimp only
  rw [if_pos hm]
  exact K f1 g (by omega) (by omega)
/-- Arrays.copyOf of the steps -/
theorem h_cpy {f : Nat → Int32} {L : Int32} (h7 : hp.2 7 = .inl (0, 400, .inl f)) (l7 : 7 < hp.1) (hN : hp.1 < zSC) (hL : 0 ≤ L.toInt ∧ L.toInt ≤ 400) (hd : 1 ≤ d) : ∃ (n : Nat) (g : Nat → Int32), (n ≤ 400 ∧ (n = L.toInt.toNat ∧ ∀ j, j < n → g j = f j)) ∧ zCan d 292 [.ref 7, .int L] hp (some (.ref hp.1), (hp.1 + 1, zup hp.2 hp.1 (.inl (0, n, .inl g)))) := by
  obtain ⟨e, rfl⟩ : ∃ e, d = e + 1 := ⟨d - 1, by omega⟩
  have e4 : (Int32.ofNat 400).toInt = 400 := rfl
  have l7s : 7 < zSC := by decide
  by_cases c : L = Int32.ofNat 400
  · refine ⟨400, f, ⟨Nat.le_refl _, by rw [c, e4]; rfl, fun _ _ => rfl⟩, zCan_body (nL := 3) (rt := some (.array .int)) (cd := zc292) xg292 ⟨Nat.le_of_ble_eq_true rfl, by decide⟩ (Nat.le_succ _) ?_⟩
    refine q_li (k := 1) (i := 1) (x := L) (q := (.iload_n 1, 1, 0, 0, .null)) rfl (fun _ => rfl) rfl ?_
    refine q_lr (k := 1) (i := 0) (x := 7) (q := (.aload_n 0, 1, 0, 0, .null)) rfl (fun _ => rfl) rfl ?_
    refine h_len (pc := 2) rfl l7 l7s h7 ?_
    refine r_ifc (len := 3) (a := 14) (b := 0) (v0 := .null) (cn := .ne) (off := 11) rfl (fun z => absurd c (znet z)) (fun _ => ?_)
    refine q_lr (k := 1) (i := 0) (x := 7) (q := (.aload_n 0, 1, 0, 0, .null)) rfl (fun _ => rfl) rfl ?_
    refine r_s (fr' := (10, lv_args 0 [.ref 7, .int L], [.ref hp.1])) (hp' := (hp.1 + 1, zup hp.2 hp.1 (.inl (0, 400, .inl f)))) (q := (.invokevirtual 316, 3, 0, 9, .null)) rfl (fun call => ?_) (Nat.le_succ _) ?_
    · show zCln (7, lv_args 0 [.ref 7, .int L], [.ref 7]) hp = _
      unfold zCln
      dsimp only
      rw [if_pos ⟨l7, l7s, hN, by decide⟩, h7]
      rfl
    refine r_s (fr' := (13, lv_args 0 [.ref 7, .int L], [.ref hp.1])) (hp' := (hp.1 + 1, zup hp.2 hp.1 (.inl (0, 400, .inl f)))) (q := (.checkcast 317, 3, 0, 0, .null)) rfl (fun call => ?_) (Nat.le_refl _) ?_
    · show zCst (10, lv_args 0 [.ref 7, .int L], [.ref hp.1]) (hp.1 + 1, zup hp.2 hp.1 (.inl (0, 400, .inl f))) = _
      unfold zCst
      dsimp only
      rw [if_pos ⟨Nat.lt_succ_self _, hN⟩, zups]
      rfl
    exact r_ret (q := (.areturn, 1, 0, 0, .null)) rfl rfl (fun _ => rfl)
  · have cl : L.toInt ≠ 400 := fun z => c (Int32.toInt_inj.mp (z.trans e4.symm))
    have n0 : ¬ L < 0 := fun z => by
      have z : L.toInt < (0 : Int) := Int32.lt_iff_toInt_lt.mp z
      omega
    have ln : L.toNatClampNeg ≤ 400 := by
      show L.toInt.toNat ≤ 400
      omega
    have lt : L < Int32.ofNat 400 := Int32.lt_iff_toInt_lt.mpr (by rw [e4]; omega)
    have n7 : ¬ 7 = hp.1 := by omega
    refine ⟨L.toNatClampNeg, va_cpy f (fun _ => 0) (0 : Int32).toNatClampNeg (0 : Int32).toNatClampNeg L.toNatClampNeg, ⟨ln, rfl, fun j hj => by
      show va_cpy f (fun _ => 0) 0 0 L.toNatClampNeg j = f j
      rw [pk_cpy_in (Nat.zero_le _) (by rw [Nat.zero_add]; exact hj), Nat.sub_zero, Nat.zero_add]⟩, zCan_body (nL := 3) (rt := some (.array .int)) (cd := zc292) xg292 ⟨Nat.le_of_ble_eq_true rfl, by decide⟩ (Nat.le_succ _) ?_⟩
    refine q_li (k := 1) (i := 1) (x := L) (q := (.iload_n 1, 1, 0, 0, .null)) rfl (fun _ => rfl) rfl ?_
    refine q_lr (k := 1) (i := 0) (x := 7) (q := (.aload_n 0, 1, 0, 0, .null)) rfl (fun _ => rfl) rfl ?_
    refine h_len (pc := 2) rfl l7 l7s h7 ?_
    refine r_ifc (len := 3) (a := 14) (b := 0) (v0 := .null) (cn := .ne) (off := 11) rfl (fun _ => ?_) (fun z => absurd (zne z) c)
    refine q_li (k := 1) (i := 1) (x := L) (q := (.iload_n 1, 1, 0, 0, .null)) rfl (fun _ => rfl) rfl ?_
    refine r_s (fr' := (17, lv_args 0 [.ref 7, .int L], [.ref hp.1])) (hp' := (hp.1 + 1, zup hp.2 hp.1 (.inl (0, L.toNatClampNeg, .inl (fun _ => 0))))) (q := (.newarray .int, 2, 0, 0, .null)) rfl (fun call => ?_) (Nat.le_succ _) ?_
    · show zNewa .int (15, lv_args 0 [.ref 7, .int L], [.int L]) hp = _
      unfold zNewa
      dsimp only
      rw [if_pos ⟨n0, Nat.le_trans ln (by decide), hN⟩]
      rfl
    have hc7 : (zup hp.2 hp.1 (.inl (0, L.toNatClampNeg, .inl (fun _ => 0)))) 7 = .inl (0, 400, .inl f) := (zupo n7).trans h7
    have hcN : (zup hp.2 hp.1 (.inl (0, L.toNatClampNeg, .inl (fun _ => 0)))) hp.1 = .inl (0, L.toNatClampNeg, .inl (fun _ => 0)) := zups
    have l7b : 7 < hp.1 + 1 := by omega
    refine q_sr (k := 1) (i := 2) (q := (.astore_n 2, 1, 0, 0, .null)) rfl (fun _ => rfl) (by decide) ?_
    have m0 : zld (zs1 (lv_args 0 [.ref 7, .int L]) 2 (.ref hp.1)) 0 = some (.ref 7) := rfl
    have m1 : zld (zs1 (lv_args 0 [.ref 7, .int L]) 2 (.ref hp.1)) 1 = some (.int L) := rfl
    have m2 : zld (zs1 (lv_args 0 [.ref 7, .int L]) 2 (.ref hp.1)) 2 = some (.ref hp.1) := zs1_ld _ _ _
    generalize zs1 (lv_args 0 [.ref 7, .int L]) 2 (.ref hp.1) = lw at *
    refine q_lr (k := 1) (i := 0) (q := (.aload_n 0, 1, 0, 0, .null)) rfl (fun _ => rfl) m0 ?_
    refine r_s (fr' := (20, lw, [.int 0, .ref 7])) (hp' := (hp.1 + 1, zup hp.2 hp.1 (.inl (0, L.toNatClampNeg, .inl (fun _ => 0))))) (q := (.iconst 0, 1, 0, 0, .null)) rfl (fun _ => rfl) (Nat.le_refl _) ?_
    refine q_lr (k := 1) (i := 2) (q := (.aload_n 2, 1, 0, 0, .null)) rfl (fun _ => rfl) m2 ?_
    refine r_s (fr' := (22, lw, [.int 0, .ref hp.1, .int 0, .ref 7])) (hp' := (hp.1 + 1, zup hp.2 hp.1 (.inl (0, L.toNatClampNeg, .inl (fun _ => 0))))) (q := (.iconst 0, 1, 0, 0, .null)) rfl (fun _ => rfl) (Nat.le_refl _) ?_
    refine q_lr (k := 1) (i := 0) (q := (.aload_n 0, 1, 0, 0, .null)) rfl (fun _ => rfl) m0 ?_
    refine h_len (pc := 23) rfl l7b l7s hc7 ?_
    refine q_li (k := 1) (i := 1) (q := (.iload_n 1, 1, 0, 0, .null)) rfl (fun _ => rfl) m1 ?_
    refine r_s (fr' := (28, lw, [.int L, .int 0, .ref hp.1, .int 0, .ref 7])) (hp' := (hp.1 + 1, zup hp.2 hp.1 (.inl (0, L.toNatClampNeg, .inl (fun _ => 0))))) (q := (.invokestatic 304, 3, 0, 3, .null)) rfl (fun call => ?_) (Nat.le_refl _) ?_
    · show zMin (25, lw, [.int L, .int (Int32.ofNat 400), .int 0, .ref hp.1, .int 0, .ref 7]) _ = _
      unfold zMin
      dsimp only
      rw [if_pos (Nat.le_of_ble_eq_true rfl), if_pos lt]
      rfl
    refine r_s (fr' := (31, lw, [])) (hp' := (hp.1 + 1, zup hp.2 hp.1 (.inl (0, L.toNatClampNeg, .inl (va_cpy f (fun _ => 0) (0 : Int32).toNatClampNeg (0 : Int32).toNatClampNeg L.toNatClampNeg))))) (q := (.invokestatic 150, 3, 0, 0, .null)) rfl (fun call => ?_) (Nat.le_refl _) ?_
    · show zCpy (28, lw, [.int L, .int 0, .ref hp.1, .int 0, .ref 7]) (hp.1 + 1, zup hp.2 hp.1 (.inl (0, L.toNatClampNeg, .inl (fun _ => 0)))) = _
      unfold zCpy
      dsimp only
      rw [if_pos ⟨l7b, l7s, Nat.lt_succ_self _, hN, n7, by decide, by decide, n0⟩, hc7, hcN]
      show (if (0 : Int32).toNatClampNeg + L.toNatClampNeg ≤ 400 ∧ (0 : Int32).toNatClampNeg + L.toNatClampNeg ≤ L.toNatClampNeg ∧ (([] : List Value).map fun v => v.category).sum ≤ 8 then zn (28 + 3) lw [] (hp.1 + 1, zup (zup hp.2 hp.1 (.inl (0, L.toNatClampNeg, .inl (fun _ => 0)))) hp.1 (.inl (0, L.toNatClampNeg, .inl (va_cpy f (fun _ => 0) (0 : Int32).toNatClampNeg (0 : Int32).toNatClampNeg L.toNatClampNeg)))) else none) = _
      rw [if_pos ⟨by rw [show (0 : Int32).toNatClampNeg = 0 from rfl]; omega, by rw [show (0 : Int32).toNatClampNeg = 0 from rfl]; omega, by decide⟩, zup2]
      rfl
    refine q_lr (k := 1) (i := 2) (q := (.aload_n 2, 1, 0, 0, .null)) rfl (fun _ => rfl) m2 ?_
    exact r_ret (q := (.areturn, 1, 0, 0, .null)) rfl rfl (fun _ => rfl)
/-- Rule's constructor -/
theorem h_ini {a b : Nat} (ha : a < hp.1) (h4 : hp.2 a = .inr (4, [.null, .null])) (hN : hp.1 < zSC) (hd : 1 ≤ d) : zCan d 25 [.ref a, .ref b] hp (none, (hp.1 + 1, zup (zup hp.2 hp.1 (.inl (3, 64, .inr (.inl (fun _ => 0))))) a (.inr (4, [.ref b, .ref hp.1])))) := by
  obtain ⟨e, rfl⟩ : ∃ e, d = e + 1 := ⟨d - 1, by omega⟩
  have na : ¬ a = hp.1 := by omega
  have as : a < zSC := Nat.lt_trans ha hN
  refine zCan_body (nL := 2) (rt := none) (cd := zc25) xg25 ⟨Nat.le_of_ble_eq_true rfl, by decide⟩ (Nat.le_succ _) ?_
  refine q_lr (k := 1) (i := 0) (x := a) (q := (.aload_n 0, 1, 0, 0, .null)) rfl (fun _ => rfl) rfl ?_
  refine r_s (fr' := (4, lv_args 0 [.ref a, .ref b], [])) (hp' := hp) (q := (.invokespecial 3, 3, 0, 0, .null)) rfl (fun _ => rfl) (Nat.le_refl _) ?_
  refine q_lr (k := 1) (i := 0) (x := a) (q := (.aload_n 0, 1, 0, 0, .null)) rfl (fun _ => rfl) rfl ?_
  refine r_s (fr' := (7, lv_args 0 [.ref a, .ref b], [.int 64, .ref a])) (hp' := hp) (q := (.bipush 64, 2, 0, 0, .null)) rfl (fun _ => rfl) (Nat.le_refl _) ?_
  refine r_s (fr' := (9, lv_args 0 [.ref a, .ref b], [.ref hp.1, .ref a])) (hp' := (hp.1 + 1, zup hp.2 hp.1 (.inl (3, 64, .inr (.inl (fun _ => 0)))))) (q := (.newarray .long, 2, 0, 0, .null)) rfl (fun call => ?_) (Nat.le_succ _) ?_
  · show zNewa .long (7, lv_args 0 [.ref a, .ref b], [.int 64, .ref a]) hp = _
    unfold zNewa
    dsimp only
    rw [if_pos ⟨by decide, by decide, hN⟩]
    rfl
  refine r_put (pc := 9) rfl ⟨Nat.lt_succ_of_lt ha, as, rfl⟩ ((zupo na).trans h4) (by decide) ?_
  refine q_lr (k := 1) (i := 0) (x := a) (q := (.aload_n 0, 1, 0, 0, .null)) rfl (fun _ => rfl) rfl ?_
  refine q_lr (k := 1) (i := 1) (x := b) (q := (.aload_n 1, 1, 0, 0, .null)) rfl (fun _ => rfl) rfl ?_
  refine r_put (pc := 14) rfl ⟨Nat.lt_succ_of_lt ha, as, rfl⟩ zups (Nat.le_of_ble_eq_true rfl) ?_
  dsimp only
  rw [zup2]
  exact r_ret (q := (.return_, 1, 0, 0, .null)) rfl rfl (fun _ => rfl)
/-- three cells are new: a Rule, its steps, its stack -/
def yNw (hp hp5 : zHp) : Prop := ∃ (n : Nat) (g : Nat → Int32) (f : Nat → Int64), (n ≤ 400 ∧ (n = ((xof hp).1 6 1).toInt.toNat ∧ ∀ j, j < n → g j = (xof hp).1 7 j)) ∧ hp5.1 = hp.1 + 3 ∧ hp5.2 hp.1 = .inr (4, [.ref (hp.1 + 1), .ref (hp.1 + 2)]) ∧ hp5.2 (hp.1 + 1) = .inl (0, n, .inl g) ∧ hp5.2 (hp.1 + 2) = .inl (3, 64, .inr (.inl f)) ∧ ∀ i, i ≠ hp.1 → i ≠ hp.1 + 1 → i ≠ hp.1 + 2 → hp5.2 i = hp.2 i
theorem h_tail (hd : 8 ≤ d) (H : yH0 hp) (hN : hp.1 + 3 ≤ zSC) (l0 : zld lv 0 = some (.ref 6)) (l1 : zld lv 1 = some (.ref 2)) : ∃ x : zRe, zR none d 3 yRT zc33 (117, lv, []) hp x ∧ hp.1 ≤ x.2.1 ∧ (x = (some .null, hp) ∨ ∃ hp5, x = (some (.ref hp.1), hp5) ∧ yNw hp hp5) := by
  have head : ∀ {r : zRe}, zR none d 3 yRT zc33 (121, lv, [.int (if (xof hp).1 2 4 = 0 then 1 else 0)]) hp r → zR none d 3 yRT zc33 (117, lv, []) hp r := by
    intro r K
    refine q_lr (k := 1) (i := 1) (q := (.aload_n 1, 1, 0, 0, .null)) rfl (fun _ => rfl) l1 ?_
    exact r_call (ix := 2) (as := []) (rest := []) (rv := some (.int (if (xof hp).1 2 4 = 0 then 1 else 0))) (hp' := hp) (pc := 118) rfl xr51 rfl rfl rfl (h_kd H (by decide)) (Nat.le_of_ble_eq_true rfl) (h_snd H (by omega)) (Nat.le_refl _) K
  by_cases c3 : (xof hp).1 2 4 = 0
  · rw [if_pos c3] at head
    obtain ⟨i1, i2, -, f7, h7⟩ := xta_ok H (show xta 7 0 400 = true by decide)
    have n7 : ¬ 7 = hp.1 := by omega
    obtain ⟨j1, j2, fs6, x6, h6, k6⟩ := xti_ok H (show xti 6 5 1 = true by decide)
    obtain ⟨-, -, fs6b, h6b, k6b⟩ := xtr_ok H (show xtr 6 5 0 7 = true by decide)
    have n6 : ¬ 6 = hp.1 := by omega
    have b6 := xT_of H 6 1 (0, 400) rfl
    have e6 : (xof hp).1 6 1 = x6 := by
      unfold xof
      dsimp only
      rw [h6]
      dsimp only
      rw [k6]
    rw [e6] at b6
    have b61 : (0 : Int) ≤ x6.toInt := b6.1
    have b62 : x6.toInt ≤ 400 := b6.2
    have hN1 : hp.1 < zSC := by omega
    obtain ⟨n, g, hn, z⟩ := h_cpy (d := d) (hp := (hp.1 + 1, zup hp.2 hp.1 (.inr (4, [.null, .null])))) (f := f7) (L := x6) ((zupo n7).trans h7) (by show 7 < hp.1 + 1; omega) (by show hp.1 + 1 < zSC; omega) ⟨b61, b62⟩ (by omega)
    have e7 : (xof hp).1 7 = f7 := by
      funext j
      unfold xof
      dsimp only
      rw [h7]
    have hn : n ≤ 400 ∧ (n = ((xof hp).1 6 1).toInt.toNat ∧ ∀ j, j < n → g j = (xof hp).1 7 j) := ⟨hn.1, by rw [e6]; exact hn.2.1, fun j hj => by rw [e7]; exact hn.2.2 j hj⟩
    have z2 := h_ini (d := d) (hp := (hp.1 + 2, zup (zup hp.2 hp.1 (.inr (4, [.null, .null]))) (hp.1 + 1) (.inl (0, n, .inl g)))) (a := hp.1) (b := hp.1 + 1) (by show hp.1 < hp.1 + 2; omega) ((zupo (by omega)).trans zups) (by show hp.1 + 2 < zSC; omega) (by omega)
    refine ⟨(some (.ref hp.1), (hp.1 + 3, zup (zup (zup (zup hp.2 hp.1 (.inr (4, [.null, .null]))) (hp.1 + 1) (.inl (0, n, .inl g))) (hp.1 + 2) (.inl (3, 64, .inr (.inl (fun _ => 0))))) hp.1 (.inr (4, [.ref (hp.1 + 1), .ref (hp.1 + 2)])))), head (r_if (len := 3) (a := 145) (b := 0) (v0 := .null) (cn := .eq) (off := 24) rfl (fun c => absurd (zeq c) (by decide)) (fun _ => ?_)), Nat.le_add_right _ 3, Or.inr ⟨_, rfl, n, g, fun _ => 0, hn, rfl, zups, ((zupo (by omega)).trans (zupo (by omega))).trans zups, (zupo (by omega)).trans zups, fun i a1 a2 a3 => (((zupo a1).trans (zupo a3)).trans (zupo a2)).trans (zupo a1)⟩⟩
    · refine r_s (fr' := (127, lv, [.ref hp.1])) (hp' := (hp.1 + 1, zup hp.2 hp.1 (.inr (4, [.null, .null])))) (q := (.new 59, 3, 4, 0, .null)) rfl (fun call => ?_) (Nat.le_succ _) ?_
      · show zNew 4 zdf4 (124, lv, []) hp = _
        unfold zNew
        rw [if_pos hN1]
        rfl
      refine r_s (fr' := (128, lv, [.ref hp.1, .ref hp.1])) (hp' := (hp.1 + 1, zup hp.2 hp.1 (.inr (4, [.null, .null])))) (q := (.dup, 1, 0, 0, .null)) rfl (fun _ => rfl) (Nat.le_refl _) ?_
      refine q_lr (k := 1) (i := 0) (q := (.aload_n 0, 1, 0, 0, .null)) rfl (fun _ => rfl) l0 ?_
      refine r_get (pc := 129) (ix := 6) (fs := fs6b) rfl (by decide) ⟨by show 6 < hp.1 + 1; omega, j2⟩ ((zupo n6).trans h6b) k6b ?_
      refine q_lr (k := 1) (i := 0) (q := (.aload_n 0, 1, 0, 0, .null)) rfl (fun _ => rfl) l0 ?_
      refine r_get (pc := 133) (ix := 6) (fs := fs6) rfl (by decide) ⟨by show 6 < hp.1 + 1; omega, j2⟩ ((zupo n6).trans h6) k6 ?_
      refine r_callS (as := [.ref 7, .int x6]) (rest := [.ref hp.1, .ref hp.1]) (rv := some (.ref (hp.1 + 1))) (pc := 136) rfl xr292 rfl rfl rfl (Nat.le_of_ble_eq_true rfl) z (Nat.le_succ _) ?_
      refine r_callI (ix := hp.1) (as := [.ref (hp.1 + 1)]) (rest := [.ref hp.1]) (rv := none) (pc := 139) rfl xr25 rfl rfl rfl hN1 (Nat.le_of_ble_eq_true rfl) z2 (Nat.le_succ _) ?_
      refine r_s (fr' := (146, lv, [.ref hp.1])) (q := (.goto 4, 3, 146, 0, .null)) rfl (fun _ => rfl) (Nat.le_refl _) ?_
      exact r_ret (q := (.areturn, 1, 0, 0, .null)) rfl rfl (fun _ => rfl)
  · rw [if_neg c3] at head
    refine ⟨(some .null, hp), head (r_if (len := 3) (a := 145) (b := 0) (v0 := .null) (cn := .eq) (off := 24) rfl (fun _ => ?_) (fun c => absurd rfl (zneq c))), Nat.le_refl _, Or.inl rfl⟩
    refine r_s (fr' := (146, lv, [.null])) (hp' := hp) (q := (.aconst_null, 1, 0, 0, .null)) rfl (fun _ => rfl) (Nat.le_refl _) ?_
    exact r_ret (q := (.areturn, 1, 0, 0, .null)) rfl rfl (fun _ => rfl)
end YNEW
