/-! p1: feed on any heap whose object and row are known. -/
theorem r_inc {ev : zEv} {d nL : Nat} {rt : Option FieldType} {cd : List (Option zEn)} {hp : zHp} {r : zRe} {pc len a b i : Nat} {lv : List (Nat × Value)} {st : List Value} {v0 : Value} {n : Int} {x v : Int32} (hq : zg cd pc = some (.iinc i n, len, a, b, v0)) (hx : zld lv i = some (.int x)) (hi : i < nL) (hv : x + Int32.ofInt n = v) (K : zR ev d nL rt cd (pc + 3, zs1 lv i (.int v), st) hp r) : zR ev d nL rt cd (pc, lv, st) hp r := by
  refine r_s hq (fun call => ?_) (Nat.le_refl _) K
  show zInc i n nL (pc, lv, st) hp = _
  unfold zInc zn
  dsimp only
  rw [hx]
  dsimp only
  rw [if_pos hi, hv]
theorem zn400 {n : Nat} (h : n < 400) : zcmp .ge (nI n) 400 = false := by
  have e : (400 : Int32) = nI 400 := by decide
  show decide ((400 : Int32) ≤ nI n) = false
  rw [e]
  exact decide_eq_false (fun q => by have := (nI_leI (by decide) (by omega)).mp q; omega)
theorem zpb_C (d : Nat) (hp : zHp) (v sh : Int32) (n : Nat) (hn : n < 400) (f : Nat → Int32) (tl : List Value) (hl0 : 0 < hp.1) (hl : 1 < hp.1) (h0 : hp.2 0 = .inr (10, .ref 1 :: .int (nI n) :: tl)) (h1 : hp.2 1 = .inl (0, 400, .inl f)) : ∃ (hp1 : zHp) (g : Nat → Int32), hp1.1 = hp.1 ∧ hp1.2 0 = .inr (10, .ref 1 :: .int (nI (n + 1)) :: tl) ∧ hp1.2 1 = .inl (0, 400, .inl g) ∧ (∀ i, i ≠ 0 → i ≠ 1 → hp1.2 i = hp.2 i) ∧ ∀ r, zR none d 3 none zc123 (43, [(2, .int sh), (0, .ref 0), (1, .int v)], []) hp1 r → zR none d 3 none zc123 (7, [(2, .int sh), (0, .ref 0), (1, .int v)], []) hp r := by
  refine ⟨(hp.1, zup (zup hp.2 1 (.inl (0, 400, .inl (upd f (nI n).toNatClampNeg ((((v.toUInt32 >>> (sh.toUInt32 &&& Int32.toUInt32 31)).toInt32) &&& 255)))))) 0 (.inr (10, .ref 1 :: .int (nI n + 1) :: tl))), upd f (nI n).toNatClampNeg ((((v.toUInt32 >>> (sh.toUInt32 &&& Int32.toUInt32 31)).toInt32) &&& 255)), rfl, ?_, ?_, ?_, fun r K => ?_⟩
  · rw [nI_succ]
    dsimp only
    exact zup_eq
  · dsimp only
    exact (zup_ne (i := 1) (j := 0) (by decide)).trans zup_eq
  · intro i i0 i1
    dsimp only
    exact (zup_ne i0).trans (zup_ne i1)
  refine r_s (fr' := (8, [(2, .int sh), (0, .ref 0), (1, .int v)], [.ref 0])) (hp' := hp) zf123_7 (fun _ => rfl) (Nat.le_refl _) ?_
  refine r_get zf123_8 (by decide) ⟨hl0, by decide⟩ h0 (v := .int (nI n)) rfl ?_
  refine r_s (fr' := (14, [(2, .int sh), (0, .ref 0), (1, .int v)], [.int 400, .int (nI n)])) (hp' := hp) zf123_11 (fun _ => rfl) (Nat.le_refl _) ?_
  refine r_ifc zf123_14 (fun q => absurd (q.symm.trans (zn400 hn)) (by decide)) (fun _ => ?_)
  refine r_s (fr' := (18, [(2, .int sh), (0, .ref 0), (1, .int v)], [.ref 0])) (hp' := hp) zf123_17 (fun _ => rfl) (Nat.le_refl _) ?_
  refine r_get zf123_18 (by decide) ⟨hl0, by decide⟩ h0 (v := .ref 1) rfl ?_
  refine r_s (fr' := (22, [(2, .int sh), (0, .ref 0), (1, .int v)], [.ref 0, .ref 1])) (hp' := hp) zf123_21 (fun _ => rfl) (Nat.le_refl _) ?_
  refine r_get zf123_22 (by decide) ⟨hl0, by decide⟩ h0 (v := .int (nI n)) rfl ?_
  refine r_s (fr' := (26, [(2, .int sh), (0, .ref 0), (1, .int v)], [.int v, .int (nI n), .ref 1])) (hp' := hp) zf123_25 (fun _ => rfl) (Nat.le_refl _) ?_
  refine r_s (fr' := (27, [(2, .int sh), (0, .ref 0), (1, .int v)], [.int sh, .int v, .int (nI n), .ref 1])) (hp' := hp) zf123_26 (fun _ => rfl) (Nat.le_refl _) ?_
  refine r_s (fr' := (28, [(2, .int sh), (0, .ref 0), (1, .int v)], [.int ((v.toUInt32 >>> (sh.toUInt32 &&& Int32.toUInt32 31)).toInt32), .int (nI n), .ref 1])) (hp' := hp) zf123_27 (fun _ => rfl) (Nat.le_refl _) ?_
  refine r_s (fr' := (31, [(2, .int sh), (0, .ref 0), (1, .int v)], [.int 255, .int ((v.toUInt32 >>> (sh.toUInt32 &&& Int32.toUInt32 31)).toInt32), .int (nI n), .ref 1])) (hp' := hp) zf123_28 (fun _ => rfl) (Nat.le_refl _) ?_
  refine r_s (fr' := (32, [(2, .int sh), (0, .ref 0), (1, .int v)], [.int (((v.toUInt32 >>> (sh.toUInt32 &&& Int32.toUInt32 31)).toInt32) &&& 255), .int (nI n), .ref 1])) (hp' := hp) zf123_31 (fun _ => rfl) (Nat.le_refl _) ?_
  refine r_iast zf123_32 ⟨hl, by decide⟩ h1 (nI_in hn (by decide)) ?_
  have h0A : ((hp.1, zup hp.2 1 (.inl (0, 400, .inl (upd f (nI n).toNatClampNeg ((((v.toUInt32 >>> (sh.toUInt32 &&& Int32.toUInt32 31)).toInt32) &&& 255)))))) : zHp).2 0 = .inr (10, .ref 1 :: .int (nI n) :: tl) := by
    dsimp only
    exact (zup_ne (i := 0) (j := 1) (by decide)).trans h0
  refine r_s (fr' := (34, [(2, .int sh), (0, .ref 0), (1, .int v)], [.ref 0])) (hp' := (hp.1, zup hp.2 1 (.inl (0, 400, .inl (upd f (nI n).toNatClampNeg ((((v.toUInt32 >>> (sh.toUInt32 &&& Int32.toUInt32 31)).toInt32) &&& 255))))))) zf123_33 (fun _ => rfl) (Nat.le_refl _) ?_
  refine r_s (fr' := (35, [(2, .int sh), (0, .ref 0), (1, .int v)], [.ref 0, .ref 0])) (hp' := (hp.1, zup hp.2 1 (.inl (0, 400, .inl (upd f (nI n).toNatClampNeg ((((v.toUInt32 >>> (sh.toUInt32 &&& Int32.toUInt32 31)).toInt32) &&& 255))))))) zf123_34 (fun _ => rfl) (Nat.le_refl _) ?_
  refine r_get zf123_35 (by decide) ⟨hl0, by decide⟩ h0A (v := .int (nI n)) rfl ?_
  refine r_s (fr' := (39, [(2, .int sh), (0, .ref 0), (1, .int v)], [.int 1, .int (nI n), .ref 0])) (hp' := (hp.1, zup hp.2 1 (.inl (0, 400, .inl (upd f (nI n).toNatClampNeg ((((v.toUInt32 >>> (sh.toUInt32 &&& Int32.toUInt32 31)).toInt32) &&& 255))))))) zf123_38 (fun _ => rfl) (Nat.le_refl _) ?_
  refine r_s (fr' := (40, [(2, .int sh), (0, .ref 0), (1, .int v)], [.int (nI n + 1), .ref 0])) (hp' := (hp.1, zup hp.2 1 (.inl (0, 400, .inl (upd f (nI n).toNatClampNeg ((((v.toUInt32 >>> (sh.toUInt32 &&& Int32.toUInt32 31)).toInt32) &&& 255))))))) zf123_39 (fun _ => rfl) (Nat.le_refl _) ?_
  refine r_put zf123_40 ⟨hl0, by decide, rfl⟩ h0A (by simp) ?_
  exact K
theorem zfo_C (d : Nat) (hp : zHp) (v : Int32) (n : Nat) (hn : n + 4 ≤ 400) (f : Nat → Int32) (tl : List Value) (hl0 : 0 < hp.1) (hl : 1 < hp.1) (h0 : hp.2 0 = .inr (10, .ref 1 :: .int (nI n) :: tl)) (h1 : hp.2 1 = .inl (0, 400, .inl f)) : ∃ (hp1 : zHp) (g : Nat → Int32), hp1.1 = hp.1 ∧ hp1.2 0 = .inr (10, .ref 1 :: .int (nI (n + 4)) :: tl) ∧ hp1.2 1 = .inl (0, 400, .inl g) ∧ (∀ i, i ≠ 0 → i ≠ 1 → hp1.2 i = hp.2 i) ∧ zCan (d + 1) 123 [.ref 0, .int v] hp (none, hp1) := by
  obtain ⟨hp0, g0, e0, a0, b0, c0, k0⟩ := zpb_C d hp v 24 (n + 0) (by omega) f tl hl0 hl h0 h1
  have l0 : 0 < hp0.1 := by rw [e0]; exact hl0
  have m0 : 1 < hp0.1 := by rw [e0]; exact hl
  obtain ⟨hp1, g1, e1, a1, b1, c1, k1⟩ := zpb_C d hp0 v 16 (n + 1) (by omega) g0 tl l0 m0 a0 b0
  have l1 : 0 < hp1.1 := by rw [e1]; exact l0
  have m1 : 1 < hp1.1 := by rw [e1]; exact m0
  obtain ⟨hp2, g2, e2, a2, b2, c2, k2⟩ := zpb_C d hp1 v 8 (n + 2) (by omega) g1 tl l1 m1 a1 b1
  have l2 : 0 < hp2.1 := by rw [e2]; exact l1
  have m2 : 1 < hp2.1 := by rw [e2]; exact m1
  obtain ⟨hp3, g3, e3, a3, b3, c3, k3⟩ := zpb_C d hp2 v 0 (n + 3) (by omega) g2 tl l2 m2 a2 b2
  refine ⟨hp3, g3, by rw [e3, e2, e1, e0], a3, b3, fun i i0 i1 => by rw [c3 i i0 i1, c2 i i0 i1, c1 i i0 i1, c0 i i0 i1], ?_⟩
  refine zCan_body (d := d) hgm123 ⟨Nat.le_of_ble_eq_true rfl, by decide⟩ (by show hp.1 ≤ hp3.1; rw [e3, e2, e1, e0]; exact Nat.le_refl _) ?_
  show zR _ _ _ _ _ (0, [(0, .ref 0), (1, .int v)], []) hp _
  refine r_s (fr' := (2, [(0, .ref 0), (1, .int v)], [.int 24])) (hp' := hp) zf123_0 (fun _ => rfl) (Nat.le_refl _) ?_
  refine r_s (fr' := (3, [(2, .int 24), (0, .ref 0), (1, .int v)], [])) (hp' := hp) zf123_2 (fun _ => rfl) (Nat.le_refl _) ?_
  refine r_s (fr' := (4, [(2, .int 24), (0, .ref 0), (1, .int v)], [.int 24])) (hp' := hp) zf123_3 (fun _ => rfl) (Nat.le_refl _) ?_
  refine r_if zf123_4 (fun q => absurd q (by decide)) (fun _ => ?_)
  refine k0 _ ?_
  refine r_inc (x := 24) (v := 16) zf123_43 rfl (by decide) (by decide) ?_
  show zR _ _ _ _ _ (46, [(2, .int 16), (0, .ref 0), (1, .int v)], []) hp0 _
  refine r_s (fr' := (3, [(2, .int 16), (0, .ref 0), (1, .int v)], [])) (hp' := hp0) zf123_46 (fun _ => rfl) (Nat.le_refl _) ?_
  refine r_s (fr' := (4, [(2, .int 16), (0, .ref 0), (1, .int v)], [.int 16])) (hp' := hp0) zf123_3 (fun _ => rfl) (Nat.le_refl _) ?_
  refine r_if zf123_4 (fun q => absurd q (by decide)) (fun _ => ?_)
  refine k1 _ ?_
  refine r_inc (x := 16) (v := 8) zf123_43 rfl (by decide) (by decide) ?_
  show zR _ _ _ _ _ (46, [(2, .int 8), (0, .ref 0), (1, .int v)], []) hp1 _
  refine r_s (fr' := (3, [(2, .int 8), (0, .ref 0), (1, .int v)], [])) (hp' := hp1) zf123_46 (fun _ => rfl) (Nat.le_refl _) ?_
  refine r_s (fr' := (4, [(2, .int 8), (0, .ref 0), (1, .int v)], [.int 8])) (hp' := hp1) zf123_3 (fun _ => rfl) (Nat.le_refl _) ?_
  refine r_if zf123_4 (fun q => absurd q (by decide)) (fun _ => ?_)
  refine k2 _ ?_
  refine r_inc (x := 8) (v := 0) zf123_43 rfl (by decide) (by decide) ?_
  show zR _ _ _ _ _ (46, [(2, .int 0), (0, .ref 0), (1, .int v)], []) hp2 _
  refine r_s (fr' := (3, [(2, .int 0), (0, .ref 0), (1, .int v)], [])) (hp' := hp2) zf123_46 (fun _ => rfl) (Nat.le_refl _) ?_
  refine r_s (fr' := (4, [(2, .int 0), (0, .ref 0), (1, .int v)], [.int 0])) (hp' := hp2) zf123_3 (fun _ => rfl) (Nat.le_refl _) ?_
  refine r_if zf123_4 (fun q => absurd q (by decide)) (fun _ => ?_)
  refine k3 _ ?_
  refine r_inc (x := 0) (v := (-8)) zf123_43 rfl (by decide) (by decide) ?_
  show zR _ _ _ _ _ (46, [(2, .int (-8)), (0, .ref 0), (1, .int v)], []) hp3 _
  refine r_s (fr' := (3, [(2, .int (-8)), (0, .ref 0), (1, .int v)], [])) (hp' := hp3) zf123_46 (fun _ => rfl) (Nat.le_refl _) ?_
  refine r_s (fr' := (4, [(2, .int (-8)), (0, .ref 0), (1, .int v)], [.int (-8)])) (hp' := hp3) zf123_3 (fun _ => rfl) (Nat.le_refl _) ?_
  refine r_if zf123_4 (fun _ => ?_) (fun q => absurd q (by decide))
  exact r_ret zf123_49 rfl (fun _ => rfl)
theorem zpb_M (d : Nat) (hp : zHp) (v sh : Int32) (n : Nat) (hn : n < 400) (f : Nat → Int32) (tl : List Value) (hl0 : 70 < hp.1) (hl : 71 < hp.1) (h0 : hp.2 70 = .inr (11, .ref 71 :: .int (nI n) :: tl)) (h1 : hp.2 71 = .inl (1, 400, .inl f)) : ∃ (hp1 : zHp) (g : Nat → Int32), hp1.1 = hp.1 ∧ hp1.2 70 = .inr (11, .ref 71 :: .int (nI (n + 1)) :: tl) ∧ hp1.2 71 = .inl (1, 400, .inl g) ∧ (∀ i, i ≠ 70 → i ≠ 71 → hp1.2 i = hp.2 i) ∧ ∀ r, zR none d 3 none zc160 (30, [(2, .int sh), (0, .ref 70), (1, .int v)], []) hp1 r → zR none d 3 none zc160 (7, [(2, .int sh), (0, .ref 70), (1, .int v)], []) hp r := by
  refine ⟨(hp.1, zup (zup hp.2 71 (.inl (1, 400, .inl (upd f (nI n).toNatClampNeg (vp_nar .byte ((v >>> (sh &&& 31)).toInt8.toInt32)))))) 70 (.inr (11, .ref 71 :: .int (nI n + 1) :: tl))), upd f (nI n).toNatClampNeg (vp_nar .byte ((v >>> (sh &&& 31)).toInt8.toInt32)), rfl, ?_, ?_, ?_, fun r K => ?_⟩
  · rw [nI_succ]
    dsimp only
    exact zup_eq
  · dsimp only
    exact (zup_ne (i := 71) (j := 70) (by decide)).trans zup_eq
  · intro i i0 i1
    dsimp only
    exact (zup_ne i0).trans (zup_ne i1)
  refine r_s (fr' := (8, [(2, .int sh), (0, .ref 70), (1, .int v)], [.ref 70])) (hp' := hp) zf160_7 (fun _ => rfl) (Nat.le_refl _) ?_
  refine r_get zf160_8 (by decide) ⟨hl0, by decide⟩ h0 (v := .ref 71) rfl ?_
  refine r_s (fr' := (12, [(2, .int sh), (0, .ref 70), (1, .int v)], [.ref 70, .ref 71])) (hp' := hp) zf160_11 (fun _ => rfl) (Nat.le_refl _) ?_
  refine r_get zf160_12 (by decide) ⟨hl0, by decide⟩ h0 (v := .int (nI n)) rfl ?_
  refine r_s (fr' := (16, [(2, .int sh), (0, .ref 70), (1, .int v)], [.int v, .int (nI n), .ref 71])) (hp' := hp) zf160_15 (fun _ => rfl) (Nat.le_refl _) ?_
  refine r_s (fr' := (17, [(2, .int sh), (0, .ref 70), (1, .int v)], [.int sh, .int v, .int (nI n), .ref 71])) (hp' := hp) zf160_16 (fun _ => rfl) (Nat.le_refl _) ?_
  refine r_s (fr' := (18, [(2, .int sh), (0, .ref 70), (1, .int v)], [.int (v >>> (sh &&& 31)), .int (nI n), .ref 71])) (hp' := hp) zf160_17 (fun _ => rfl) (Nat.le_refl _) ?_
  refine r_s (fr' := (19, [(2, .int sh), (0, .ref 70), (1, .int v)], [.int ((v >>> (sh &&& 31)).toInt8.toInt32), .int (nI n), .ref 71])) (hp' := hp) zf160_18 (fun _ => rfl) (Nat.le_refl _) ?_
  refine r_bast zf160_19 ⟨hl, by decide⟩ h1 (nI_in hn (by decide)) ?_
  have h0A : ((hp.1, zup hp.2 71 (.inl (1, 400, .inl (upd f (nI n).toNatClampNeg (vp_nar .byte ((v >>> (sh &&& 31)).toInt8.toInt32)))))) : zHp).2 70 = .inr (11, .ref 71 :: .int (nI n) :: tl) := by
    dsimp only
    exact (zup_ne (i := 70) (j := 71) (by decide)).trans h0
  refine r_s (fr' := (21, [(2, .int sh), (0, .ref 70), (1, .int v)], [.ref 70])) (hp' := (hp.1, zup hp.2 71 (.inl (1, 400, .inl (upd f (nI n).toNatClampNeg (vp_nar .byte ((v >>> (sh &&& 31)).toInt8.toInt32))))))) zf160_20 (fun _ => rfl) (Nat.le_refl _) ?_
  refine r_s (fr' := (22, [(2, .int sh), (0, .ref 70), (1, .int v)], [.ref 70, .ref 70])) (hp' := (hp.1, zup hp.2 71 (.inl (1, 400, .inl (upd f (nI n).toNatClampNeg (vp_nar .byte ((v >>> (sh &&& 31)).toInt8.toInt32))))))) zf160_21 (fun _ => rfl) (Nat.le_refl _) ?_
  refine r_get zf160_22 (by decide) ⟨hl0, by decide⟩ h0A (v := .int (nI n)) rfl ?_
  refine r_s (fr' := (26, [(2, .int sh), (0, .ref 70), (1, .int v)], [.int 1, .int (nI n), .ref 70])) (hp' := (hp.1, zup hp.2 71 (.inl (1, 400, .inl (upd f (nI n).toNatClampNeg (vp_nar .byte ((v >>> (sh &&& 31)).toInt8.toInt32))))))) zf160_25 (fun _ => rfl) (Nat.le_refl _) ?_
  refine r_s (fr' := (27, [(2, .int sh), (0, .ref 70), (1, .int v)], [.int (nI n + 1), .ref 70])) (hp' := (hp.1, zup hp.2 71 (.inl (1, 400, .inl (upd f (nI n).toNatClampNeg (vp_nar .byte ((v >>> (sh &&& 31)).toInt8.toInt32))))))) zf160_26 (fun _ => rfl) (Nat.le_refl _) ?_
  refine r_put zf160_27 ⟨hl0, by decide, rfl⟩ h0A (by simp) ?_
  exact K
theorem zfo_M (d : Nat) (hp : zHp) (v : Int32) (n : Nat) (hn : n + 4 ≤ 400) (f : Nat → Int32) (tl : List Value) (hl0 : 70 < hp.1) (hl : 71 < hp.1) (h0 : hp.2 70 = .inr (11, .ref 71 :: .int (nI n) :: tl)) (h1 : hp.2 71 = .inl (1, 400, .inl f)) : ∃ (hp1 : zHp) (g : Nat → Int32), hp1.1 = hp.1 ∧ hp1.2 70 = .inr (11, .ref 71 :: .int (nI (n + 4)) :: tl) ∧ hp1.2 71 = .inl (1, 400, .inl g) ∧ (∀ i, i ≠ 70 → i ≠ 71 → hp1.2 i = hp.2 i) ∧ zCan (d + 1) 160 [.ref 70, .int v] hp (none, hp1) := by
  obtain ⟨hp0, g0, e0, a0, b0, c0, k0⟩ := zpb_M d hp v 24 (n + 0) (by omega) f tl hl0 hl h0 h1
  have l0 : 70 < hp0.1 := by rw [e0]; exact hl0
  have m0 : 71 < hp0.1 := by rw [e0]; exact hl
  obtain ⟨hp1, g1, e1, a1, b1, c1, k1⟩ := zpb_M d hp0 v 16 (n + 1) (by omega) g0 tl l0 m0 a0 b0
  have l1 : 70 < hp1.1 := by rw [e1]; exact l0
  have m1 : 71 < hp1.1 := by rw [e1]; exact m0
  obtain ⟨hp2, g2, e2, a2, b2, c2, k2⟩ := zpb_M d hp1 v 8 (n + 2) (by omega) g1 tl l1 m1 a1 b1
  have l2 : 70 < hp2.1 := by rw [e2]; exact l1
  have m2 : 71 < hp2.1 := by rw [e2]; exact m1
  obtain ⟨hp3, g3, e3, a3, b3, c3, k3⟩ := zpb_M d hp2 v 0 (n + 3) (by omega) g2 tl l2 m2 a2 b2
  refine ⟨hp3, g3, by rw [e3, e2, e1, e0], a3, b3, fun i i0 i1 => by rw [c3 i i0 i1, c2 i i0 i1, c1 i i0 i1, c0 i i0 i1], ?_⟩
  refine zCan_body (d := d) hgm160 ⟨Nat.le_of_ble_eq_true rfl, by decide⟩ (by show hp.1 ≤ hp3.1; rw [e3, e2, e1, e0]; exact Nat.le_refl _) ?_
  show zR _ _ _ _ _ (0, [(0, .ref 70), (1, .int v)], []) hp _
  refine r_s (fr' := (2, [(0, .ref 70), (1, .int v)], [.int 24])) (hp' := hp) zf160_0 (fun _ => rfl) (Nat.le_refl _) ?_
  refine r_s (fr' := (3, [(2, .int 24), (0, .ref 70), (1, .int v)], [])) (hp' := hp) zf160_2 (fun _ => rfl) (Nat.le_refl _) ?_
  refine r_s (fr' := (4, [(2, .int 24), (0, .ref 70), (1, .int v)], [.int 24])) (hp' := hp) zf160_3 (fun _ => rfl) (Nat.le_refl _) ?_
  refine r_if zf160_4 (fun q => absurd q (by decide)) (fun _ => ?_)
  refine k0 _ ?_
  refine r_inc (x := 24) (v := 16) zf160_30 rfl (by decide) (by decide) ?_
  show zR _ _ _ _ _ (33, [(2, .int 16), (0, .ref 70), (1, .int v)], []) hp0 _
  refine r_s (fr' := (3, [(2, .int 16), (0, .ref 70), (1, .int v)], [])) (hp' := hp0) zf160_33 (fun _ => rfl) (Nat.le_refl _) ?_
  refine r_s (fr' := (4, [(2, .int 16), (0, .ref 70), (1, .int v)], [.int 16])) (hp' := hp0) zf160_3 (fun _ => rfl) (Nat.le_refl _) ?_
  refine r_if zf160_4 (fun q => absurd q (by decide)) (fun _ => ?_)
  refine k1 _ ?_
  refine r_inc (x := 16) (v := 8) zf160_30 rfl (by decide) (by decide) ?_
  show zR _ _ _ _ _ (33, [(2, .int 8), (0, .ref 70), (1, .int v)], []) hp1 _
  refine r_s (fr' := (3, [(2, .int 8), (0, .ref 70), (1, .int v)], [])) (hp' := hp1) zf160_33 (fun _ => rfl) (Nat.le_refl _) ?_
  refine r_s (fr' := (4, [(2, .int 8), (0, .ref 70), (1, .int v)], [.int 8])) (hp' := hp1) zf160_3 (fun _ => rfl) (Nat.le_refl _) ?_
  refine r_if zf160_4 (fun q => absurd q (by decide)) (fun _ => ?_)
  refine k2 _ ?_
  refine r_inc (x := 8) (v := 0) zf160_30 rfl (by decide) (by decide) ?_
  show zR _ _ _ _ _ (33, [(2, .int 0), (0, .ref 70), (1, .int v)], []) hp2 _
  refine r_s (fr' := (3, [(2, .int 0), (0, .ref 70), (1, .int v)], [])) (hp' := hp2) zf160_33 (fun _ => rfl) (Nat.le_refl _) ?_
  refine r_s (fr' := (4, [(2, .int 0), (0, .ref 70), (1, .int v)], [.int 0])) (hp' := hp2) zf160_3 (fun _ => rfl) (Nat.le_refl _) ?_
  refine r_if zf160_4 (fun q => absurd q (by decide)) (fun _ => ?_)
  refine k3 _ ?_
  refine r_inc (x := 0) (v := (-8)) zf160_30 rfl (by decide) (by decide) ?_
  show zR _ _ _ _ _ (33, [(2, .int (-8)), (0, .ref 70), (1, .int v)], []) hp3 _
  refine r_s (fr' := (3, [(2, .int (-8)), (0, .ref 70), (1, .int v)], [])) (hp' := hp3) zf160_33 (fun _ => rfl) (Nat.le_refl _) ?_
  refine r_s (fr' := (4, [(2, .int (-8)), (0, .ref 70), (1, .int v)], [.int (-8)])) (hp' := hp3) zf160_3 (fun _ => rfl) (Nat.le_refl _) ?_
  refine r_if zf160_4 (fun _ => ?_) (fun q => absurd q (by decide))
  exact r_ret zf160_36 rfl (fun _ => rfl)
theorem zfe_C (d : Nat) (hp : zHp) (v0 v1 v2 v3 v4 : Int32) (f : Nat → Int32) (tl : List Value) (hl0 : 0 < hp.1) (hl : 1 < hp.1) (h0 : hp.2 0 = .inr (10, .ref 1 :: .int 0 :: tl)) (h1 : hp.2 1 = .inl (0, 400, .inl f)) : ∃ hp1 : zHp, hp1.1 = hp.1 ∧ (∀ i, i ≠ 0 → i ≠ 1 → hp1.2 i = hp.2 i) ∧ zCan (d + 2) 122 [.ref 0, .int v0, .int v1, .int v2, .int v3, .int v4] hp (some (.int (nI 20)), hp1) := by
  have h0z : hp.2 0 = .inr (10, .ref 1 :: .int (nI 0) :: tl) := h0
  obtain ⟨hp0, g0, e0, a0, b0, c0, k0⟩ := zfo_C d hp v0 0 (by decide) f tl hl0 hl h0z h1
  have l0 : 0 < hp0.1 := by rw [e0]; exact hl0
  have m0 : 1 < hp0.1 := by rw [e0]; exact hl
  have q0 : zKd 0 hp = some 10 := by
    unfold zKd
    rw [if_pos (by decide), if_pos hl0, h0z]
  obtain ⟨hp1, g1, e1, a1, b1, c1, k1⟩ := zfo_C d hp0 v1 4 (by decide) g0 tl l0 m0 a0 b0
  have l1 : 0 < hp1.1 := by rw [e1]; exact l0
  have m1 : 1 < hp1.1 := by rw [e1]; exact m0
  have q1 : zKd 0 hp0 = some 10 := by
    unfold zKd
    rw [if_pos (by decide), if_pos l0, a0]
  obtain ⟨hp2, g2, e2, a2, b2, c2, k2⟩ := zfo_C d hp1 v2 8 (by decide) g1 tl l1 m1 a1 b1
  have l2 : 0 < hp2.1 := by rw [e2]; exact l1
  have m2 : 1 < hp2.1 := by rw [e2]; exact m1
  have q2 : zKd 0 hp1 = some 10 := by
    unfold zKd
    rw [if_pos (by decide), if_pos l1, a1]
  obtain ⟨hp3, g3, e3, a3, b3, c3, k3⟩ := zfo_C d hp2 v3 12 (by decide) g2 tl l2 m2 a2 b2
  have l3 : 0 < hp3.1 := by rw [e3]; exact l2
  have m3 : 1 < hp3.1 := by rw [e3]; exact m2
  have q3 : zKd 0 hp2 = some 10 := by
    unfold zKd
    rw [if_pos (by decide), if_pos l2, a2]
  obtain ⟨hp4, g4, e4, a4, b4, c4, k4⟩ := zfo_C d hp3 v4 16 (by decide) g3 tl l3 m3 a3 b3
  have l4 : 0 < hp4.1 := by rw [e4]; exact l3
  have m4 : 1 < hp4.1 := by rw [e4]; exact m3
  have q4 : zKd 0 hp3 = some 10 := by
    unfold zKd
    rw [if_pos (by decide), if_pos l3, a3]
  refine ⟨hp4, by rw [e4, e3, e2, e1, e0], fun i i0 i1 => by rw [c4 i i0 i1, c3 i i0 i1, c2 i i0 i1, c1 i i0 i1, c0 i i0 i1], ?_⟩
  refine zCan_body (d := d + 1) hgm122 ⟨Nat.le_of_ble_eq_true rfl, by decide⟩ (by show hp.1 ≤ hp4.1; rw [e4, e3, e2, e1, e0]; exact Nat.le_refl _) ?_
  show zR _ _ _ _ _ (0, [(0, .ref 0), (1, .int v0), (2, .int v1), (3, .int v2), (4, .int v3), (5, .int v4)], []) hp _
  refine r_s (fr' := (1, [(0, .ref 0), (1, .int v0), (2, .int v1), (3, .int v2), (4, .int v3), (5, .int v4)], [.ref 0])) (hp' := hp) zf122_0 (fun _ => rfl) (Nat.le_refl _) ?_
  refine r_get zf122_1 (by decide) ⟨hl0, by decide⟩ h0 (v := .int 0) rfl ?_
  refine r_s (fr' := (6, [(0, .ref 0), (1, .int v0), (2, .int v1), (3, .int v2), (4, .int v3), (5, .int v4)], [.int 20, .int 0])) (hp' := hp) zf122_4 (fun _ => rfl) (Nat.le_refl _) ?_
  refine r_s (fr' := (7, [(0, .ref 0), (1, .int v0), (2, .int v1), (3, .int v2), (4, .int v3), (5, .int v4)], [.int (0 + 20)])) (hp' := hp) zf122_6 (fun _ => rfl) (Nat.le_refl _) ?_
  refine r_s (fr' := (10, [(0, .ref 0), (1, .int v0), (2, .int v1), (3, .int v2), (4, .int v3), (5, .int v4)], [.int 400, .int (0 + 20)])) (hp' := hp) zf122_7 (fun _ => rfl) (Nat.le_refl _) ?_
  refine r_ifc zf122_10 (fun _ => ?_) (fun q => absurd q (by decide))
  refine r_s (fr' := (16, [(0, .ref 0), (1, .int v0), (2, .int v1), (3, .int v2), (4, .int v3), (5, .int v4)], [.ref 0])) (hp' := hp) zf122_15 (fun _ => rfl) (Nat.le_refl _) ?_
  refine r_s (fr' := (17, [(0, .ref 0), (1, .int v0), (2, .int v1), (3, .int v2), (4, .int v3), (5, .int v4)], [.int v0, .ref 0])) (hp' := hp) zf122_16 (fun _ => rfl) (Nat.le_refl _) ?_
  refine r_call (ix := 0) (as := [.int v0]) (rest := []) (rv := none) (hp' := hp0) zf122_17 har123 rfl rfl rfl q0 (Nat.le_of_ble_eq_true rfl) k0 (by rw [e0]; exact Nat.le_refl _) ?_
  show zR _ _ _ _ _ (20, [(0, .ref 0), (1, .int v0), (2, .int v1), (3, .int v2), (4, .int v3), (5, .int v4)], []) hp0 _
  refine r_s (fr' := (21, [(0, .ref 0), (1, .int v0), (2, .int v1), (3, .int v2), (4, .int v3), (5, .int v4)], [.ref 0])) (hp' := hp0) zf122_20 (fun _ => rfl) (Nat.le_refl _) ?_
  refine r_s (fr' := (22, [(0, .ref 0), (1, .int v0), (2, .int v1), (3, .int v2), (4, .int v3), (5, .int v4)], [.int v1, .ref 0])) (hp' := hp0) zf122_21 (fun _ => rfl) (Nat.le_refl _) ?_
  refine r_call (ix := 0) (as := [.int v1]) (rest := []) (rv := none) (hp' := hp1) zf122_22 har123 rfl rfl rfl q1 (Nat.le_of_ble_eq_true rfl) k1 (by rw [e1]; exact Nat.le_refl _) ?_
  show zR _ _ _ _ _ (25, [(0, .ref 0), (1, .int v0), (2, .int v1), (3, .int v2), (4, .int v3), (5, .int v4)], []) hp1 _
  refine r_s (fr' := (26, [(0, .ref 0), (1, .int v0), (2, .int v1), (3, .int v2), (4, .int v3), (5, .int v4)], [.ref 0])) (hp' := hp1) zf122_25 (fun _ => rfl) (Nat.le_refl _) ?_
  refine r_s (fr' := (27, [(0, .ref 0), (1, .int v0), (2, .int v1), (3, .int v2), (4, .int v3), (5, .int v4)], [.int v2, .ref 0])) (hp' := hp1) zf122_26 (fun _ => rfl) (Nat.le_refl _) ?_
  refine r_call (ix := 0) (as := [.int v2]) (rest := []) (rv := none) (hp' := hp2) zf122_27 har123 rfl rfl rfl q2 (Nat.le_of_ble_eq_true rfl) k2 (by rw [e2]; exact Nat.le_refl _) ?_
  show zR _ _ _ _ _ (30, [(0, .ref 0), (1, .int v0), (2, .int v1), (3, .int v2), (4, .int v3), (5, .int v4)], []) hp2 _
  refine r_s (fr' := (31, [(0, .ref 0), (1, .int v0), (2, .int v1), (3, .int v2), (4, .int v3), (5, .int v4)], [.ref 0])) (hp' := hp2) zf122_30 (fun _ => rfl) (Nat.le_refl _) ?_
  refine r_s (fr' := (33, [(0, .ref 0), (1, .int v0), (2, .int v1), (3, .int v2), (4, .int v3), (5, .int v4)], [.int v3, .ref 0])) (hp' := hp2) zf122_31 (fun _ => rfl) (Nat.le_refl _) ?_
  refine r_call (ix := 0) (as := [.int v3]) (rest := []) (rv := none) (hp' := hp3) zf122_33 har123 rfl rfl rfl q3 (Nat.le_of_ble_eq_true rfl) k3 (by rw [e3]; exact Nat.le_refl _) ?_
  show zR _ _ _ _ _ (36, [(0, .ref 0), (1, .int v0), (2, .int v1), (3, .int v2), (4, .int v3), (5, .int v4)], []) hp3 _
  refine r_s (fr' := (37, [(0, .ref 0), (1, .int v0), (2, .int v1), (3, .int v2), (4, .int v3), (5, .int v4)], [.ref 0])) (hp' := hp3) zf122_36 (fun _ => rfl) (Nat.le_refl _) ?_
  refine r_s (fr' := (39, [(0, .ref 0), (1, .int v0), (2, .int v1), (3, .int v2), (4, .int v3), (5, .int v4)], [.int v4, .ref 0])) (hp' := hp3) zf122_37 (fun _ => rfl) (Nat.le_refl _) ?_
  refine r_call (ix := 0) (as := [.int v4]) (rest := []) (rv := none) (hp' := hp4) zf122_39 har123 rfl rfl rfl q4 (Nat.le_of_ble_eq_true rfl) k4 (by rw [e4]; exact Nat.le_refl _) ?_
  show zR _ _ _ _ _ (42, [(0, .ref 0), (1, .int v0), (2, .int v1), (3, .int v2), (4, .int v3), (5, .int v4)], []) hp4 _
  refine r_s (fr' := (43, [(0, .ref 0), (1, .int v0), (2, .int v1), (3, .int v2), (4, .int v3), (5, .int v4)], [.ref 0])) (hp' := hp4) zf122_42 (fun _ => rfl) (Nat.le_refl _) ?_
  refine r_get zf122_43 (by decide) ⟨l4, by decide⟩ a4 (v := .int (nI 20)) rfl ?_
  exact r_ret zf122_46 rfl (fun _ => rfl)
theorem zfe_M (d : Nat) (hp : zHp) (v0 v1 v2 v3 v4 : Int32) (f : Nat → Int32) (tl : List Value) (hl0 : 70 < hp.1) (hl : 71 < hp.1) (h0 : hp.2 70 = .inr (11, .ref 71 :: .int 0 :: tl)) (h1 : hp.2 71 = .inl (1, 400, .inl f)) : ∃ hp1 : zHp, hp1.1 = hp.1 ∧ (∀ i, i ≠ 70 → i ≠ 71 → hp1.2 i = hp.2 i) ∧ zCan (d + 2) 161 [.ref 70, .int v0, .int v1, .int v2, .int v3, .int v4] hp (some (.int (nI 20)), hp1) := by
  have h0z : hp.2 70 = .inr (11, .ref 71 :: .int (nI 0) :: tl) := h0
  obtain ⟨hp0, g0, e0, a0, b0, c0, k0⟩ := zfo_M d hp v0 0 (by decide) f tl hl0 hl h0z h1
  have l0 : 70 < hp0.1 := by rw [e0]; exact hl0
  have m0 : 71 < hp0.1 := by rw [e0]; exact hl
  have q0 : zKd 70 hp = some 11 := by
    unfold zKd
    rw [if_pos (by decide), if_pos hl0, h0z]
  obtain ⟨hp1, g1, e1, a1, b1, c1, k1⟩ := zfo_M d hp0 v1 4 (by decide) g0 tl l0 m0 a0 b0
  have l1 : 70 < hp1.1 := by rw [e1]; exact l0
  have m1 : 71 < hp1.1 := by rw [e1]; exact m0
  have q1 : zKd 70 hp0 = some 11 := by
    unfold zKd
    rw [if_pos (by decide), if_pos l0, a0]
  obtain ⟨hp2, g2, e2, a2, b2, c2, k2⟩ := zfo_M d hp1 v2 8 (by decide) g1 tl l1 m1 a1 b1
  have l2 : 70 < hp2.1 := by rw [e2]; exact l1
  have m2 : 71 < hp2.1 := by rw [e2]; exact m1
  have q2 : zKd 70 hp1 = some 11 := by
    unfold zKd
    rw [if_pos (by decide), if_pos l1, a1]
  obtain ⟨hp3, g3, e3, a3, b3, c3, k3⟩ := zfo_M d hp2 v3 12 (by decide) g2 tl l2 m2 a2 b2
  have l3 : 70 < hp3.1 := by rw [e3]; exact l2
  have m3 : 71 < hp3.1 := by rw [e3]; exact m2
  have q3 : zKd 70 hp2 = some 11 := by
    unfold zKd
    rw [if_pos (by decide), if_pos l2, a2]
  obtain ⟨hp4, g4, e4, a4, b4, c4, k4⟩ := zfo_M d hp3 v4 16 (by decide) g3 tl l3 m3 a3 b3
  have l4 : 70 < hp4.1 := by rw [e4]; exact l3
  have m4 : 71 < hp4.1 := by rw [e4]; exact m3
  have q4 : zKd 70 hp3 = some 11 := by
    unfold zKd
    rw [if_pos (by decide), if_pos l3, a3]
  refine ⟨hp4, by rw [e4, e3, e2, e1, e0], fun i i0 i1 => by rw [c4 i i0 i1, c3 i i0 i1, c2 i i0 i1, c1 i i0 i1, c0 i i0 i1], ?_⟩
  refine zCan_body (d := d + 1) hgm161 ⟨Nat.le_of_ble_eq_true rfl, by decide⟩ (by show hp.1 ≤ hp4.1; rw [e4, e3, e2, e1, e0]; exact Nat.le_refl _) ?_
  show zR _ _ _ _ _ (0, [(0, .ref 70), (1, .int v0), (2, .int v1), (3, .int v2), (4, .int v3), (5, .int v4)], []) hp _
  refine r_s (fr' := (1, [(0, .ref 70), (1, .int v0), (2, .int v1), (3, .int v2), (4, .int v3), (5, .int v4)], [.ref 70])) (hp' := hp) zf161_0 (fun _ => rfl) (Nat.le_refl _) ?_
  refine r_get zf161_1 (by decide) ⟨hl0, by decide⟩ h0 (v := .int 0) rfl ?_
  refine r_s (fr' := (6, [(0, .ref 70), (1, .int v0), (2, .int v1), (3, .int v2), (4, .int v3), (5, .int v4)], [.int 20, .int 0])) (hp' := hp) zf161_4 (fun _ => rfl) (Nat.le_refl _) ?_
  refine r_s (fr' := (7, [(0, .ref 70), (1, .int v0), (2, .int v1), (3, .int v2), (4, .int v3), (5, .int v4)], [.int (0 + 20)])) (hp' := hp) zf161_6 (fun _ => rfl) (Nat.le_refl _) ?_
  refine r_s (fr' := (10, [(0, .ref 70), (1, .int v0), (2, .int v1), (3, .int v2), (4, .int v3), (5, .int v4)], [.int 400, .int (0 + 20)])) (hp' := hp) zf161_7 (fun _ => rfl) (Nat.le_refl _) ?_
  refine r_ifc zf161_10 (fun _ => ?_) (fun q => absurd q (by decide))
  refine r_s (fr' := (16, [(0, .ref 70), (1, .int v0), (2, .int v1), (3, .int v2), (4, .int v3), (5, .int v4)], [.ref 70])) (hp' := hp) zf161_15 (fun _ => rfl) (Nat.le_refl _) ?_
  refine r_s (fr' := (17, [(0, .ref 70), (1, .int v0), (2, .int v1), (3, .int v2), (4, .int v3), (5, .int v4)], [.int v0, .ref 70])) (hp' := hp) zf161_16 (fun _ => rfl) (Nat.le_refl _) ?_
  refine r_call (ix := 70) (as := [.int v0]) (rest := []) (rv := none) (hp' := hp0) zf161_17 har160 rfl rfl rfl q0 (Nat.le_of_ble_eq_true rfl) k0 (by rw [e0]; exact Nat.le_refl _) ?_
  show zR _ _ _ _ _ (20, [(0, .ref 70), (1, .int v0), (2, .int v1), (3, .int v2), (4, .int v3), (5, .int v4)], []) hp0 _
  refine r_s (fr' := (21, [(0, .ref 70), (1, .int v0), (2, .int v1), (3, .int v2), (4, .int v3), (5, .int v4)], [.ref 70])) (hp' := hp0) zf161_20 (fun _ => rfl) (Nat.le_refl _) ?_
  refine r_s (fr' := (22, [(0, .ref 70), (1, .int v0), (2, .int v1), (3, .int v2), (4, .int v3), (5, .int v4)], [.int v1, .ref 70])) (hp' := hp0) zf161_21 (fun _ => rfl) (Nat.le_refl _) ?_
  refine r_call (ix := 70) (as := [.int v1]) (rest := []) (rv := none) (hp' := hp1) zf161_22 har160 rfl rfl rfl q1 (Nat.le_of_ble_eq_true rfl) k1 (by rw [e1]; exact Nat.le_refl _) ?_
  show zR _ _ _ _ _ (25, [(0, .ref 70), (1, .int v0), (2, .int v1), (3, .int v2), (4, .int v3), (5, .int v4)], []) hp1 _
  refine r_s (fr' := (26, [(0, .ref 70), (1, .int v0), (2, .int v1), (3, .int v2), (4, .int v3), (5, .int v4)], [.ref 70])) (hp' := hp1) zf161_25 (fun _ => rfl) (Nat.le_refl _) ?_
  refine r_s (fr' := (27, [(0, .ref 70), (1, .int v0), (2, .int v1), (3, .int v2), (4, .int v3), (5, .int v4)], [.int v2, .ref 70])) (hp' := hp1) zf161_26 (fun _ => rfl) (Nat.le_refl _) ?_
  refine r_call (ix := 70) (as := [.int v2]) (rest := []) (rv := none) (hp' := hp2) zf161_27 har160 rfl rfl rfl q2 (Nat.le_of_ble_eq_true rfl) k2 (by rw [e2]; exact Nat.le_refl _) ?_
  show zR _ _ _ _ _ (30, [(0, .ref 70), (1, .int v0), (2, .int v1), (3, .int v2), (4, .int v3), (5, .int v4)], []) hp2 _
  refine r_s (fr' := (31, [(0, .ref 70), (1, .int v0), (2, .int v1), (3, .int v2), (4, .int v3), (5, .int v4)], [.ref 70])) (hp' := hp2) zf161_30 (fun _ => rfl) (Nat.le_refl _) ?_
  refine r_s (fr' := (33, [(0, .ref 70), (1, .int v0), (2, .int v1), (3, .int v2), (4, .int v3), (5, .int v4)], [.int v3, .ref 70])) (hp' := hp2) zf161_31 (fun _ => rfl) (Nat.le_refl _) ?_
  refine r_call (ix := 70) (as := [.int v3]) (rest := []) (rv := none) (hp' := hp3) zf161_33 har160 rfl rfl rfl q3 (Nat.le_of_ble_eq_true rfl) k3 (by rw [e3]; exact Nat.le_refl _) ?_
  show zR _ _ _ _ _ (36, [(0, .ref 70), (1, .int v0), (2, .int v1), (3, .int v2), (4, .int v3), (5, .int v4)], []) hp3 _
  refine r_s (fr' := (37, [(0, .ref 70), (1, .int v0), (2, .int v1), (3, .int v2), (4, .int v3), (5, .int v4)], [.ref 70])) (hp' := hp3) zf161_36 (fun _ => rfl) (Nat.le_refl _) ?_
  refine r_s (fr' := (39, [(0, .ref 70), (1, .int v0), (2, .int v1), (3, .int v2), (4, .int v3), (5, .int v4)], [.int v4, .ref 70])) (hp' := hp3) zf161_37 (fun _ => rfl) (Nat.le_refl _) ?_
  refine r_call (ix := 70) (as := [.int v4]) (rest := []) (rv := none) (hp' := hp4) zf161_39 har160 rfl rfl rfl q4 (Nat.le_of_ble_eq_true rfl) k4 (by rw [e4]; exact Nat.le_refl _) ?_
  show zR _ _ _ _ _ (42, [(0, .ref 70), (1, .int v0), (2, .int v1), (3, .int v2), (4, .int v3), (5, .int v4)], []) hp4 _
  refine r_s (fr' := (43, [(0, .ref 70), (1, .int v0), (2, .int v1), (3, .int v2), (4, .int v3), (5, .int v4)], [.ref 70])) (hp' := hp4) zf161_42 (fun _ => rfl) (Nat.le_refl _) ?_
  refine r_get zf161_43 (by decide) ⟨l4, by decide⟩ a4 (v := .int (nI 20)) rfl ?_
  exact r_ret zf161_46 rfl (fun _ => rfl)
theorem zK_0 {hp : zHp} (F : zFr0 hp) (a0 a1 a2 a3 a4 : Int32) : zKP hp 122 161 [.int a0, .int a1, .int a2, .int a3, .int a4] := by
  obtain ⟨hp1, e1, c1, k1⟩ := zfe_C 18 hp a0 a1 a2 a3 a4 _ _ (hl0 F) (hl1 F) (hc0 F) (hc1 F)
  obtain ⟨hp2, e2, c2, k2⟩ := zfe_M 18 hp1 a0 a1 a2 a3 a4 _ _ (by rw [e1]; exact hl70 F) (by rw [e1]; exact hl71 F) (by rw [c1 70 (by decide) (by decide)]; exact hc70 F) (by rw [c1 71 (by decide) (by decide)]; exact hc71 F)
  refine ⟨_, hp1, hp2, k1, by rw [e1]; exact Nat.le_refl _, ?_, k2, by rw [e2]; exact Nat.le_refl _, by rw [e2, e1]; exact hpn F⟩
  unfold zKd
  rw [if_pos (by decide), if_pos (by rw [e1]; exact hl70 F), c1 70 (by decide) (by decide), hc70 F]
