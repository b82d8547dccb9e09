/-! The reference's clauses: the machine does the same. -/
section RLE
variable {m0 m : xS} {b : Nat → Int} {n t p : Nat} {ft nu k : Int} {rc : List Int} {cs : List (Int × Int × Int × Int)} {op : List Int} {dp ln : Int} {F : Nat}
/-- a place of the clause's row that is being told -/
theorem rC_74 {v : Int32} {j : Nat} (ht : t < 6) (h : rC m0 n t p ft nu k rc cs op dp ln m) (j1 : 48 * t + 4 * cs.length ≤ j) (j2 : j < 48 * t + 48) : rC m0 n t p ft nu k rc cs op dp ln (xu m 74 j v) := by
  obtain ⟨h1, h2, h3, h4, h5, h6, h7, h8, h9, h10, h11, h12⟩ := h
  have b0 : xbn 74 j = some (-2147483648, 2147483647) := xbn_a (k := 0) (n := 288) (ec := 0) (by decide) rfl (by decide) (by omega)
  have q : ∀ {i l : Nat}, i ≠ 74 → (xu m 74 j v).1 i l = m.1 i l := fun z => xu_o (fun y => z y.1)
  exact ⟨xT_c h1 b0 (y32 v).1 (by have := (y32 v).2; omega), xfr_t h2 (xfr_u (by unfold yinM; rfl)), ⟨(congrArg Int32.toInt (q (by decide))).trans h3.1, h3.2⟩, (congrArg Int32.toInt (q (by decide))).trans h4, (congrArg Int32.toInt (q (by decide))).trans h5, (congrArg Int32.toInt (q (by decide))).trans h6, ⟨(congrArg Int32.toInt (q (by decide))).trans h7.1, (tk_c _ (fun l _ => q (by decide))).trans h7.2⟩, ⟨(congrArg Int32.toInt (q (by decide))).trans h8.1, (tq_c _ (fun l l1 l2 => xu_o (fun z => by omega))).trans h8.2⟩, ⟨(congrArg Int32.toInt (q (by decide))).trans h9.1, (tk_c _ (fun l _ => q (by decide))).trans h9.2⟩, (congrArg Int32.toInt (q (by decide))).trans h10, (congrArg Int32.toInt (q (by decide))).trans h11, ⟨fun l hl => (q (by decide)).trans (h12.1 l hl), fun l hl => ⟨(q (by decide)).trans (h12.2.1 l hl).1, (q (by decide)).trans (h12.2.1 l hl).2⟩, fun l hl => (xu_o (fun z => by omega)).trans (h12.2.2 l hl)⟩⟩
theorem rC_75 {v : Int32} (ht : t < 6) (h : rC m0 n t p ft nu k rc cs op dp ln m) (e : v.toInt = cs.length + 1) (l : cs.length + 1 ≤ 12) : ∃ cs', cs'.length = cs.length + 1 ∧ rC m0 n t p ft nu k rc cs' op dp ln (xu m 75 t v) := by
  obtain ⟨h1, h2, h3, h4, h5, h6, h7, h8, h9, h10, h11, h12⟩ := h
  have q : ∀ {i l : Nat}, i ≠ 75 → (xu m 75 t v).1 i l = m.1 i l := fun z => xu_o (fun y => z y.1)
  refine ⟨((m.1 74 (48 * t + 4 * cs.length)).toInt, (m.1 74 (48 * t + 4 * cs.length + 1)).toInt, (m.1 74 (48 * t + 4 * cs.length + 2)).toInt, (m.1 74 (48 * t + 4 * cs.length + 3)).toInt) :: cs, rfl, ?_⟩
  refine ⟨xT_c h1 (rb75 ht) (by omega) (by omega), xfr_t h2 (xfr_u (by unfold yinM; rfl)), ⟨(congrArg Int32.toInt (q (by decide))).trans h3.1, h3.2⟩, (congrArg Int32.toInt (q (by decide))).trans h4, (congrArg Int32.toInt (q (by decide))).trans h5, (congrArg Int32.toInt (q (by decide))).trans h6, ⟨(congrArg Int32.toInt (q (by decide))).trans h7.1, (tk_c _ (fun l _ => q (by decide))).trans h7.2⟩, ⟨(congrArg Int32.toInt (xu_s _ _ _ _)).trans (e.trans (by rw [List.length_cons]; omega)), ?_⟩, ⟨(congrArg Int32.toInt (q (by decide))).trans h9.1, (tk_c _ (fun l _ => q (by decide))).trans h9.2⟩, (congrArg Int32.toInt (q (by decide))).trans h10, (congrArg Int32.toInt (q (by decide))).trans h11, ⟨fun l hl => (q (by decide)).trans (h12.1 l hl), fun l hl => ⟨(q (by decide)).trans (h12.2.1 l hl).1, (xu_o (fun z => hl z.2)).trans (h12.2.1 l hl).2⟩, fun l hl => (q (by decide)).trans (h12.2.2 l hl)⟩⟩
  rw [xu_row (by decide)]
  show _ :: tq (m.1 74) (48 * t) cs.length = _
  rw [h8.2]
end RLE
section RLF
variable {m0 m : xS} {b : Nat → Int} {n t : Nat} {cs : List (Int × Int × Int × Int)} {ln : Int} {F : Nat} {s0 : tSt} {pm0 : Nat} {cl : Nat} {rp ou : List Int}
/-- the places of text and clauses -/
theorem rC_at {p : Nat} {ft nu k : Int} {rc op : List Int} {dp : Int} (ht : t < 6) (hT : (m0.1 70 11).toInt = (t : Int)) (h : rC m0 n t p ft nu k rc cs op dp ln m) (lc : cs.length < 12) : (m.1 70 11).toInt = (t : Int) ∧ (m.1 70 11).toNatClampNeg = t ∧ (48 * (m.1 70 11) + 4 * (m.1 75 t)).toInt = 48 * (t : Int) + 4 * (cs.length : Int) := by
  have h8 := h.2.2.2.2.2.2.2.1.1
  have e11 : (m.1 70 11).toInt = (t : Int) := (congrArg Int32.toInt (h.2.1.2 70 11 rfl)).trans hT
  have e1 : (48 * m.1 70 11).toInt = 48 * (t : Int) := (xm1 (by show _ ≤ (48 : Int) * _; omega) (by show (48 : Int) * _ ≤ _; omega)).trans (by rw [e11]; rfl)
  have e2 : (4 * m.1 75 t).toInt = 4 * (cs.length : Int) := (xm1 (by show _ ≤ (4 : Int) * _; omega) (by show (4 : Int) * _ ≤ _; omega)).trans (by rw [h8]; rfl)
  exact ⟨e11, by show (m.1 70 11).toInt.toNat = t; omega, (xa1 (by omega) (by omega)).trans (by rw [e1, e2])⟩
/-- the clause's row is told -/
theorem R185_110 {a : Int} {pr : Nat} {v1 : Int32} (N : rN m0 b n) (ht : t < 6) (hT : (m0.1 70 11).toInt = (t : Int)) (hv : v1.toInt = 48 * (t : Int) + 4 * (cs.length : Int)) (lc : cs.length < 12) (h : rD m0 b n t cs ln rp ou s0 pm0 cl pr a m) : xP (D185_110 F v1 m) (fun v m' => v = 1 ∧ ∃ cs', cs'.length = cs.length + 1 ∧ rD m0 b n t cs' ln rp ou s0 pm0 cl pr a m') := by
  obtain ⟨j, pm, k, nu, rc, out, wait, op, wh, dp, a1, a2, a3, a4, a5, a6, a7, a8, a9, a10⟩ := h
  obtain ⟨e11, et, -⟩ := rC_at ht hT a10 lc
  have h8 := a10.2.2.2.2.2.2.2.1.1
  have e3 : (v1 + 3).toInt = 48 * (t : Int) + 4 * (cs.length : Int) + 3 := (xa1 (by show _ ≤ _ + (3 : Int); omega) (by show _ + (3 : Int) ≤ _; omega)).trans (by rw [hv]; rfl)
  have ei : (v1 + 3).toNatClampNeg = 48 * t + 4 * cs.length + 3 := by show (v1 + 3).toInt.toNat = _; omega
  have i6 : xib (m.1 70 11) 6 = true := xib_t (by omega) (by omega)
  unfold D185_110
  rw [et, ei]
  refine xP_g (xib_t (by omega) (by omega)) (xP_g (xib_t (by omega) (by omega)) (xP_g i6 (xP_g i6 (xP_r ⟨rfl, ?_⟩))))
  have z := rC_74 (v := m.1 73 t) (j := 48 * t + 4 * cs.length + 3) ht a10 (by omega) (by omega)
  obtain ⟨cs', l1, z2⟩ := rC_75 (v := m.1 75 t + 1) ht z ((xa1 (by show _ ≤ _ + (1 : Int); omega) (by show _ + (1 : Int) ≤ _; omega)).trans (by rw [h8]; rfl)) (by omega)
  exact ⟨cs', l1, j, pm, k, nu, rc, out, wait, op, wh, dp, a1, a2, a3, a4, a5, a6, a7, a8, a9, z2⟩
theorem rZ_m {m' : xS} (h : rZ m0 b n s0 pm0 m) (e : m' = m) : rZ m0 b n s0 pm0 m' := by rw [e]; exact h
/-- isLendHere, behind the machine's step over the word -/
theorem R185 {pr k : Nat} {nu : Int} {op : List Int} {dp : Int} (hF : 500 ≤ F) (N : rN m0 b n) (ht : t < 6) (hT : (m0.1 70 11).toInt = (t : Int)) (lc : cs.length < 12) (st : stn b n 1 s0 = .inr (tS tlt b n pr, k, ou, [], cl, 2, 0)) (l0 : pm0 + 1 ≤ tS tlt b n pr) (hl : rp.length ≤ ou.length ∧ ou.length + 1 ≤ tS tlt b n pr) (hk : k ≤ 60) (h : rC m0 n t pr 0 nu (k : Int) rp cs op dp ln m) : xP (D185 F m) (fun v m' => (v = 0 ∧ rZ m0 b n s0 pm0 m') ∨ (v = 1 ∧ ∃ pr' cs' a, cs'.length = cs.length + 1 ∧ (a = 14 ∨ a = 15) ∧ rD m0 b n t cs' ln rp ou s0 pm0 cl pr' a m')) := by
  have n4 := N.2.1
  unfold D185
  refine xP_b (R168 hF (rN_t N h) (rC_t h)) (fun _ m1 q1 => ?_)
  have c1 := rC_T h q1
  obtain ⟨e11, et, ea⟩ := rC_at ht hT c1 lc
  dsimp only
  rw [et]
  generalize hA : 48 * m1.1 70 11 + 4 * m1.1 75 t = A at *
  have eA : A.toNatClampNeg = 48 * t + 4 * cs.length := by show A.toInt.toNat = _; omega
  have eA1 : (A + 1).toInt = 48 * (t : Int) + 4 * (cs.length : Int) + 1 := (xa1 (by show _ ≤ _ + (1 : Int); omega) (by show _ + (1 : Int) ≤ _; omega)).trans (by rw [ea]; rfl)
  have eA2 : (A + 2).toInt = 48 * (t : Int) + 4 * (cs.length : Int) + 2 := (xa1 (by show _ ≤ _ + (2 : Int); omega) (by show _ + (2 : Int) ≤ _; omega)).trans (by rw [ea]; rfl)
  have nA1 : (A + 1).toNatClampNeg = 48 * t + 4 * cs.length + 1 := by show (A + 1).toInt.toNat = _; omega
  have nA2 : (A + 2).toNatClampNeg = 48 * t + 4 * cs.length + 2 := by show (A + 2).toInt.toNat = _; omega
  refine xP_g (xib_t (by omega) (by omega)) (xP_g (xib_t (by omega) (by omega)) (xP_g (xib_t (by omega) (by omega)) ?_))
  rw [eA]
  have c2 := rC_74 (v := m1.1 73 t) (j := 48 * t + 4 * cs.length) ht c1 (by omega) (by omega)
  refine xP_b (R179 (s0 := (tS tlt b n pr, k, ou, [], cl, 2, 0)) (pm0 := tS tlt b n pr) (pm := tS tlt b n pr) (pr := tS tlt b n pr) (Wt := []) (cl := cl) (wh := 0) (rc := []) (out := []) (rp := rp) (ou := ou) hF N ht hT (by decide) (fun w vs z => (by cases z)) rfl (Nat.le_refl _) (Nat.le_refl _) rfl rfl ⟨hl.1, by show 0 + ou.length + 0 + 1 ≤ _; omega⟩ hk c2) (fun v m2 q2 => ?_)
  dsimp only
  rcases q2 with ⟨rfl, q2⟩ | ⟨rfl, pr2, d1, q2⟩
  · exact xP_i (fun c => absurd c (by decide)) (fun _ => xP_r (Or.inl ⟨rfl, rZ_tr st (by omega) q2⟩))
  · refine xP_i (fun _ => ?_) (fun c => absurd c (by decide))
    obtain ⟨j, pm, k2, nu2, rc, out, Z, a1, a2, a3, a4, a5, a6, a7, a8, a9⟩ := q2
    obtain ⟨f11, ft, -⟩ := rC_at ht hT a9 lc
    rw [ft, nA1, nA2]
    refine xP_g (xib_t (by omega) (by omega)) (xP_g (xib_t (by omega) (by omega)) (xP_g (xib_t (by omega) (by omega)) ?_))
    have c3 := rC_74 (v := (-1)) (j := 48 * t + 4 * cs.length + 2) ht (rC_74 (v := m2.1 73 t) (j := 48 * t + 4 * cs.length + 1) ht a9 (by omega) (by omega)) (by omega) (by omega)
    have rl : rc.length = Z.length + out.length := by
      have := congrArg List.length a6
      rw [List.length_map, List.length_append, List.length_reverse] at this
      exact this
    have st2 : stn b n (1 + j) s0 = .inr (pm, k2, out ++ ou, Z ++ [], cl, 3, 0) := (stn_add 1 st).trans a1
    have jn : tstp b n (pm, k2, out ++ ou, Z ++ [], cl, 3, 0) = tena b n pm k2 (out ++ ou) (Z ++ []) cl 0 := by
      show tjnt b n pm k2 (out ++ ou) (Z ++ []) cl 0 = _
      unfold tjnt
      rw [if_neg (fun z => z.2 (by rw [← a4]; exact d1)), if_pos rfl]
    have sz : ∀ x : List Int, (tSe 1 (Z ++ []) x).1 = Z.reverse ++ x ∧ (tSe 1 (Z ++ []) x).2.1 = [] := fun x => tSe_app (fun w vs z => (by cases z)) Z x (fun z hz => by have := a5 z hz; have e11 : tcl 1 = 1 := rfl; omega)
    unfold D169
    refine xP_b (R := fun v m' => rC m0 n t (if v = 1 then tle b n pr2 else tsk b n pr2) 0 nu2 (k2 : Int) (rc ++ rp) cs op dp ln m' ∧ ((v = 1 ∧ twd b n pr2 = tIf) ∨ (v = 0 ∧ twd b n pr2 ≠ tIf))) ?_ (fun v m3 q3 => ?_)
    · refine xP_b (R167 (W := tIf) (w := 26982) hF (rN_t N c3) (rC_t c3) (by decide) (by decide) (by decide)) (fun r4 m4 q4 => ?_)
      obtain ⟨q4, e4⟩ := q4
      have c4 := rC_T c3 q4
      dsimp only
      rcases e4 with ⟨rfl, e4⟩ | ⟨rfl, e4⟩
      · refine xP_i (fun _ => ?_) (fun c => absurd c (by decide))
        refine xP_b (R168 hF (rN_t N c4) (rC_t c4)) (fun _ m5 q5 => xP_r ⟨?_, Or.inl ⟨rfl, e4⟩⟩)
        rw [if_pos rfl]
        exact rC_T c4 q5
      · refine xP_i (fun c => absurd c (by decide)) (fun _ => xP_r ⟨?_, Or.inr ⟨rfl, e4⟩⟩)
        rw [if_neg (by decide)]
        exact c4
    · obtain ⟨c4, q4⟩ := q3
      dsimp only
      have gs : pr2 ≤ tsk b n pr2 := tS_ge pr2
      have ids : tsk b n (tsk b n pr2) = tsk b n pr2 := tS_id pr2
      rcases q4 with ⟨rfl, q4⟩ | ⟨rfl, q4⟩
      · rw [if_pos rfl] at c4
        have tI : twd b n pm = tIf := (twd_eq a4).symm.trans q4
        have el : tle b n pr2 = tle b n pm := by
          show tS tlt b n (tsk b n pr2) = tS tlt b n (tsk b n pm)
          rw [a4]
        have len : tS tlt b n (tsk b n pm) - tsk b n pm = 2 := tw_eq tI
        have gpm : pm ≤ tsk b n pm := tS_ge pm
        refine xP_i (fun c => absurd c (by decide)) (fun _ => ?_)
        obtain ⟨g11, gt, -⟩ := rC_at ht hT c4 lc
        rw [gt]
        refine xP_g (xib_t (by omega) (by omega)) (xP_g (xib_t (by omega) (by omega)) ?_)
        have c5 := rC_74 (v := m3.1 73 t) (j := 48 * t + 4 * cs.length + 2) ht c4 (by omega) (by omega)
        unfold D184
        have c6 := rC_dp (v := 0) (x := ((tdp (([] : List Int).map teo) : Nat) : Int)) (rC_len (v := 0) (os := []) c5 rfl rfl (Nat.zero_le _)) rfl
        have tpn : tle b n pr2 ≤ n := c4.2.2.1.2
        refine xP_b (R184_12 (pr := tle b n pr2) (s0 := s0) (pm0 := pm0) (cl := cl) (rp := rp) (ou := ou) (cs := cs) (ln := ln) hF N ht hT F ⟨1 + j + 1, tle b n pm, k2, nu2, rc, rc.map tenc, [], 0, (stn_add (1 + j) st2).trans (stn_1 (jn.trans ?_)), ?_, by rw [el]; exact Nat.le_refl _, by rw [el], rfl, ⟨a7.1, ?_⟩, a8, fun x hx => (by cases hx), Nat.zero_le _, c6⟩ (by omega)) (fun v m7 q7 => ?_)
        · unfold tena
          rw [tI, show tix tIf tw1005 = some 0 by decide]
          dsimp only
          rw [(sz _).1, (sz _).2, a6, List.append_assoc]
          rfl
        · show pm0 + (1 + j + 1) ≤ tS tlt b n (tsk b n pm)
          omega
        · have a72 := a7.2
          have z0 : ([] : List Int).length = 0 := rfl
          rw [z0] at a72
          rw [List.length_map]
          show rc.length + ou.length + 0 + 1 ≤ tS tlt b n (tsk b n pm)
          omega
        · dsimp only
          rcases q7 with ⟨rfl, q7⟩ | ⟨rfl, pr3, q7⟩
          · exact xP_i (fun c => absurd c (by decide)) (fun _ => xP_r (Or.inl ⟨rfl, q7⟩))
          · refine xP_i (fun _ => ?_) (fun c => absurd c (by decide))
            refine xP_m (R185_110 N ht hT ea lc q7) (fun v m8 q8 => ?_)
            obtain ⟨e8, cs', l8, q8⟩ := q8
            exact Or.inr ⟨e8, pr3, cs', 15, l8, Or.inr rfl, q8⟩
      · rw [if_neg (by decide)] at c4
        have tI : twd b n pm ≠ tIf := fun z => q4 ((twd_eq a4).trans z)
        refine xP_i (fun _ => ?_) (fun c => absurd c (by decide))
        have a72 := a7.2
        have z0 : ([] : List Int).length = 0 := rfl
        rw [z0] at a72
        refine xP_m (R185_110 (a := 14) (pr := tsk b n pr2) (s0 := s0) (pm0 := pm0) (cl := cl) (rp := rp) (ou := ou) N ht hT ea lc ⟨1 + j, pm, k2, nu2, rc, out, Z ++ [], op, 0, dp, st2, jn.trans ?_, by omega, by omega, by rw [ids]; exact a4, ?_, (sz _).2, ⟨a7.1, by omega⟩, a8, c4⟩) (fun v m8 q8 => ?_)
        · unfold tena
          rw [show tix (twd b n pm) tw1005 = none from tix_ne tI]
        · rw [(sz _).1]
          exact a6
        · obtain ⟨e8, cs', l8, q8⟩ := q8
          exact Or.inr ⟨e8, _, cs', 14, l8, Or.inl rfl, q8⟩
end RLF
