/-! The reference's clauses once more: the places of each clause are told. -/
theorem xP_and {α : Type} {o : Option (α × xS)} {Q R : α → xS → Prop} (h1 : xP o Q) (h2 : xP o R) : xP o (fun v m => Q v m ∧ R v m) := by
  obtain ⟨x, e1, q⟩ := h1
  obtain ⟨y, e2, r⟩ := h2
  rw [e1] at e2
  cases e2
  exact ⟨x, e1, q, r⟩
section RLX
variable {m0 m : xS} {b : Nat → Int} {n t : Nat} {cs : List (Int × Int × Int × Int)} {ln : Int} {F : Nat} {s0 : tSt} {pm0 : Nat} {cl : Nat} {rp ou : List Int}
/-- a clause's end, its codes cut into test and sum -/
def rDx (m0 : xS) (b : Nat → Int) (n t : Nat) (cs : List (Int × Int × Int × Int)) (ln : Int) (rp ou : List Int) (s0 : tSt) (pm0 cl pr : Nat) (a : Int) (rct rcs : List Int) (m : xS) : Prop := ∃ (j pm k : Nat) (nu : Int) (out wait op : List Int) (wh : Nat) (dp : Int), stn b n j s0 = .inr (pm, k, out, wait, cl, 3, wh) ∧ tstp b n (pm, k, out, wait, cl, 3, wh) = tendc b n a pm k out wait cl wh ∧ pm0 + j ≤ pm ∧ pm ≤ pr ∧ tsk b n pr = tsk b n pm ∧ (tSe 1 wait out).1 = rct.map tenc ++ (rcs.map tenc ++ ou) ∧ (tSe 1 wait out).2.1 = [] ∧ (rp.length ≤ ou.length ∧ rct.length + rcs.length + ou.length + 1 ≤ pm) ∧ k ≤ 60 ∧ rC m0 n t pr 0 nu (k : Int) (rct ++ (rcs ++ rp)) cs op dp ln m
/-- where a clause's codes stand -/
def cTu (l : Nat) (a : Int) (rct rcs : List Int) : Int × Int × Int × Int := ((l : Int), ((l + rcs.length : Nat) : Int), (if a = 14 then -1 else ((l + rcs.length : Nat) : Int)), ((l + rcs.length + rct.length : Nat) : Int))
/-- a value, a sum may begin: no code yet -/
theorem xpr_0 {p : Nat} {ft nu k : Int} {rc op : List Int} {dp : Int} (N : rN m0 b n) (ht : t < 6) (hT : (m0.1 70 11).toInt = (t : Int)) (h : rC m0 n t p ft nu k rc cs op dp ln m) (l : rc.length ≤ p) : xpr t rc.length 0 0 m := by
  have h8 := h.2.2.1
  have h7 := h.2.2.2.2.2.2.1.1
  have e1 : (m.1 70 1).toInt = (n : Int) := (congrArg Int32.toInt (h.2.1.2 70 1 rfl)).trans N.1
  have k0 := h.1 70 12 (0, 60) rfl
  refine ⟨ht, h.1, by omega, (congrArg Int32.toInt (h.2.1.2 70 11 rfl)).trans hT, Int.le_refl _, by omega, by omega, ?_, k0.1⟩
  rw [show (m.1 73 t).toInt.toNat - rc.length = 0 by omega]
  rfl
theorem fr74 {m' : xS} {M : yM} {u : Nat} (h : yinM M 74 ((0 : Nat) : Int) = false ∧ ∀ j : Nat, yinM M 74 (j : Int) = false) (q : xq u M m m') (j : Nat) : m'.1 74 j = m.1 74 j := q.2.1.2 74 j (h.2 j)
/-- the clause's row is told: the fourth place, one clause more -/
theorem R185_110x {a : Int} {pr : Nat} {v1 : Int32} {rct rcs : List Int} (N : rN m0 b n) (ht : t < 6) (hT : (m0.1 70 11).toInt = (t : Int)) (hv : v1.toInt = 48 * (t : Int) + 4 * (cs.length : Int)) (lc : cs.length < 12) (h : rDx m0 b n t cs ln rp ou s0 pm0 cl pr a rct rcs m) (c0 : (m.1 74 (48 * t + 4 * cs.length)).toInt = (rp.length : Int)) (c1 : (m.1 74 (48 * t + 4 * cs.length + 1)).toInt = ((rp.length + rcs.length : Nat) : Int)) (c2 : (m.1 74 (48 * t + 4 * cs.length + 2)).toInt = if a = 14 then -1 else ((rp.length + rcs.length : Nat) : Int)) : xP (D185_110 F v1 m) (fun v m' => v = 1 ∧ rDx m0 b n t (cTu rp.length a rct rcs :: cs) ln rp ou s0 pm0 cl pr a rct rcs m') := by
  obtain ⟨j, pm, k, nu, out, wait, op, wh, dp, a1, a2, a3, a4, a5, a6, a7, a8, a9, a10⟩ := h
  obtain ⟨e11, et, -⟩ := rC_at ht hT a10 lc
  have h8 := a10.2.2.2.2.2.2.2.1.1
  have h7 := a10.2.2.2.2.2.2.1.1
  have e3 : (v1 + 3).toInt = 48 * (t : Int) + 4 * (cs.length : Int) + 3 := (xa1 (by show _ ≤ _ + (3 : Int); omega) (by show _ + (3 : Int) ≤ _; omega)).trans (by rw [hv]; rfl)
  have ei : (v1 + 3).toNatClampNeg = 48 * t + 4 * cs.length + 3 := by show (v1 + 3).toInt.toNat = _; omega
  have i6 : xib (m.1 70 11) 6 = true := xib_t (by omega) (by omega)
  unfold D185_110
  rw [et, ei]
  refine xP_g (xib_t (by omega) (by omega)) (xP_g (xib_t (by omega) (by omega)) (xP_g i6 (xP_g i6 (xP_r ⟨rfl, ?_⟩))))
  have z := rC_74 (v := m.1 73 t) (j := 48 * t + 4 * cs.length + 3) ht a10 (by omega) (by omega)
  obtain ⟨h1, h2, h3, h4, h5, h6, h7', h8', h9, h10, h11, h12⟩ := z
  have ev : (m.1 75 t + 1).toInt = (cs.length : Int) + 1 := (xa1 (by show _ ≤ _ + (1 : Int); omega) (by show _ + (1 : Int) ≤ _; omega)).trans (by rw [h8]; rfl)
  have q : ∀ {i l : Nat}, i ≠ 75 → (xu (xu m 74 (48 * t + 4 * cs.length + 3) (m.1 73 t)) 75 t (m.1 75 t + 1)).1 i l = (xu m 74 (48 * t + 4 * cs.length + 3) (m.1 73 t)).1 i l := fun z => xu_o (fun y => z y.1)
  refine ⟨j, pm, k, nu, out, wait, op, wh, dp, a1, a2, a3, a4, a5, a6, a7, a8, a9, xT_c h1 (rb75 ht) (by omega) (by omega), xfr_t h2 (xfr_u (by unfold yinM; rfl)), ⟨(congrArg Int32.toInt (q (by decide))).trans h3.1, h3.2⟩, (congrArg Int32.toInt (q (by decide))).trans h4, (congrArg Int32.toInt (q (by decide))).trans h5, (congrArg Int32.toInt (q (by decide))).trans h6, ⟨(congrArg Int32.toInt (q (by decide))).trans h7'.1, (tk_c _ (fun l _ => q (by decide))).trans h7'.2⟩, ⟨(congrArg Int32.toInt (xu_s _ _ _ _)).trans (ev.trans (by rw [List.length_cons]; omega)), ?_⟩, ⟨(congrArg Int32.toInt (q (by decide))).trans h9.1, (tk_c _ (fun l _ => q (by decide))).trans h9.2⟩, (congrArg Int32.toInt (q (by decide))).trans h10, (congrArg Int32.toInt (q (by decide))).trans h11, ⟨fun l hl => (q (by decide)).trans (h12.1 l hl), fun l hl => ⟨(q (by decide)).trans (h12.2.1 l hl).1, (xu_o (fun z => hl z.2)).trans (h12.2.1 l hl).2⟩, fun l hl => (q (by decide)).trans (h12.2.2 l hl)⟩⟩
  rw [xu_row (by decide)]
  have g : ∀ x : Nat, x < 3 → (xu m 74 (48 * t + 4 * cs.length + 3) (m.1 73 t)).1 74 (48 * t + 4 * cs.length + x) = m.1 74 (48 * t + 4 * cs.length + x) := fun x hx => xu_o (by omega)
  have g0 : (xu m 74 (48 * t + 4 * cs.length + 3) (m.1 73 t)).1 74 (48 * t + 4 * cs.length) = m.1 74 (48 * t + 4 * cs.length) := xu_o (by omega)
  have g1 := g 1 (by decide)
  have g2 := g 2 (by decide)
  have g3 : (xu m 74 (48 * t + 4 * cs.length + 3) (m.1 73 t)).1 74 (48 * t + 4 * cs.length + 3) = m.1 73 t := xu_s _ _ _ _
  show (((xu m 74 (48 * t + 4 * cs.length + 3) (m.1 73 t)).1 74 (48 * t + 4 * cs.length)).toInt, ((xu m 74 (48 * t + 4 * cs.length + 3) (m.1 73 t)).1 74 (48 * t + 4 * cs.length + 1)).toInt, ((xu m 74 (48 * t + 4 * cs.length + 3) (m.1 73 t)).1 74 (48 * t + 4 * cs.length + 2)).toInt, ((xu m 74 (48 * t + 4 * cs.length + 3) (m.1 73 t)).1 74 (48 * t + 4 * cs.length + 3)).toInt) :: tq ((xu m 74 (48 * t + 4 * cs.length + 3) (m.1 73 t)).1 74) (48 * t) cs.length = _
  rw [h8'.2, g0, g1, g2, g3, c0, c1, c2, h7]
  unfold cTu
  rw [List.length_append, List.length_append, show rct.length + (rcs.length + rp.length) = rp.length + rcs.length + rct.length by omega]
/-- isLendHere, its places told -/
theorem R185x {pr k : Nat} {nu : Int} {op : List Int} {dp : Int} (hF : 500 ≤ F) (N : rN m0 b n) (ht : t < 6) (hT : (m0.1 70 11).toInt = (t : Int)) (lc : cs.length < 12) (st : stn b n 1 s0 = .inr (tS tlt b n pr, k, ou, [], cl, 2, 0)) (l0 : pm0 + 1 ≤ tS tlt b n pr) (hl : rp.length ≤ ou.length ∧ ou.length + 1 ≤ tS tlt b n pr) (hk : k ≤ 60) (h : rC m0 n t pr 0 nu (k : Int) rp cs op dp ln m) : xP (D185 F m) (fun v m' => (v = 0 ∧ rZ m0 b n s0 pm0 m') ∨ (v = 1 ∧ ∃ (pr' : Nat) (a : Int) (rct rcs : List Int), ((a = 14 ∧ rct = []) ∨ a = 15) ∧ rDx m0 b n t (cTu rp.length a rct rcs :: cs) ln rp ou s0 pm0 cl pr' a rct rcs m')) := by
  have n4 := N.2.1
  unfold D185
  refine xP_b (R168 hF (rN_t N h) (rC_t h)) (fun _ m1 q1 => ?_)
  have c1 := rC_T h q1
  obtain ⟨e11, et, ea⟩ := rC_at ht hT c1 lc
  dsimp only
  rw [et]
  generalize hA : 48 * m1.1 70 11 + 4 * m1.1 75 t = A at *
  have eA : A.toNatClampNeg = 48 * t + 4 * cs.length := by show A.toInt.toNat = _; omega
  have eA1 : (A + 1).toInt = 48 * (t : Int) + 4 * (cs.length : Int) + 1 := (xa1 (by show _ ≤ _ + (1 : Int); omega) (by show _ + (1 : Int) ≤ _; omega)).trans (by rw [ea]; rfl)
  have eA2 : (A + 2).toInt = 48 * (t : Int) + 4 * (cs.length : Int) + 2 := (xa1 (by show _ ≤ _ + (2 : Int); omega) (by show _ + (2 : Int) ≤ _; omega)).trans (by rw [ea]; rfl)
  have nA1 : (A + 1).toNatClampNeg = 48 * t + 4 * cs.length + 1 := by show (A + 1).toInt.toNat = _; omega
  have nA2 : (A + 2).toNatClampNeg = 48 * t + 4 * cs.length + 2 := by show (A + 2).toInt.toNat = _; omega
  refine xP_g (xib_t (by omega) (by omega)) (xP_g (xib_t (by omega) (by omega)) (xP_g (xib_t (by omega) (by omega)) ?_))
  rw [eA]
  have c2 := rC_74 (v := m1.1 73 t) (j := 48 * t + 4 * cs.length) ht c1 (by omega) (by omega)
  have e0 : (m1.1 73 t).toInt = (rp.length : Int) := c1.2.2.2.2.2.2.1.1
  generalize hM2 : xu m1 74 (48 * t + 4 * cs.length) (m1.1 73 t) = n1 at c2 ⊢
  have f0 : n1.1 74 (48 * t + 4 * cs.length) = m1.1 73 t := by
    rw [← hM2]
    exact xu_s _ _ _ _
  refine xP_b (xP_and (R179 (s0 := (tS tlt b n pr, k, ou, [], cl, 2, 0)) (pm0 := tS tlt b n pr) (pm := tS tlt b n pr) (pr := tS tlt b n pr) (Wt := []) (cl := cl) (wh := 0) (rc := []) (out := []) (rp := rp) (ou := ou) hF N ht hT (by decide) (fun w vs z => (by cases z)) rfl (Nat.le_refl _) (Nat.le_refl _) rfl rfl ⟨hl.1, by show 0 + ou.length + 0 + 1 ≤ _; omega⟩ hk c2) (P179 hF (xpr_0 N ht hT c2 (by omega)))) (fun v m2 q2 => ?_)
  obtain ⟨q2, p2⟩ := q2
  have g2 : ∀ j, m2.1 74 j = n1.1 74 j := fun j => fr74 ⟨by unfold yinM; rfl, fun _ => by unfold yinM; rfl⟩ p2.1 j
  dsimp only
  rcases q2 with ⟨rfl, q2⟩ | ⟨rfl, pr2, d1, q2⟩
  · exact xP_i (fun c => absurd c (by decide)) (fun _ => xP_r (Or.inl ⟨rfl, rZ_tr st (by omega) q2⟩))
  · refine xP_i (fun _ => ?_) (fun c => absurd c (by decide))
    obtain ⟨j, pm, k2, nu2, rc, out, Z, a1, a2, a3, a4, a5, a6, a7, a8, a9⟩ := q2
    obtain ⟨f11, ft, -⟩ := rC_at ht hT a9 lc
    rw [ft, nA1, nA2]
    refine xP_g (xib_t (by omega) (by omega)) (xP_g (xib_t (by omega) (by omega)) (xP_g (xib_t (by omega) (by omega)) ?_))
    have e1 : (m2.1 73 t).toInt = ((rp.length + rc.length : Nat) : Int) := by
      have z := a9.2.2.2.2.2.2.1.1
      rw [List.length_append] at z
      omega
    have c3 := rC_74 (v := (-1)) (j := 48 * t + 4 * cs.length + 2) ht (rC_74 (v := m2.1 73 t) (j := 48 * t + 4 * cs.length + 1) ht a9 (by omega) (by omega)) (by omega) (by omega)
    generalize hM3 : xu (xu m2 74 (48 * t + 4 * cs.length + 1) (m2.1 73 t)) 74 (48 * t + 4 * cs.length + 2) (-1) = n3 at c3 ⊢
    have f3 : n3.1 74 (48 * t + 4 * cs.length) = m1.1 73 t ∧ n3.1 74 (48 * t + 4 * cs.length + 1) = m2.1 73 t ∧ n3.1 74 (48 * t + 4 * cs.length + 2) = -1 := by
      rw [← hM3]
      exact ⟨(xu_o (by omega)).trans ((xu_o (by omega)).trans ((g2 _).trans f0)), (xu_o (by omega)).trans (xu_s _ _ _ _), xu_s _ _ _ _⟩
    have rl : rc.length = Z.length + out.length := by
      have := congrArg List.length a6
      rw [List.length_map, List.length_append, List.length_reverse] at this
      exact this
    have st2 : stn b n (1 + j) s0 = .inr (pm, k2, out ++ ou, Z ++ [], cl, 3, 0) := (stn_add 1 st).trans a1
    have jn : tstp b n (pm, k2, out ++ ou, Z ++ [], cl, 3, 0) = tena b n pm k2 (out ++ ou) (Z ++ []) cl 0 := by
      show tjnt b n pm k2 (out ++ ou) (Z ++ []) cl 0 = _
      unfold tjnt
      rw [if_neg (fun z => z.2 (by rw [← a4]; exact d1)), if_pos rfl]
    have sz : ∀ x : List Int, (tSe 1 (Z ++ []) x).1 = Z.reverse ++ x ∧ (tSe 1 (Z ++ []) x).2.1 = [] := fun x => tSe_app (fun w vs z => (by cases z)) Z x (fun z hz => by have := a5 z hz; have e11 : tcl 1 = 1 := rfl; omega)
    have a72 := a7.2
    have z0 : ([] : List Int).length = 0 := rfl
    rw [z0] at a72
    unfold D169
    refine xP_b (R := fun v m' => (rC m0 n t (if v = 1 then tle b n pr2 else tsk b n pr2) 0 nu2 (k2 : Int) (rc ++ rp) cs op dp ln m' ∧ ∀ j, m'.1 74 j = n3.1 74 j) ∧ ((v = 1 ∧ twd b n pr2 = tIf) ∨ (v = 0 ∧ twd b n pr2 ≠ tIf))) ?_ (fun v m3 q3 => ?_)
    · refine xP_b (R167 (W := tIf) (w := 26982) hF (rN_t N c3) (rC_t c3) (by decide) (by decide) (by decide)) (fun r4 m4 q4 => ?_)
      obtain ⟨q4, e4⟩ := q4
      have c4 := rC_T c3 q4
      have g4 : ∀ j, m4.1 74 j = n3.1 74 j := fun j => q4.2.1.2 74 j (by unfold yinM; rfl)
      dsimp only
      rcases e4 with ⟨rfl, e4⟩ | ⟨rfl, e4⟩
      · refine xP_i (fun _ => ?_) (fun c => absurd c (by decide))
        refine xP_b (R168 hF (rN_t N c4) (rC_t c4)) (fun _ m5 q5 => xP_r ⟨⟨?_, fun j => (q5.2.1.2 74 j (by unfold yinM; rfl)).trans (g4 j)⟩, Or.inl ⟨rfl, e4⟩⟩)
        rw [if_pos rfl]
        exact rC_T c4 q5
      · refine xP_i (fun c => absurd c (by decide)) (fun _ => xP_r ⟨⟨?_, g4⟩, Or.inr ⟨rfl, e4⟩⟩)
        rw [if_neg (by decide)]
        exact c4
    · obtain ⟨⟨c4, g4⟩, q4⟩ := q3
      dsimp only
      have gs : pr2 ≤ tsk b n pr2 := tS_ge pr2
      have ids : tsk b n (tsk b n pr2) = tsk b n pr2 := tS_id pr2
      rcases q4 with ⟨rfl, q4⟩ | ⟨rfl, q4⟩
      · rw [if_pos rfl] at c4
        have tI : twd b n pm = tIf := (twd_eq a4).symm.trans q4
        have el : tle b n pr2 = tle b n pm := by
          show tS tlt b n (tsk b n pr2) = tS tlt b n (tsk b n pm)
          rw [a4]
        have len : tS tlt b n (tsk b n pm) - tsk b n pm = 2 := tw_eq tI
        have gpm : pm ≤ tsk b n pm := tS_ge pm
        refine xP_i (fun c => absurd c (by decide)) (fun _ => ?_)
        obtain ⟨g11, gt, -⟩ := rC_at ht hT c4 lc
        rw [gt]
        refine xP_g (xib_t (by omega) (by omega)) (xP_g (xib_t (by omega) (by omega)) ?_)
        have c5 := rC_74 (v := m3.1 73 t) (j := 48 * t + 4 * cs.length + 2) ht c4 (by omega) (by omega)
        have e3 : (m3.1 73 t).toInt = ((rp.length + rc.length : Nat) : Int) := by
          have z := c4.2.2.2.2.2.2.1.1
          rw [List.length_append] at z
          omega
        generalize hM5 : xu m3 74 (48 * t + 4 * cs.length + 2) (m3.1 73 t) = n5 at c5 ⊢
        have f5 : n5.1 74 (48 * t + 4 * cs.length) = m1.1 73 t ∧ n5.1 74 (48 * t + 4 * cs.length + 1) = m2.1 73 t ∧ n5.1 74 (48 * t + 4 * cs.length + 2) = m3.1 73 t := by
          rw [← hM5]
          exact ⟨(xu_o (by omega)).trans ((g4 _).trans f3.1), (xu_o (by omega)).trans ((g4 _).trans f3.2.1), xu_s _ _ _ _⟩
        have tpn : tle b n pr2 ≤ n := c4.2.2.1.2
        have K : xP (D184 F n5) (fun v m' => (v = 0 ∧ rZ m0 b n s0 pm0 m') ∨ (v = 1 ∧ ∃ pr', rD m0 b n t cs ln (rc ++ rp) (rc.map tenc ++ ou) s0 pm0 cl pr' 15 m')) := by
          unfold D184
          have c6 := rC_dp (v := 0) (x := ((tdp (([] : List Int).map teo) : Nat) : Int)) (rC_len (v := 0) (os := []) c5 rfl rfl (Nat.zero_le _)) rfl
          refine R184_12 (pr := tle b n pr2) (s0 := s0) (pm0 := pm0) (cl := cl) (rp := rc ++ rp) (ou := rc.map tenc ++ ou) (cs := cs) (ln := ln) hF N ht hT F ⟨1 + j + 1, tle b n pm, k2, nu2, [], [], [], 0, (stn_add (1 + j) st2).trans (stn_1 (jn.trans ?_)), ?_, by rw [el]; exact Nat.le_refl _, by rw [el], rfl, ⟨?_, ?_⟩, a8, fun x hx => (by cases hx), Nat.zero_le _, c6⟩ (by omega)
          · unfold tena
            rw [tI, show tix tIf tw1005 = some 0 by decide]
            dsimp only
            rw [(sz _).1, (sz _).2, a6, List.append_assoc]
            rfl
          · show pm0 + (1 + j + 1) ≤ tS tlt b n (tsk b n pm)
            omega
          · rw [List.length_append, List.length_append, List.length_map]
            have := a7.1
            omega
          · rw [List.length_append, List.length_map]
            show 0 + (rc.length + ou.length) + 0 + 1 ≤ tS tlt b n (tsk b n pm)
            omega
        refine xP_b (xP_and K (P184 hF (xpr_0 N ht hT c5 (by
          rw [List.length_append, el]
          show rc.length + rp.length ≤ tS tlt b n (tsk b n pm)
          omega)))) (fun v m7 q7 => ?_)
        obtain ⟨q7, p7⟩ := q7
        have g7 : ∀ j, m7.1 74 j = n5.1 74 j := fun j => fr74 ⟨by unfold yinM; rfl, fun _ => by unfold yinM; rfl⟩ p7.1 j
        dsimp only
        rcases q7 with ⟨rfl, q7⟩ | ⟨rfl, pr3, q7⟩
        · exact xP_i (fun c => absurd c (by decide)) (fun _ => xP_r (Or.inl ⟨rfl, q7⟩))
        · refine xP_i (fun _ => ?_) (fun c => absurd c (by decide))
          obtain ⟨j7, pm7, k7, nu7, rct, out7, wait7, op7, wh7, dp7, b1, b2, b3, b4, b5, b6, b7, b8, b9, b10⟩ := q7
          have so := tSe_out 1 wait7 out7 (rc.map tenc ++ ou)
          have b82 := b8.2
          rw [List.length_append, List.length_map] at b82
          refine xP_m (R185_110x (a := 15) (pr := pr3) (rct := rct) (rcs := rc) (rp := rp) (ou := ou) (s0 := s0) (pm0 := pm0) (cl := cl) N ht hT ea lc ⟨j7, pm7, k7, nu7, out7 ++ (rc.map tenc ++ ou), wait7, op7, wh7, dp7, b1, b2, b3, b4, b5, by rw [so.1, ← b6], by rw [so.2]; exact b7, ⟨a7.1, by omega⟩, b9, b10⟩ (by rw [g7, f5.1]; exact e0) (by rw [g7, f5.2.1]; exact e1) (by rw [g7, f5.2.2, if_neg (by decide)]; exact e3)) (fun v m8 q8 => ?_)
          obtain ⟨e8, q8⟩ := q8
          exact Or.inr ⟨e8, pr3, 15, rct, rc, Or.inr rfl, q8⟩
      · rw [if_neg (by decide)] at c4
        have tI : twd b n pm ≠ tIf := fun z => q4 ((twd_eq a4).trans z)
        refine xP_i (fun _ => ?_) (fun c => absurd c (by decide))
        refine xP_m (R185_110x (a := 14) (pr := tsk b n pr2) (rct := []) (rcs := rc) (rp := rp) (ou := ou) (s0 := s0) (pm0 := pm0) (cl := cl) N ht hT ea lc ⟨1 + j, pm, k2, nu2, out ++ ou, Z ++ [], op, 0, dp, st2, jn.trans ?_, by omega, by omega, by rw [ids]; exact a4, ?_, (sz _).2, ⟨a7.1, ?_⟩, a8, c4⟩ (by rw [g4, f3.1]; exact e0) (by rw [g4, f3.2.1]; exact e1) (by rw [g4, f3.2.2, if_pos rfl]; rfl)) (fun v m8 q8 => ?_)
        · unfold tena
          rw [show tix (twd b n pm) tw1005 = none from tix_ne tI]
        · rw [(sz _).1, a6, List.append_assoc]
          rfl
        · show 0 + rc.length + ou.length + 1 ≤ pm
          omega
        · obtain ⟨e8, q8⟩ := q8
          exact Or.inr ⟨e8, _, 14, [], rc, Or.inl ⟨rfl, rfl⟩, q8⟩
end RLX
