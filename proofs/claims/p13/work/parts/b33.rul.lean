/-! The reference's rule once more: what its rows hold. -/
/-- clauses that have been read: 14 or 15, the test's codes, the sum's (the last first) -/
abbrev cL : Type := List (Int × List Int × List Int)
def cRp : cL → List Int
  | [] => []
  | (_, t, s) :: L => t ++ (s ++ cRp L)
def cOu : cL → List Int
  | [] => []
  | (a, t, s) :: L => a :: (t.map tenc ++ (s.map tenc ++ cOu L))
def cCs : cL → List (Int × Int × Int × Int)
  | [] => []
  | (a, t, s) :: L => cTu (cRp L).length a t s :: cCs L
def cOk (L : cL) : Prop := ∀ q ∈ L, (q.1 = 14 ∧ q.2.1 = []) ∨ q.1 = 15
theorem cCs_len : ∀ L : cL, (cCs L).length = L.length
  | [] => rfl
  | (a, t, s) :: L => by
    show (cCs L).length + 1 = L.length + 1
    rw [cCs_len L]
theorem cRp_ou : ∀ L : cL, (cRp L).length ≤ (cOu L).length
  | [] => Nat.le_refl _
  | (a, t, s) :: L => by
    have := cRp_ou L
    show (t ++ (s ++ cRp L)).length ≤ (t.map tenc ++ (s.map tenc ++ cOu L)).length + 1
    rw [List.length_append, List.length_append, List.length_append, List.length_append, List.length_map, List.length_map]
    omega
/-- rule t of the reference: codes, places of clauses -/
def rK (m : xS) (t : Nat) (L : cL) : Prop := ((m.1 73 t).toInt = ((cRp L).length : Int) ∧ tk (fun j => m.1 72 (400 * t + j)) (cRp L).length = cRp L) ∧ ((m.1 75 t).toInt = (L.length : Int) ∧ tq (m.1 74) (48 * t) L.length = cCs L)
theorem rK_f {m m' : xS} {t : Nat} {L : cL} (h2 : ∀ j, 400 * t ≤ j → j < 400 * t + 400 → m'.1 72 j = m.1 72 j) (h3 : m'.1 73 t = m.1 73 t) (h5 : m'.1 75 t = m.1 75 t) (h4 : ∀ j, 48 * t ≤ j → j < 48 * t + 48 → m'.1 74 j = m.1 74 j) (l : (cRp L).length ≤ 400) (l2 : L.length ≤ 12) (h : rK m t L) : rK m' t L := by
  obtain ⟨⟨a1, a2⟩, a3, a4⟩ := h
  exact ⟨⟨by rw [h3]; exact a1, (tk_c _ (fun j hj => h2 _ (by omega) (by omega))).trans a2⟩, by rw [h5]; exact a3, (tq_c _ (fun j j1 j2 => h4 j j1 (by omega))).trans a4⟩
section RRX
variable {m0 m : xS} {b : Nat → Int} {n t : Nat} {F : Nat} {s0 : tSt} {pm0 : Nat}
theorem rDx_tr {cs : List (Int × Int × Int × Int)} {ln : Int} {rp ou : List Int} {cl pr i : Nat} {a : Int} {rct rcs : List Int} {s1 : tSt} {pm1 : Nat} (h : stn b n i s0 = .inr s1) (l : pm0 + i ≤ pm1) (z : rDx m0 b n t cs ln rp ou s1 pm1 cl pr a rct rcs m) : rDx m0 b n t cs ln rp ou s0 pm0 cl pr a rct rcs m := by
  obtain ⟨j, pm, k, nu, out, wait, op, wh, dp, a1, a2, a3, a4⟩ := z
  exact ⟨i + j, pm, k, nu, out, wait, op, wh, dp, (stn_add i h).trans a1, a2, by omega, a4⟩
/-- clauseHere -/
theorem R195x {cs : List (Int × Int × Int × Int)} {rp ou : List Int} {cl pr : Nat} (hF : 500 ≤ F) (N : rN m0 b n) (ht : t < 6) (hT : (m0.1 70 11).toInt = (t : Int)) (h : rG m0 b n t cs rp ou s0 pm0 cl pr m) : xP (D195 F m) (fun v m' => (v = 0 ∧ rZ m0 b n s0 pm0 m') ∨ (v = 1 ∧ cl + 1 ≤ 12 ∧ ∃ (pr' : Nat) (a : Int) (rct rcs : List Int), ((a = 14 ∧ rct = []) ∨ a = 15) ∧ rDx m0 b n t (cTu rp.length a rct rcs :: cs) ((cl + 1 : Nat) : Int) rp ou s0 pm0 (cl + 1) pr' a rct rcs m')) := by
  have n4 := N.2.1
  obtain ⟨j, pm, k, nu, op, dp, wh, a1, a2, a3, a4, a5, a6, a7, a8, a9⟩ := h
  have prn : pr ≤ n := a9.2.2.1.2
  have gs : pr ≤ tsk b n pr := tS_ge pr
  have ids : tsk b n (tsk b n pr) = tsk b n pr := tS_id pr
  unfold D195
  refine xP_b (R164 hF (rN_t N a9) (rC_t a9)) (fun v1 m1 q1 => ?_)
  have c1 := rC_T a9 q1.1
  have h3 := c1.2.2.1
  have e11 : (m1.1 70 11).toInt = (t : Int) := (congrArg Int32.toInt (c1.2.1.2 70 11 rfl)).trans hT
  have stp : tstp b n (pm, k, ou, [], cl, 0, wh) = tlnd b n pm k ou [] cl := rfl
  dsimp only
  refine xP_i (fun _ => ?_) (fun c => ?_)
  · unfold D195_24 D195_49
    refine xP_i (fun _ => ?_) (fun c => absurd c (by decide))
    refine xP_b (R167 (W := tLend) (w := 1818586724) hF (rN_t N c1) (rC_t c1) (by decide) (by decide) (by decide)) (fun r2 m2 q2 => ?_)
    obtain ⟨q2, e2⟩ := q2
    have c2 := rC_T c1 q2
    rw [show tsk b n (tS tbl b n pr) = tsk b n pr from ids] at c2
    rw [show twd b n (tS tbl b n pr) = twd b n pm from (twd_id b n pr).trans (twd_eq a4)] at e2
    dsimp only
    rcases e2 with ⟨rfl, e2⟩ | ⟨rfl, e2⟩
    · refine xP_i (fun _ => ?_) (fun c => absurd c (by decide))
      have tl : tlnd b n pm k ou [] cl = if 12 ≤ cl then .inl (1 + 8 * (tsk b n pm : Int) + 4) else .inr (tle b n pm, k, ou, [], cl + 1, 2, 0) := by
        unfold tlnd
        rw [e2, show tix tLend tw1002 = some 0 by decide]
      have len : tS tlt b n (tsk b n pm) - tsk b n pm = 4 := tw_eq e2
      have h11 := c2.2.2.2.2.2.2.2.2.2.2.1
      unfold D195_56 D195_71
      refine xP_i (fun _ => ?_) (fun c => absurd c (by decide))
      refine xP_i (fun c => ?_) (fun c => ?_)
      · have c : (m2.1 70 14).toInt ≠ 12 := zt c
        have cl12 : ¬ 12 ≤ cl := by omega
        refine xP_i (fun _ => ?_) (fun c => absurd c (by decide))
        have c3 := rC_ln (v := m2.1 70 14 + 1) (x := ((cl + 1 : Nat) : Int)) c2 ((xa1 (by show _ ≤ _ + (1 : Int); omega) (by show _ + (1 : Int) ≤ _; omega)).trans (by rw [h11]; rfl)) (by omega) (by omega)
        have el : tle b n pm = tS tlt b n (tsk b n pr) := by
          show tS tlt b n (tsk b n pm) = _
          rw [a4]
        have gpm : pm ≤ tsk b n pm := tS_ge pm
        refine xP_b (R185x (s0 := (pm, k, ou, [], cl, 0, wh)) (pm0 := pm) (cl := cl + 1) (rp := rp) (ou := ou) (pr := tsk b n pr) (k := k) hF N ht hT (by omega) (stn_1 (stp.trans (tl.trans ((if_neg cl12).trans (by rw [el]))))) (by rw [← a4] at len; omega) (by rw [← a4] at len; exact ⟨a5.1, by omega⟩) a6 c3) (fun v m4 q4 => ?_)
        rcases q4 with ⟨rfl, q4⟩ | ⟨rfl, pr', a, rct, rcs, b4, q4⟩
        · exact xP_g (show xbo (0 : Int32) = true by decide) (xP_r (Or.inl ⟨rfl, rZ_tr a1 a2 q4⟩))
        · exact xP_g (show xbo (1 : Int32) = true by decide) (xP_r (Or.inr ⟨rfl, by omega, pr', a, rct, rcs, b4, rDx_tr a1 a2 q4⟩))
      · have c : (m2.1 70 14).toInt = 12 := Decidable.not_not.mp (zf c)
        refine xP_b (R163c c2 (by omega) (by omega) (by decide) (by decide)) (fun r5 m5 q5 => ?_)
        obtain ⟨rfl, q5⟩ := q5
        refine xP_g (show xbo (0 : Int32) = true by decide) (xP_r (Or.inl ⟨rfl, j + 1, 1 + 8 * (tsk b n pm : Int) + 4, by omega, (stn_add j a1).trans (stn_1 (stp.trans (tl.trans (if_pos (by omega))))), by omega, ?_⟩))
        rw [h3.1] at q5
        rw [← a4]
        exact ⟨_, _, _, _, _, _, _, _, _, _, hT, q5⟩
    · refine xP_i (fun c => absurd c (by decide)) (fun _ => ?_)
      have tl : tlnd b n pm k ou [] cl = .inl (1 + 8 * (tsk b n pm : Int)) := by
        unfold tlnd
        rw [show tix (twd b n pm) tw1002 = none from tix_ne e2]
      refine xP_b (R163c c2 (by omega) (by omega) (by decide) (by decide)) (fun r5 m5 q5 => ?_)
      obtain ⟨rfl, q5⟩ := q5
      refine xP_g (show xbo (0 : Int32) = true by decide) (xP_r (Or.inl ⟨rfl, j + 1, 1 + 8 * (tsk b n pm : Int), by omega, (stn_add j a1).trans (stn_1 (stp.trans tl)), by omega, ?_⟩))
      rw [h3.1, show (1 + 8 * ((tS tbl b n pr : Nat) : Int) + (0 : Int32).toInt) = 1 + 8 * ((tS tbl b n pr : Nat) : Int) from Int.add_zero _] at q5
      rw [← a4]
      exact ⟨_, _, _, _, _, _, _, _, _, _, hT, q5⟩
  · have c : (m1.1 70 11).toInt = 6 := Decidable.not_not.mp (zf c)
    omega
/-- what readsAll comes to -/
def rEx (m0 : xS) (b : Nat → Int) (n t : Nat) (v : Int32) (m : xS) : Prop := (m.1 70 1).toInt = 0 ∧ xT m ∧ xfr ((70, 70, 1) :: rM) m0 m ∧ rO m0 t m ∧ ((v = 0 ∧ ∃ (J : Nat) (g : Int), J ≤ 401 ∧ g ≠ 0 ∧ stn b n J tS0 = .inl g ∧ (m.1 70 9).toInt = g) ∨ (v = 1 ∧ ∃ (J : Nat) (s : tSt) (L : cL), J ≤ 401 ∧ stn b n J tS0 = .inr s ∧ s.2.2.2.2.2.1 = 4 ∧ (m.1 70 9).toInt = 0 ∧ cOk L ∧ s.2.2.1 = cOu L ∧ ((cRp L).length ≤ 400 ∧ L.length ≤ 12) ∧ rK m t L))
theorem rO_70 {v : Int32} {j : Nat} (h : rO m0 t m) : rO m0 t (xu m 70 j v) := by
  have q : ∀ {i l : Nat}, i ≠ 70 → (xu m 70 j v).1 i l = m.1 i l := fun z => xu_o (fun y => z y.1)
  exact ⟨fun l hl => (q (by decide)).trans (h.1 l hl), fun l hl => ⟨(q (by decide)).trans (h.2.1 l hl).1, (q (by decide)).trans (h.2.1 l hl).2⟩, fun l hl => (q (by decide)).trans (h.2.2 l hl)⟩
theorem rEx_end {v1 : Int32} {nn tt p : Nat} {g nu k : Int} {rc : List Int} {cs : List (Int × Int × Int × Int)} {op : List Int} {dp ln : Int} (et : tt = t) (h : rC m0 nn tt p g nu k rc cs op dp ln m) (hJ : (g ≠ 0 ∧ ∃ J, J ≤ 401 ∧ stn b n J tS0 = .inl g) ∨ (g = 0 ∧ ∃ (J : Nat) (s : tSt) (L : cL), J ≤ 401 ∧ stn b n J tS0 = .inr s ∧ s.2.2.2.2.2.1 = 4 ∧ cOk L ∧ s.2.2.1 = cOu L ∧ ((cRp L).length ≤ 400 ∧ L.length ≤ 12) ∧ rc = cRp L ∧ cs = cCs L)) : xP (D196_88 F v1 m) (rEx m0 b n t) := by
  subst et
  have h4 := h.2.2.2.1
  have hO : rO m0 tt (xu m 70 1 0) := rO_70 h.2.2.2.2.2.2.2.2.2.2.2
  have b0 : xT (xu m 70 1 0) := xT_c h.1 (i := 70) (j := 1) rfl (by decide) (by decide)
  have f0 : xfr ((70, 70, 1) :: rM) m0 (xu m 70 1 0) := xfr_t (xfr_l (by decide) h.2.1) (xfr_u rfl)
  have e9 : ((xu m 70 1 0).1 70 9).toInt = g := (congrArg Int32.toInt (xu_o (by decide))).trans h4
  unfold D196_88
  rcases hJ with ⟨g0, J, j1, j2⟩ | ⟨g0, J, s, L, j1, j2, j3, j4, j5, j6, j7, j8⟩
  · refine xP_i (fun _ => xP_r ⟨rfl, b0, f0, hO, Or.inl ⟨rfl, J, g, j1, g0, j2, e9⟩⟩) (fun c => ?_)
    have c : (m.1 70 9).toInt = 0 := Decidable.not_not.mp (zf c)
    exact absurd (h4.symm.trans c) g0
  · refine xP_i (fun c => ?_) (fun _ => xP_r ⟨rfl, b0, f0, hO, Or.inr ⟨rfl, J, s, L, j1, j2, j3, e9.trans g0, j4, j5, j6, ?_⟩⟩)
    · have c : (m.1 70 9).toInt ≠ 0 := zt c
      exact absurd (h4.trans g0) c
    · subst j7
      subst j8
      have q : ∀ {i l : Nat}, i ≠ 70 → (xu m 70 1 0).1 i l = m.1 i l := fun z => xu_o (fun y => z y.1)
      have h7 := h.2.2.2.2.2.2.1
      have h8 := h.2.2.2.2.2.2.2.1
      rw [cCs_len] at h8
      exact ⟨⟨by rw [q (by decide)]; exact h7.1, (tk_c _ (fun l _ => q (by decide))).trans h7.2⟩, by rw [q (by decide)]; exact h8.1, (tq_c _ (fun l _ _ => q (by decide))).trans h8.2⟩
theorem rEx_f {f : Nat} (n4 : n ≤ 400) (hT : (m0.1 70 11).toInt = (t : Int)) (h : rZ m0 b n tS0 0 m) : xP (D196_35 F (f + 1) 0 m) (rEx m0 b n t) := by
  obtain ⟨J, g, a1, a2, a3, nn, tt, p, nu, k, rc, cs, op, dp, ln, a0, a4⟩ := h
  unfold D196_35 D196_66
  refine xP_i (fun _ => ?_) (fun c => absurd c (by decide))
  refine xP_i (fun _ => ?_) (fun c => absurd c (by decide))
  exact rEx_end (by omega) a4 (Or.inl ⟨a1, J, by omega, a2⟩)
theorem R196_35x (hF : 500 ≤ F) (N : rN m0 b n) (ht : t < 6) (hT : (m0.1 70 11).toInt = (t : Int)) : ∀ (f : Nat) {L : cL} {cl pr : Nat} {a : Int} {rct rcs : List Int} {m : xS}, rDx m0 b n t (cTu (cRp L).length a rct rcs :: cCs L) (cl : Int) (cRp L) (cOu L) tS0 0 cl pr a rct rcs m → ((a = 14 ∧ rct = []) ∨ a = 15) → cOk L → L.length + 1 = cl → cl ≤ 12 → 14 - cl < f → xP (D196_35 F f 1 m) (rEx m0 b n t) := by
  have n4 := N.2.1
  intro f
  induction f with
  | zero => intro L cl pr a rct rcs m _ _ _ _ _ l; omega
  | succ f ih =>
    intro L cl pr a rct rcs m h ha hL hc hl l
    obtain ⟨j, pm, k, nu, out, wait, op, wh, dp, a1, a2, a3, a4, a5, a6, a7, a8, a9, a10⟩ := h
    have prn : pr ≤ n := a10.2.2.1.2
    have gs : pr ≤ tsk b n pr := tS_ge pr
    have ids : tsk b n (tsk b n pr) = tsk b n pr := tS_id pr
    have hL2 : cOk ((a, rct, rcs) :: L) := fun q hq => by
      rcases List.mem_cons.mp hq with rfl | hq
      · exact ha
      · exact hL q hq
    have l400 : (cRp ((a, rct, rcs) :: L)).length ≤ 400 := by
      show (rct ++ (rcs ++ cRp L)).length ≤ 400
      rw [List.length_append, List.length_append]
      omega
    unfold D196_35
    refine xP_i (fun c => absurd c (by decide)) (fun _ => ?_)
    refine xP_b (R164 hF (rN_t N a10) (rC_t a10)) (fun v1 m1 q1 => ?_)
    obtain ⟨q1, e1⟩ := q1
    have c1 := rC_T a10 q1
    have h3 := c1.2.2.1
    have te : tstp b n (pm, k, out, wait, cl, 3, wh) = (if tsg b n (tsk b n pr) = 59 then .inr (tsk b n pr + 1, k, cOu ((a, rct, rcs) :: L), [], cl, 0, wh) else if tsg b n (tsk b n pr) = -1 then .inr (tsk b n pr, k, cOu ((a, rct, rcs) :: L), [], cl, 4, wh) else .inl (1 + 8 * (tsk b n pr : Int))) := by
      rw [a2]
      unfold tendc
      rw [← a5, a6, a7]
      rfl
    dsimp only
    refine xP_i (fun c => ?_) (fun c => ?_)
    · have c : v1.toInt ≠ 59 := zt c
      have c59 : ¬ tsg b n (tsk b n pr) = 59 := fun z => c (e1.trans z)
      rw [if_neg c59] at te
      unfold D196_66
      refine xP_i (fun c => absurd c (by decide)) (fun _ => ?_)
      refine xP_b (R164 hF (rN_t N c1) (rC_t c1)) (fun v2 m2 q2 => ?_)
      obtain ⟨q2, e2⟩ := q2
      have c2 := rC_T c1 q2
      rw [show tS tbl b n (tS tbl b n pr) = tsk b n pr from ids] at c2 e2
      have h32 := c2.2.2.1
      dsimp only
      refine xP_i (fun d => ?_) (fun d => ?_)
      · have d : v2.toInt = -1 := zt d
        rw [if_pos (e2.symm.trans d)] at te
        exact rEx_end rfl c2 (Or.inr ⟨rfl, j + 1, _, (a, rct, rcs) :: L, by omega, (stn_add j a1).trans (stn_1 te), rfl, hL2, rfl, ⟨l400, by rw [List.length_cons]; omega⟩, rfl, rfl⟩)
      · have d : v2.toInt ≠ -1 := zf d
        rw [if_neg (fun z => d (e2.trans z))] at te
        refine xP_b (R163c c2 (by omega) (by omega) (by decide) (by decide)) (fun r5 m5 q5 => ?_)
        obtain ⟨-, q5⟩ := q5
        rw [h32.1, show (1 + 8 * (tsk b n pr : Int) + (0 : Int32).toInt) = 1 + 8 * (tsk b n pr : Int) from Int.add_zero _] at q5
        exact rEx_end rfl q5 (Or.inl ⟨by omega, j + 1, by omega, (stn_add j a1).trans (stn_1 te)⟩)
    · have c : v1.toInt = 59 := Decidable.not_not.mp (zf c)
      have c59 : tsg b n (tsk b n pr) = 59 := e1.symm.trans c
      obtain ⟨lt, -⟩ := tsg_lt c59 (by decide)
      rw [if_pos c59] at te
      have hM := rC_T c1 (rT_p (v := m1.1 70 8 + 1) (x := tsk b n pr + 1) (rC_t c1) ((xa1 (by show _ ≤ _ + (1 : Int); omega) (by show _ + (1 : Int) ≤ _; omega)).trans (by rw [h3.1]; rfl)) n4 lt)
      refine xP_b (R195x (cs := cCs ((a, rct, rcs) :: L)) (rp := cRp ((a, rct, rcs) :: L)) (ou := cOu ((a, rct, rcs) :: L)) (cl := cl) (pr := tsk b n pr + 1) (s0 := tS0) (pm0 := 0) hF N ht hT ⟨j + 1, tsk b n pr + 1, k, nu, op, dp, wh, (stn_add j a1).trans (stn_1 te), by omega, Nat.le_refl _, rfl, ⟨cRp_ou _, ?_⟩, a9, by rw [cCs_len, List.length_cons]; exact hc, hl, hM⟩) (fun v m2 q2 => ?_)
      · show (rct.map tenc ++ (rcs.map tenc ++ cOu L)).length + 1 ≤ tsk b n pr + 1
        rw [List.length_append, List.length_append, List.length_map, List.length_map]
        omega
      · rcases q2 with ⟨rfl, q2⟩ | ⟨rfl, l2, pr', a', rct', rcs', l3, q2⟩
        · obtain ⟨f', rfl⟩ : ∃ f', f = f' + 1 := ⟨f - 1, by omega⟩
          exact rEx_f n4 hT q2
        · exact ih q2 l3 hL2 (by rw [List.length_cons]; omega) l2 (by omega)
/-- readsAll -/
theorem R196x (hF : 500 ≤ F) (N : rN m0 b n) (ht : t < 6) (hT : (m0.1 70 11).toInt = (t : Int)) (hX : xT m0) (h75 : m0.1 75 t = 0) : xP (D196 F m0) (rEx m0 b n t) := by
  have n4 := N.2.1
  have et : (m0.1 70 11).toNatClampNeg = t := by show (m0.1 70 11).toInt.toNat = t; omega
  unfold D196
  rw [et]
  refine xP_g (xib_t (by omega) (by omega)) ?_
  have b16 : 0 ≤ (m0.1 70 16).toInt ∧ (m0.1 70 16).toInt ≤ 400 := hX 70 16 (0, 400) rfl
  have X5 : xT (xu (xu (xu (xu (xu m0 73 t 0) 70 14 0) 70 8 0) 70 9 0) 70 12 0) := xT_c (xT_c (xT_c (xT_c (xT_c hX (rb73 ht) (by decide) (by decide)) (i := 70) (j := 14) rfl (by decide) (by decide)) (i := 70) (j := 8) rfl (by decide) (by decide)) (i := 70) (j := 9) rfl (by decide) (by decide)) (i := 70) (j := 12) rfl (by decide) (by decide)
  have q70 : ∀ {j : Nat}, j ≠ 14 → j ≠ 8 → j ≠ 9 → j ≠ 12 → (xu (xu (xu (xu (xu m0 73 t 0) 70 14 0) 70 8 0) 70 9 0) 70 12 0).1 70 j = m0.1 70 j := fun z1 z2 z3 z4 => (xu_o (fun z => z4 z.2)).trans ((xu_o (fun z => z3 z.2)).trans ((xu_o (fun z => z2 z.2)).trans ((xu_o (fun z => z1 z.2)).trans (xu_o (fun z => absurd z.1 (by decide))))))
  have qo : ∀ {i j : Nat}, i ≠ 70 → ¬ (i = 73 ∧ j = t) → (xu (xu (xu (xu (xu m0 73 t 0) 70 14 0) 70 8 0) 70 9 0) 70 12 0).1 i j = m0.1 i j := fun z1 z2 => (xu_o (fun z => z1 z.1)).trans ((xu_o (fun z => z1 z.1)).trans ((xu_o (fun z => z1 z.1)).trans ((xu_o (fun z => z1 z.1)).trans (xu_o z2))))
  have hC : rC m0 n t 0 0 (m0.1 70 10).toInt ((0 : Nat) : Int) [] [] (tk (m0.1 77) (m0.1 70 16).toInt.toNat) (m0.1 70 13).toInt ((0 : Nat) : Int) (xu (xu (xu (xu (xu m0 73 t 0) 70 14 0) 70 8 0) 70 9 0) 70 12 0) := by
    refine ⟨X5, xfr_t (xfr_t (xfr_t (xfr_t (xfr_u (by unfold yinM; rfl)) (xfr_u rfl)) (xfr_u rfl)) (xfr_u rfl)) (xfr_u rfl), ⟨?_, Nat.zero_le _⟩, ?_, congrArg Int32.toInt (q70 (by decide) (by decide) (by decide) (by decide)), ?_, ⟨?_, rfl⟩, ⟨?_, rfl⟩, ⟨?_, ?_⟩, congrArg Int32.toInt (q70 (by decide) (by decide) (by decide) (by decide)), ?_, ⟨fun j _ => qo (by decide) (fun z => absurd z.1 (by decide)), fun j hj => ⟨qo (by decide) (fun z => hj z.2), qo (by decide) (fun z => absurd z.1 (by decide))⟩, fun j _ => qo (by decide) (fun z => absurd z.1 (by decide))⟩⟩
    · rw [(xu_o (by decide)).trans ((xu_o (by decide)).trans (xu_s _ _ _ _))]
      rfl
    · rw [(xu_o (by decide)).trans (xu_s _ _ _ _)]
      rfl
    · rw [xu_s]
      rfl
    · rw [(xu_o (fun z => absurd z.1 (by decide))).trans ((xu_o (fun z => absurd z.1 (by decide))).trans ((xu_o (fun z => absurd z.1 (by decide))).trans ((xu_o (fun z => absurd z.1 (by decide))).trans (xu_s _ _ _ _))))]
      rfl
    · rw [qo (by decide) (fun z => absurd z.1 (by decide)), h75]
      rfl
    · rw [tk_len, q70 (by decide) (by decide) (by decide) (by decide)]
      omega
    · rw [tk_len]
      exact tk_c _ (fun j _ => qo (by decide) (fun z => absurd z.1 (by decide)))
    · rw [(xu_o (by decide)).trans ((xu_o (by decide)).trans ((xu_o (by decide)).trans (xu_s _ _ _ _)))]
      rfl
  refine xP_b (R195x (cs := cCs []) (rp := cRp []) (ou := cOu []) (cl := 0) (pr := 0) (s0 := tS0) (pm0 := 0) hF N ht hT ⟨0, 0, 0, _, _, _, 0, rfl, Nat.le_refl _, Nat.le_refl _, rfl, ⟨Nat.le_refl _, Nat.le_refl _⟩, Nat.zero_le _, rfl, Nat.zero_le _, hC⟩) (fun v m2 q2 => ?_)
  rcases q2 with ⟨rfl, q2⟩ | ⟨rfl, l2, pr', a', rct', rcs', l3, q2⟩
  · obtain ⟨f', rfl⟩ : ∃ f', F = f' + 1 := ⟨F - 1, by omega⟩
    exact rEx_f n4 hT q2
  · exact R196_35x hF N ht hT F (L := []) q2 l3 (fun q hq => by cases hq) rfl l2 (by omega)
/-- rule -/
theorem R197x {r : Nat} (hF : 500 ≤ F) (N : rN m b n) (hX : xT m) (hr : (m.1 70 2).toInt = (r : Int)) (r6 : r ≤ 6) : xP (D197 F m) (fun v m' => xT m' ∧ ((r = 6 ∧ v.toInt = -1 ∧ m' = m) ∨ (r < 6 ∧ (m'.1 70 1).toInt = 0 ∧ rO m r m' ∧ ((∃ (J : Nat) (g : Int), J ≤ 401 ∧ g ≠ 0 ∧ stn b n J tS0 = .inl g ∧ v.toInt = -2 - g ∧ (m'.1 70 2).toInt = (r : Int)) ∨ (∃ (J : Nat) (s : tSt) (L : cL), J ≤ 401 ∧ stn b n J tS0 = .inr s ∧ s.2.2.2.2.2.1 = 4 ∧ v.toInt = (r : Int) ∧ (m'.1 70 2).toInt = (r : Int) + 1 ∧ cOk L ∧ s.2.2.1 = cOu L ∧ ((cRp L).length ≤ 400 ∧ L.length ≤ 12) ∧ rK m' r L))))) := by
  unfold D197
  refine xP_i (fun c => ?_) (fun c => xP_r ⟨hX, Or.inl ⟨?_, by decide, rfl⟩⟩)
  · have c : (m.1 70 2).toInt ≠ 6 := zt c
    have er : (m.1 70 2).toNatClampNeg = r := by show (m.1 70 2).toInt.toNat = r; omega
    have lr : r < 6 := by omega
    rw [er]
    refine xP_g (xib_t (by omega) (by omega)) ?_
    have X2 : xT (xu (xu m 70 11 (m.1 70 2)) 75 r 0) := xT_c (xT_c hX (i := 70) (j := 11) rfl (by omega) (by omega)) (rb75 lr) (by decide) (by decide)
    have N2 : rN (xu (xu m 70 11 (m.1 70 2)) 75 r 0) b n := ⟨(congrArg Int32.toInt ((xu_o (fun z => absurd z.1 (by decide))).trans (xu_o (by decide)))).trans N.1, N.2.1, fun j hj => ⟨(N.2.2 j hj).1, (congrArg Int32.toInt ((xu_o (fun z => absurd z.1 (by decide))).trans (xu_o (fun z => absurd z.1 (by decide))))).trans (N.2.2 j hj).2⟩⟩
    have e11 : ((xu (xu m 70 11 (m.1 70 2)) 75 r 0).1 70 11).toInt = (r : Int) := (congrArg Int32.toInt ((xu_o (fun z => absurd z.1 (by decide))).trans (xu_s _ _ _ _))).trans hr
    have O1 : ∀ {i j : Nat}, i ≠ 70 → ¬ (i = 75 ∧ j = r) → (xu (xu m 70 11 (m.1 70 2)) 75 r 0).1 i j = m.1 i j := fun z1 z2 => (xu_o z2).trans (xu_o (fun z => z1 z.1))
    refine xP_b (R196x (t := r) hF N2 lr e11 X2 (xu_s _ _ _ _)) (fun v m2 q2 => ?_)
    obtain ⟨d1, d2, d3, d4, q2⟩ := q2
    have O2 : rO m r m2 := ⟨fun j hj => (d4.1 j hj).trans (O1 (by decide) (fun z => absurd z.1 (by decide))), fun j hj => ⟨(d4.2.1 j hj).1.trans (O1 (by decide) (fun z => absurd z.1 (by decide))), (d4.2.1 j hj).2.trans (O1 (by decide) (fun z => hj z.2))⟩, fun j hj => (d4.2.2 j hj).trans (O1 (by decide) (fun z => absurd z.1 (by decide)))⟩
    have e2 : (m2.1 70 2).toInt = (r : Int) := (congrArg Int32.toInt (d3.2 70 2 rfl)).trans ((congrArg Int32.toInt ((xu_o (fun z => absurd z.1 (by decide))).trans (xu_o (by decide)))).trans hr)
    dsimp only
    rcases q2 with ⟨rfl, J, g, j1, j2, j3, j4⟩ | ⟨rfl, J, s, L, j1, j2, j3, j4, j5, j6, j7, j8⟩
    · refine xP_i (fun c => absurd c (by decide)) (fun _ => xP_r ⟨d2, Or.inr ⟨lr, d1, O2, Or.inl ⟨J, g, j1, j2, j3, ?_, e2⟩⟩⟩)
      have b9 : 0 ≤ (m2.1 70 9).toInt ∧ (m2.1 70 9).toInt ≤ 4000 := d2 70 9 (0, 4000) rfl
      exact (xs1 (by show _ ≤ (-2 : Int) - _; omega) (by show (-2 : Int) - _ ≤ _; omega)).trans (by rw [j4]; rfl)
    · refine xP_i (fun _ => xP_r ?_) (fun c => absurd c (by decide))
      have e3 : (m2.1 70 2 + 1).toInt = (r : Int) + 1 := (xa1 (by show _ ≤ _ + (1 : Int); omega) (by show _ + (1 : Int) ≤ _; omega)).trans (by rw [e2]; rfl)
      have e4 : (m2.1 70 2 + 1 - 1).toInt = (r : Int) := (xs1 (by show _ ≤ _ - (1 : Int); omega) (by show _ - (1 : Int) ≤ _; omega)).trans (by rw [e3]; show (r : Int) + 1 - 1 = _; omega)
      have q : ∀ {i l : Nat}, i ≠ 70 → (xu m2 70 2 (m2.1 70 2 + 1)).1 i l = m2.1 i l := fun z => xu_o (fun y => z y.1)
      exact ⟨xT_c d2 (i := 70) (j := 2) rfl (by omega) (by omega), Or.inr ⟨lr, (congrArg Int32.toInt (xu_o (by decide))).trans d1, rO_70 O2, Or.inr ⟨J, s, L, j1, j2, j3, e4, (congrArg Int32.toInt (xu_s _ _ _ _)).trans e3, j5, j6, j7, rK_f (fun _ _ _ => q (by decide)) (q (by decide)) (q (by decide)) (fun _ _ _ => q (by decide)) j7.1 j7.2 j8⟩⟩⟩
  · have c : (m.1 70 2).toInt = 6 := Decidable.not_not.mp (zf c)
    omega
end RRX
