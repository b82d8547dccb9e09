/-! chain, as a pair. -/
/-- a pair that keeps the relation, and whose values come from the village alone -/
theorem eC {kc kr : Nat} {as : List Value} (P : lP MR kc kr as false) {Dc Dr : xS → Option (Int32 × xS)} (Zc : ∀ {hp : zHp}, yH0 hp → ∀ {y : Int32 × xS}, Dc (xof hp) = some y → zCan 20 kc (.ref 0 :: as) (xW hp (xof hp)) (some (.int y.1), xW hp y.2)) (Zr : ∀ {hp : zHp}, yH0 hp → ∀ {y : Int32 × xS}, Dr (xof hp) = some y → zCan 20 kr (.ref 70 :: as) (xW hp (xof hp)) (some (.int y.1), xW hp y.2)) (H2 : ∀ hp : zHp, MR hp → ∀ x z, zCan 20 kc (.ref 0 :: as) hp (some (.int x), z) → yH0 z) (V : ∀ m : xS, R32 (m.1 80) (m.1 10) → vI9 (m.1 80) → ∃ v m1, Dc m = some (v, m1) ∧ m1.1 80 = m.1 80 ∧ ∀ m2 : xS, m2.1 80 = m.1 80 → ∃ m3, Dr m2 = some (v, m3)) : lP MR kc kr as true := fun hp hI => by
  obtain ⟨x1, x2, z1, z2, a1, a2, a3, a4, a5, a6, a7, -⟩ := P hp hI
  obtain ⟨v, m1, hc, h80, hr⟩ := V (xof hp) hI.1.2.1.1 hI.1.2.1.2
  have u := Zc hI.1.1.1.1 hc
  rw [xW_of] at u
  have b2 := H2 hp hI _ _ a3
  have u := zCan_u a3 u
  cases u
  obtain ⟨m3, hm⟩ := hr (xof (xW hp m1)) (((xrw_of hI.1.1.1.1 m1).1 80 0 148 (by decide)).trans h80)
  have u := Zr b2 hm
  rw [xW_of] at u
  have u := zCan_u a5 u
  cases u
  exact ⟨_, _, _, _, a1, a2, a3, a4, a5, a6, a7, fun _ => rfl⟩
theorem eH2 {n1 : Nat} {sp1 : ySp} (T1 : yTs (yEA yAr) n1 sp1) {na : Nat} {bl : List Nat} (c1 : (eOk 0 na bl sp1.2.2.1 && (decide (n1 ≤ 20) && (decide (na + 1 ≤ sp1.2.1) && sp1.2.2.2.1.all eQok))) = true) (ys : List Int32) (hl : ys.length = na) (hb : ∀ s ∈ bl, ∀ y, ys[s]? = some y → 0 ≤ y.toInt ∧ y.toInt ≤ 1) : ∀ hp : zHp, MR hp → ∀ x z, zCan 20 sp1.1 (.ref 0 :: ys.map .int) hp (some (.int x), z) → yH0 z := fun hp hI x z h => by
  obtain ⟨x3, w1, b1, b2, -⟩ := eSp T1 c1 hI.1.1.1 hl hb
  have u := zCan_u h b1
  cases u
  exact b2.1
section PCHP
variable {s : Nat → Int32} {m : xS} {F : Nat}
theorem cho_f {t h N : Nat} {lg : Bool} : ∀ {r k : Nat} {q : Nat × Nat}, cho s t h N lg k r = some q → (List.range (N ^ q.1)).find? (chk s t h N q.1) = some q.2
  | 0, _, _, h => by cases h
  | r + 1, k, q, e => by
    have e : (match (List.range (N ^ (if lg = true then N - k else k))).find? (chk s t h N (if lg = true then N - k else k)) with
      | some c => some (if lg = true then N - k else k, c)
      | none => cho s t h N lg (k + 1) r) = some q := e
    split at e
    · next c hc =>
      cases e
      exact hc
    · exact cho_f e
/-- the first row listed is the first code's -/
theorem fst_row {N a o t h n c : Nat} (ea : (s (10 + 6 * t + 3)).toInt.toNat = a) (eo : (s (10 + 6 * t)).toInt.toNat = o) (n1 : 1 ≤ n) (y : (List.range (N ^ n)).find? (chk s t h N n) = some c) : ∃ L, ((rws N n).filter (rok s a (2 ^ a ||| 2 ^ o))).filter (fun r => rend a r == h) = dg N n c :: L := by
  have e : ff N n (fun l => rend a l == h && rok s a (2 ^ a ||| 2 ^ o) l) = some (dg N n c) := by
    have z : (fun c => rend a (dg N n c) == h && rok s a (2 ^ a ||| 2 ^ o) (dg N n c)) = chk s t h N n := funext fun c => (chk_R ea eo n1).symm
    rw [ff_code, z, y]
    rfl
  unfold ff at e
  rw [List.filter_filter]
  have f := List.head?_filter (l := rws N n) (p := fun l => rend a l == h && rok s a (2 ^ a ||| 2 ^ o) l)
  rw [e] at f
  cases w : (rws N n).filter (fun l => rend a l == h && rok s a (2 ^ a ||| 2 ^ o) l) with
  | nil =>
    rw [w] at f
    cases f
  | cons r L =>
    rw [w] at f
    cases f
    exact ⟨L, rfl⟩
theorem vChain (hF : 120000 ≤ F) {y1 y2 z y4 : Int32} {lg : Bool} (hv : zcmp .eq z 0 = !lg) (es : m.1 80 = s) (R : R32 s (m.1 10)) (I : vI s) : ∃ v m1, D141_0 F y1 y2 z y4 m = some (v, m1) ∧ m1.1 80 = m.1 80 ∧ ∀ m2 : xS, m2.1 80 = s → ∃ m3, D252 F y1 y2 z y4 m2 = some (v, m3) := by
  have l0 : (0 : Int32).toInt = 0 := rfl
  have l1 : (1 : Int32).toInt = 1 := rfl
  have l2 : (2 : Int32).toInt = 2 := rfl
  have l6 : (6 : Int32).toInt = 6 := rfl
  have lm : (-1 : Int32).toInt = -1 := rfl
  have n6 := I_n6 I
  have n2 := I_nt I
  unfold D141_0 D252
  by_cases p1 : pin s 2 y1 = true
  rotate_left
  · have p1 : pin s 2 y1 = false := by simpa using p1
    exact ⟨-3, m, ob (c83_9 R) (oT (zeT p1) rfl), rfl, fun m2 e2 => ⟨m2, ob r206 (oT (zeT (by rw [e2]; exact p1)) rfl)⟩⟩
  by_cases p2 : pin s 0 y2 = true
  rotate_left
  · have p2 : pin s 0 y2 = false := by simpa using p2
    exact ⟨-3, m, ob (c83_9 R) (oF (zeF p1) (ob (c85_9 R) (oT (zeT p2) rfl))), rfl, fun m2 e2 => ⟨m2, ob r206 (oF (zeF (by rw [e2]; exact p1)) (ob r205 (oT (zeT (by rw [e2]; exact p2)) rfl)))⟩⟩
  by_cases p4 : 0 ≤ y4.toInt ∧ y4.toInt ≤ 6
  rotate_left
  · refine ⟨-3, m, ob (c83_9 R) (oF (zeF p1) (ob (c85_9 R) (oF (zeF p2) ?_))), rfl, fun m2 e2 => ⟨m2, ob r206 (oF (zeF (by rw [e2]; exact p1)) (ob r205 (oF (zeF (by rw [e2]; exact p2)) (ob (r158 (x := 0) (y := 6) rfl rfl) (oF (znF ?_) rfl)))))⟩⟩
    · by_cases q : y4.toInt < 0
      · exact oT (zcl.trans (decide_eq_true (by omega))) rfl
      · exact oF (zcl.trans (decide_eq_false (by omega))) (oF (zcle.trans (decide_eq_false (by omega))) rfl)
    · rw [← Bool.not_eq_true, Bool.and_eq_true, decide_eq_true_eq, decide_eq_true_eq]
      exact p4
  obtain ⟨t, et, ht⟩ := pin_n p1
  obtain ⟨h, eh, hh⟩ := pin_n p2
  subst et eh
  have t6 : t < 6 := by omega
  have hI := I.2.1 t ht
  obtain ⟨N, eN⟩ : ∃ N : Nat, (s 0).toInt = (N : Int) := ⟨(s 0).toInt.toNat, by omega⟩
  obtain ⟨a, ea⟩ : ∃ a : Nat, (s (10 + 6 * t + 3)).toInt = (a : Int) := ⟨(s (10 + 6 * t + 3)).toInt.toNat, by omega⟩
  obtain ⟨o, eo⟩ : ∃ o : Nat, (s (10 + 6 * t)).toInt = (o : Int) := ⟨(s (10 + 6 * t)).toInt.toNat, by omega⟩
  have fa := i32n ea
  have fo := i32n eo
  have eh := nJ (n := h) (by omega)
  have inj : ∀ {x y : Nat}, x < 6 → y < 6 → (Int32.ofNat x = Int32.ofNat y ↔ x = y) := fun {x y} hx hy => xeq (by omega) (by omega)
  obtain ⟨m1, d1, d2, d3⟩ := meas_44_9 (F := F) (m := m) (by omega) n6 R t6 hI.1 hI.2.1
  obtain ⟨v45, v46⟩ := d2 h hh
  have R1 : R32 s (m1.1 10) := by rw [d3.1 10 (by decide) (by decide) (by decide)]; exact R
  have s1 : m1.1 80 = m.1 80 := d3.1 80 (by decide) (by decide) (by decide)
  -- the class: what was measured, and what comes of it
  have pre : ∀ {v : Int32} {m' : xS}, D141_0_74 F (Int32.ofNat t) (Int32.ofNat h) z y4 (cvl s t h lg) m1 = some (v, m') → ((D83_9 F (Int32.ofNat t) m).bind fun q5 =>
    if zcmp .eq q5.1 0 = true then
      D141_0_34 F (Int32.ofNat t) (Int32.ofNat h) z y4 q5.2
    else
      (D85_9 F (Int32.ofNat h) q5.2).bind fun q16 =>
        if zcmp .eq q16.1 0 = true then
          D141_0_34 F (Int32.ofNat t) (Int32.ofNat h) z y4 q16.2
        else
          if zcmp .lt y4 0 = true then
            D141_0_34 F (Int32.ofNat t) (Int32.ofNat h) z y4 q16.2
          else
            if zcmp .le y4 6 = true then
              (D1_44_9 F (Int32.ofNat t) q16.2).bind fun q46 =>
                if zcmp .eq z 0 = true then
                  if xib (Int32.ofNat h) 6 = true then
                    D141_0_74 F (Int32.ofNat t) (Int32.ofNat h) z y4 (q46.2.1 46 (Int32.ofNat h : Int32).toNatClampNeg) q46.2
                  else none
                else
                  if xib (Int32.ofNat h) 6 = true then
                    D141_0_74 F (Int32.ofNat t) (Int32.ofNat h) z y4 (q46.2.1 45 (Int32.ofNat h : Int32).toNatClampNeg) q46.2
                  else none
            else
              D141_0_34 F (Int32.ofNat t) (Int32.ofNat h) z y4 q16.2) = some (v, m') := fun {v m'} k => by
    refine ob (c83_9 R) (oF (zeF p1) (ob (c85_9 R) (oF (zeF p2) (oF (zcl.trans (decide_eq_false (by omega))) (oT (zcle.trans (decide_eq_true (by omega))) (ob d1 ?_))))))
    cases lg with
    | false =>
      refine oT hv (oT (gxb eh (by omega)) ?_)
      rw [gxn eh, v46]
      exact k
    | true =>
      refine oF hv (oT (gxb eh (by omega)) ?_)
      rw [gxn eh, v45]
      exact k
  have preR : ∀ {m2 : xS}, m2.1 80 = s → ∀ {β : Type} {k : Int32 × xS → Option (β × xS)}, True := fun _ => trivial
  by_cases c1 : o = h
  · -- the owner's house
    subst c1
    have nR : ∀ {m2 : xS}, m2.1 80 = s → zcmp .ne (m2.1 80 (10 + 6 * t + 0)) (Int32.ofNat o) = false := fun {m2} e2 => by
      rw [e2, Nat.add_zero, fo, zcn, beq_self_eq_true]
      rfl
    have ph : phm s t = decide (a = o) := by
      unfold phm
      rw [fa, fo]
      by_cases y : a = o
      · rw [y, beq_self_eq_true, decide_eq_true rfl]
      · rw [beq_eq_false_iff_ne.mpr (fun z => y ((inj (by omega) (by omega)).mp z)), decide_eq_false y]
    have cv : cvl s t o lg = if a = o then 0 else -1 := by
      unfold cvl
      rw [fa, fo]
      by_cases y : a = o
      · rw [if_pos (by rw [y]), if_pos y]
      · rw [if_neg (fun z => y ((inj (by omega) (by omega)).mp z)), if_pos rfl, if_neg y]
    by_cases y : a = o
    · rw [if_pos y] at cv
      rw [decide_eq_true y] at ph
      have p0 : psh s t 0 = 0 := if_pos ⟨rfl, ph⟩
      by_cases q : y4.toInt < 2
      · refine ⟨0, m1, pre ?_, s1, fun m2 e2 => ⟨m2, ob r206 (oF (zeF (by rw [e2]; exact p1)) (ob r205 (oF (zeF (by rw [e2]; exact p2)) (ob (r158 (x := 0) (y := 6) rfl rfl) (oT (znT (by rw [decide_eq_true p4.1, decide_eq_true p4.2]; rfl)) (ob (r208 (t := t) (w := 0) rfl rfl t6 (by decide)) (oF (nR e2) (oF (zc.trans (decide_eq_false (by omega))) (ob (r212 (t := t) rfl t6) (oF (zeF (by rw [e2]; exact ph)) rfl))))))))))⟩⟩
        rw [cv]
        unfold D141_0_74
        refine oT (by decide) ?_
        by_cases w : y4 = 0
        · rw [w]
          exact oF (by decide) rfl
        · have w1 : y4 = 1 := by
            apply Int32.toInt_inj.mp
            have : y4.toInt ≠ 0 := fun z => w (Int32.toInt_inj.mp (z.trans l0.symm))
            omega
          rw [w1]
          refine oT (by decide) (oF (by decide) (ob (c100_9 R1 I (t := t) rfl ht) ?_))
          rw [p0]
      · refine ⟨-2, m1, pre ?_, s1, fun m2 e2 => ⟨m2, ob r206 (oF (zeF (by rw [e2]; exact p1)) (ob r205 (oF (zeF (by rw [e2]; exact p2)) (ob (r158 (x := 0) (y := 6) rfl rfl) (oT (znT (by rw [decide_eq_true p4.1, decide_eq_true p4.2]; rfl)) (ob (r208 (t := t) (w := 0) rfl rfl t6 (by decide)) (oF (nR e2) (oT (zc.trans (decide_eq_true (by omega))) rfl))))))))⟩⟩
        rw [cv]
        unfold D141_0_74
        have e42 : (y4 - 2).toInt = y4.toInt - 2 := by
          rw [xs1 (by omega) (by omega), l2]
        exact oT (by decide) (oT ((zcni (y := 0) rfl).trans (by rw [decide_eq_false (by omega)]; rfl)) (oT ((zcni (y := 1) rfl).trans (by rw [decide_eq_false (by omega)]; rfl)) (oF (zcl.trans (decide_eq_false (by omega))) rfl)))
    · rw [if_neg y] at cv
      rw [decide_eq_false y] at ph
      refine ⟨-2, m1, pre ?_, s1, fun m2 e2 => ⟨m2, ob r206 (oF (zeF (by rw [e2]; exact p1)) (ob r205 (oF (zeF (by rw [e2]; exact p2)) (ob (r158 (x := 0) (y := 6) rfl rfl) (oT (znT (by rw [decide_eq_true p4.1, decide_eq_true p4.2]; rfl)) (ob (r208 (t := t) (w := 0) rfl rfl t6 (by decide)) (oF (nR e2) ?_)))))))⟩⟩
      · rw [cv]
        unfold D141_0_74
        exact oF (by decide) rfl
      · by_cases q : y4.toInt < 2
        · exact oF (zc.trans (decide_eq_false (by omega))) (ob (r212 (t := t) rfl t6) (oT (zeT (by rw [e2]; exact ph)) rfl))
        · exact oT (zc.trans (decide_eq_true (by omega))) rfl
  · -- another house
    have nR : ∀ {m2 : xS}, m2.1 80 = s → zcmp .ne (m2.1 80 (10 + 6 * t + 0)) (Int32.ofNat h) = true := fun {m2} e2 => by
      rw [e2, Nat.add_zero, fo, zcn, beq_eq_false_iff_ne.mpr (fun z => c1 ((inj (by omega) (by omega)).mp z))]
      rfl
    have c251 : ∀ m2 : xS, m2.1 80 = s → ∃ m', D251 F (Int32.ofNat t) (Int32.ofNat h) z m2 = some (cvl s t h lg, m') ∧ m'.1 80 = s ∧ (¬ a = h → ∀ q, cho s t h N lg 1 (N - 1) = some q → m'.1 70 27 = Int32.ofNat q.2) := fun m2 e2 => by
      obtain ⟨m', k1, k2, k3⟩ := r251 (F := F) (m := m2) (t := t) (h := h) hv hF (by rw [e2]; exact I) (by rw [e2]; exact ht) (by rw [e2]; exact hh)
      rw [e2] at k1 k3
      rw [show (s 0).toInt.toNat = N by omega] at k3
      exact ⟨m', k1, (funext fun j => k2.1 80 j (fun z => absurd z.1 (by decide))).trans e2, fun ne => k3 (by rw [fa]; exact fun z => ne ((inj (by omega) (by omega)).mp z)) (by rw [fo]; exact fun z => c1 ((inj (by omega) (by omega)).mp z))⟩
    -- the reference, up to what chainOf says
    have preR : ∀ {v : Int32} {m2 m' m3 : xS}, m2.1 80 = s → D251 F (Int32.ofNat t) (Int32.ofNat h) z m2 = some (cvl s t h lg, m') → (if zcmp .ge (cvl s t h lg) 0 = true then
                      if zcmp .ge y4 2 = true then
                        if zcmp .ge (y4 - 2) (cvl s t h lg) = true then
                          some ((-2), m')
                        else
                          (D236 F (m'.1 70 27) (cvl s t h lg) (y4 - 2) m').bind fun q124 =>
                            some (q124.1, q124.2)
                      else
                        if zcmp .ne y4 0 = true then
                          (D214 F (Int32.ofNat t) (cvl s t h lg) m').bind fun q100 =>
                            some (q100.1, q100.2)
                        else
                          some (cvl s t h lg, m')
                    else
                      some ((-2), m')) = some (v, m3) → ((D206 F (Int32.ofNat t) m2).bind fun q2 =>
    if zcmp .eq q2.1 0 = true then
      D252_29 F (Int32.ofNat t) (Int32.ofNat h) z y4 q2.2
    else
      (D205 F (Int32.ofNat h) q2.2).bind fun q10 =>
        if zcmp .eq q10.1 0 = true then
          D252_29 F (Int32.ofNat t) (Int32.ofNat h) z y4 q10.2
        else
          (D158 F (y4 : Int32).toInt64 0 6 q10.2).bind fun q23 =>
            if zcmp .ne q23.1 0 = true then
              (D208 F (Int32.ofNat t) 0 q23.2).bind fun q35 =>
                if zcmp .ne q35.1 (Int32.ofNat h) = true then
                  (D251 F (Int32.ofNat t) (Int32.ofNat h) z q35.2).bind fun q67 =>
                    if zcmp .ge q67.1 0 = true then
                      if zcmp .ge y4 2 = true then
                        if zcmp .ge (y4 - 2) q67.1 = true then
                          some ((-2), q67.2)
                        else
                          (D236 F (q67.2.1 70 27) q67.1 (y4 - 2) q67.2).bind fun q124 =>
                            some (q124.1, q124.2)
                      else
                        if zcmp .ne y4 0 = true then
                          (D214 F (Int32.ofNat t) q67.1 q67.2).bind fun q100 =>
                            some (q100.1, q100.2)
                        else
                          some (q67.1, q67.2)
                    else
                      some ((-2), q67.2)
                else
                  if zcmp .ge y4 2 = true then
                    D252_60 F (Int32.ofNat t) (Int32.ofNat h) z y4 q35.2
                  else
                    (D212 F (Int32.ofNat t) q35.2).bind fun q50 =>
                      if zcmp .eq q50.1 0 = true then
                        D252_60 F (Int32.ofNat t) (Int32.ofNat h) z y4 q50.2
                      else
                        some (0, q50.2)
            else
              D252_29 F (Int32.ofNat t) (Int32.ofNat h) z y4 q23.2) = some (v, m3) := fun {v m2 m' m3} e2 k1 k => ob r206 (oF (zeF (by rw [e2]; exact p1)) (ob r205 (oF (zeF (by rw [e2]; exact p2)) (ob (r158 (x := 0) (y := 6) rfl rfl) (oT (znT (by rw [decide_eq_true p4.1, decide_eq_true p4.2]; rfl)) (ob (r208 (t := t) (w := 0) rfl rfl t6 (by decide)) (oT (nR e2) (ob k1 k))))))))
    have e42 : (y4 - 2).toInt = y4.toInt - 2 := by
      rw [xs1 (by omega) (by omega), l2]
    by_cases c0 : 0 ≤ (cvl s t h lg).toInt
    rotate_left
    · refine ⟨-2, m1, pre ?_, s1, fun m2 e2 => ?_⟩
      · unfold D141_0_74
        exact oF (zc.trans (decide_eq_false (by omega))) rfl
      · obtain ⟨m', k1, k2, k3⟩ := c251 m2 e2
        exact ⟨m', preR e2 k1 (oF (zc.trans (decide_eq_false (by omega))) rfl)⟩
    have g0 : zcmp .ge (cvl s t h lg) 0 = true := zc.trans (decide_eq_true (by omega))
    by_cases q2 : y4.toInt < 2
    · by_cases w : y4 = 0
      · refine ⟨cvl s t h lg, m1, pre ?_, s1, fun m2 e2 => ?_⟩
        · unfold D141_0_74
          rw [w]
          exact oT g0 (oF (by decide) rfl)
        · obtain ⟨m', k1, k2, k3⟩ := c251 m2 e2
          exact ⟨m', preR e2 k1 (by rw [w]; exact oT g0 (oF (by decide) (oF (by decide) rfl)))⟩
      · have w1 : y4 = 1 := by
          apply Int32.toInt_inj.mp
          have : y4.toInt ≠ 0 := fun z => w (Int32.toInt_inj.mp (z.trans l0.symm))
          omega
        refine ⟨psh s t (cvl s t h lg), m1, pre ?_, s1, fun m2 e2 => ?_⟩
        · unfold D141_0_74
          rw [w1]
          exact oT g0 (oT (by decide) (oF (by decide) (ob (c100_9 R1 I (t := t) rfl ht) rfl)))
        · obtain ⟨m', k1, k2, k3⟩ := c251 m2 e2
          have r := r214 (F := F) (m := m') (t := t) (v2 := cvl s t h lg) rfl t6
          rw [k2] at r
          exact ⟨m', preR e2 k1 (by rw [w1]; exact oT g0 (oF (by decide) (oT (by decide) (ob r rfl))))⟩
    · have g4 : zcmp .ge y4 2 = true := zc.trans (decide_eq_true (by omega))
      have h0 : zcmp .ne y4 0 = true := (zcni (y := 0) rfl).trans (by rw [decide_eq_false (by omega)]; rfl)
      have h1 : zcmp .ne y4 1 = true := (zcni (y := 1) rfl).trans (by rw [decide_eq_false (by omega)]; rfl)
      by_cases q3 : (cvl s t h lg).toInt ≤ y4.toInt - 2
      · refine ⟨-2, m1, pre ?_, s1, fun m2 e2 => ?_⟩
        · unfold D141_0_74
          exact oT g0 (oT h0 (oT h1 (oF (zcl.trans (decide_eq_false (by omega))) rfl)))
        · obtain ⟨m', k1, k2, k3⟩ := c251 m2 e2
          exact ⟨m', preR e2 k1 (oT g0 (oT g4 (oT (zc.trans (decide_eq_true (by omega))) rfl)))⟩
      · -- a house of the first row
        have c2 : ¬ a = h := fun y => by
          have e : cvl s t h lg = 0 := by
            unfold cvl
            rw [fa, if_pos (by rw [y])]
          rw [e] at q3
          omega
        have e3 : cvl s t h lg = match cho s t h N lg 1 (N - 1) with
          | some q => Int32.ofNat q.1
          | none => -1 := by
          unfold cvl
          rw [fa, fo, if_neg (fun z => c2 ((inj (by omega) (by omega)).mp z)), if_neg (fun z => c1 ((inj (by omega) (by omega)).mp z)), show (s 0).toInt.toNat = N by omega]
          cases cho s t h N lg 1 (N - 1) <;> rfl
        cases y : cho s t h N lg 1 (N - 1) with
        | none =>
          rw [y] at e3
          have e3 : cvl s t h lg = -1 := e3
          rw [e3, lm] at c0
          omega
        | some q =>
          rw [y] at e3
          have e3 : cvl s t h lg = Int32.ofNat q.1 := e3
          obtain ⟨b1, b2, b3⟩ := cho_i y (by omega) (Nat.le_refl _)
          have eq1 := nJ (n := q.1) (by omega)
          rw [e3, eq1] at q3
          obtain ⟨k, ek⟩ : ∃ k : Nat, y4.toInt - 2 = (k : Int) := ⟨(y4.toInt - 2).toNat, by omega⟩
          have fk : y4 - 2 = Int32.ofNat k := i32n (e42.trans ek)
          obtain ⟨L, eL⟩ := fst_row (s := s) (N := N) (a := a) (o := o) (t := t) (h := h) (by omega) (by omega) b1.1 (cho_f y)
          obtain ⟨m4, w1, w2, w3⟩ := c7r (s := s) (F := F) (m := m1) (N := N) (by omega) (i32n eN) (by omega) (st := a) (tg := h) (w := q.1) (ow := o) (by omega) (by omega) (by omega) (by omega) R1
          rw [eL] at w2
          have w48 := w2.2.2.2.2 k (by omega)
          rw [dg_getD (by omega)] at w48
          have p6 : N ^ q.1 ≤ 117649 := p6b (by omega) (by omega)
          refine ⟨Int32.ofNat (dgt N q.1 q.2 k), m4, pre ?_, (w3.1 80 (by decide) (by decide) (by decide)).trans s1, fun m2 e2 => ?_⟩
          · unfold D141_0_74
            refine oT g0 (oT h0 (oT h1 (oT (zcl.trans (decide_eq_true (by rw [e3]; omega))) ?_)))
            have r3 := c87_9 (F := F) R1 (t := t) (w := 3) rfl rfl t6 (by decide)
            have r0 := c87_9 (F := F) R1 (t := t) (w := 0) rfl rfl t6 (by decide)
            rw [fa] at r3
            rw [show 10 + 6 * t + 0 = 10 + 6 * t from rfl, fo] at r0
            have d5 : D5_44_9 F (Int32.ofNat t) (Int32.ofNat h) (cvl s t h lg) m1 = some ((), m4) := by
              unfold D5_44_9
              rw [e3]
              exact ob r3 (ob r0 (ob w1 rfl))
            refine ob d5 ?_
            rw [fk, if_pos (gxb (nJ (n := k) (by omega)) (by omega)), gxn (nJ (n := k) (by omega)), w48]
          · obtain ⟨m', k1, k2, k3⟩ := c251 m2 e2
            have z := k3 c2 q y
            have r := r236 (F := F) (m := m') (c := q.2) (n := q.1) (N := N) (k := k) (v1 := m'.1 70 27) (v2 := cvl s t h lg) (v3 := y4 - 2) (by omega) z e3 fk (by rw [k2]; exact i32n eN) (by omega) (by omega) (by omega) (by omega) (by omega)
            exact ⟨m', preR e2 k1 (oT g0 (oT g4 (oF (zc.trans (decide_eq_false (by rw [e3]; omega))) (ob r rfl))))⟩
end PCHP
theorem nChain {y1 y2 y3 y4 : Int32} : lP MR 141 252 [.int y1, .int y2, .int (if y3 = 0 then 0 else 1), .int y4] true := eC (as := [y1, y2, (if y3 = 0 then 0 else 1), y4].map .int) M16 (Dc := D141_0 200000 y1 y2 (if y3 = 0 then 0 else 1) y4) (Dr := D252 200000 y1 y2 (if y3 = 0 then 0 else 1) y4) (fun {_} H {_} h => Z141_0 H h (by decide)) (fun {_} H {_} h => Z252 H h (by decide)) (eH2 (yt1247 yXx.1) (na := 4) (bl := [2]) (by decide +kernel) [y1, y2, (if y3 = 0 then 0 else 1), y4] rfl (fun s hs z hz => by
    have hs : s = 2 := by simpa using hs
    subst hs
    cases hz
    split <;> decide)) (fun m R I => by
  by_cases c : y3 = 0
  · rw [if_pos c]
    exact vChain (F := 200000) (by decide) (lg := false) (by decide) rfl R I.1
  · rw [if_neg c]
    exact vChain (F := 200000) (by decide) (lg := true) (by decide) rfl R I.1)
