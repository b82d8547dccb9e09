/-! The class's reader of rules, second half: a turn of its loop is a step of the machine. -/
theorem tix1 {w v : List Int} {u : Nat} (h : tix w [v] = some u) : w = v ∧ u = 0 := by
  unfold tix at h
  split at h
  · next e => exact ⟨e.symm, (Option.some.inj h).symm⟩
  · cases h
theorem tix2 {w v1 v2 : List Int} {u : Nat} (h : tix w [v1, v2] = some u) : (w = v1 ∧ u = 0) ∨ (w = v2 ∧ u = 1) := by
  unfold tix at h
  split at h
  · next e => exact Or.inl ⟨e.symm, (Option.some.inj h).symm⟩
  · cases t : tix w [v2] with
    | none => rw [t] at h; cases h
    | some t2 =>
      obtain ⟨e, z⟩ := tix1 t
      rw [t, z] at h
      exact Or.inr ⟨e, (Option.some.inj h).symm⟩
theorem tw_eq {b : Nat → Int} {p e : Nat} {v : List Int} (h : tw b p e = v) : e - p = v.length := by
  rw [← h, tw_len]
theorem tendc_id (b : Nat → Int) (n : Nat) (a : Int) (p k : Nat) (out wait : List Int) (cl wh : Nat) : tendc b n a (tS tbl b n p) k out wait cl wh = tendc b n a p k out wait cl wh := by
  unfold tendc tsk
  rw [tS_id]
theorem tsg_lt {b : Nat → Int} {n p : Nat} {c : Int} (h : tsg b n p = c) (hc : c ≠ -1) : p < n ∧ b p = c := by
  unfold tsg at h
  split at h
  · next l => exact ⟨l, h⟩
  · exact absurd h.symm hc
section KST
variable {m0 m : xS} {b : Nat → Int} {n p bg k cl wh : Nat} {out wait : List Int} {F : Nat}
/-- readLend -/
theorem P34 {ww : Int} (hF : 500 ≤ F) (N : kN m0 b n) (h : kC m0 n p bg 0 out wait (cl : Int) (k : Int) (tdp wait : Int) (tbr wait : Int) ((0 : Nat) : Int) ww m) (I : kI (p, k, out, wait, cl, 0, wh)) : xP (D34_6_2 F m) (fun _ m' => kR m0 n (tlnd b n p k out wait cl) m') := by
  obtain ⟨i1, i2, i3, i4⟩ := I
  have i1 : out.length + wait.length + 0 ≤ p := i1
  have i2 : k ≤ 60 := i2
  have i3 : cl ≤ 12 := i3
  have n4 := N.2.1
  have pn : p ≤ n := h.2.2.1.2
  have g1 : p ≤ tS tbl b n p := tS_ge p
  have g2 : tS tbl b n p ≤ n := tS_le p pn
  have fin : ∀ {p' bg' : Nat} {ft : Int} {m : xS}, kC m0 n p' bg' ft out wait (cl : Int) (k : Int) (tdp wait : Int) (tbr wait : Int) ((0 : Nat) : Int) ww m → kC m0 n p' bg' ft out wait ((cl + 1 : Nat) : Int) (k : Int) (tdp wait : Int) (tbr wait : Int) ((2 : Nat) : Int) ((0 : Nat) : Int) (xu (xu (xu m 6 4 ((m.1 6 4) + 1)) 6 9 0) 6 8 2) := fun {p' bg' ft m} h => by
    have h8 := h.2.2.2.2.2.2.2.1
    exact kC_ex (kC_wh (kC_cl h ((xa1 (by show _ ≤ _ + (1 : Int); omega) (by show _ + (1 : Int) ≤ _; omega)).trans (by rw [h8]; rfl))) rfl) rfl
  unfold D34_6_2 D34_6_2_25
  refine xP_b (P60_1002 hF N h) (fun v m1 q => ?_)
  rcases q with ⟨u, a1, a2, a3⟩ | ⟨a1, a2, a3⟩
  · have h8 := a3.2.2.2.2.2.2.2.1
    have h4 := a3.2.2.2.1
    have tl : tlnd b n p k out wait cl = if 12 ≤ cl then .inl (1 + 8 * (tsk b n p : Int) + 4) else .inr (tle b n p, k, out, wait, cl + 1, 2, 0) := by
      unfold tlnd
      have a1 : tix (twd b n p) tw1002 = some u := a1
      rw [a1]
    have e4 : tS tlt b n (tS tbl b n p) - tS tbl b n p = 4 := tw_eq (tix1 a1).1
    rw [tl]
    dsimp only
    refine xP_i (fun c => xP_r ?_) (fun c => ?_)
    · have c : (m1.1 6 4).toInt < 12 := zt c
      rw [if_neg (by omega)]
      exact ⟨⟨_, fin a3⟩, by show out.length + wait.length + 1 ≤ tS tlt b n (tS tbl b n p); omega, i2, by show cl + 1 ≤ 12; omega, i4⟩
    · have c : ¬ (m1.1 6 4).toInt < 12 := zf c
      rw [if_pos (by omega)]
      refine xP_b (P52 a3 (by omega) (by omega) (by decide) (by decide)) (fun _ m2 q2 => xP_r ?_)
      rw [h4, show trf 0 (1 + 8 * ((tS tbl b n p : Nat) : Int) + (4 : Int32).toInt) = 1 + 8 * ((tS tbl b n p : Nat) : Int) + 4 from if_pos rfl] at q2
      exact ⟨by show 1 + 8 * ((tS tbl b n p : Nat) : Int) + 4 ≠ 0; omega, _, _, _, _, _, _, _, _, _, _, fin q2⟩
  · have h4 := a3.2.2.2.1
    have tl : tlnd b n p k out wait cl = .inl (1 + 8 * (tsk b n p : Int)) := by
      unfold tlnd
      have a1 : tix (twd b n p) tw1002 = none := a1
      rw [a1]
    have e5 : trf 0 (1 + 8 * (tS tbl b n p : Int)) = 1 + 8 * (tS tbl b n p : Int) := if_pos rfl
    rw [e5] at a3
    have ne : 1 + 8 * ((tS tbl b n p : Nat) : Int) ≠ 0 := by omega
    rw [tl]
    dsimp only
    refine xP_i (fun c => xP_r ⟨ne, _, _, _, _, _, _, _, _, _, _, fin a3⟩) (fun c => ?_)
    refine xP_b (P52 a3 (by omega) (by omega) (by decide) (by decide)) (fun _ m2 q2 => xP_r ?_)
    rw [show ∀ x, trf (1 + 8 * ((tS tbl b n p : Nat) : Int)) x = 1 + 8 * ((tS tbl b n p : Nat) : Int) from fun x => if_neg ne] at q2
    exact ⟨ne, _, _, _, _, _, _, _, _, _, _, fin q2⟩
/-- readValue, as a step -/
theorem P36s {ex : Int} (hF : 500 ≤ F) (N : kN m0 b n) (h : kC m0 n p bg 0 out wait (cl : Int) (k : Int) (tdp wait : Int) (tbr wait : Int) ex (wh : Int) m) (i1 : out.length + wait.length + 1 ≤ p) (i2 : k ≤ 60) (i3 : cl ≤ 12) (i4 : ∀ w ∈ wait, 0 ≤ w ∧ w ≤ (13 : Int)) : xP (D36_6_2 F m) (fun _ m' => kR m0 n (tvs b n p k out wait cl wh) m') := by
  have n4 := N.2.1
  have pn : p ≤ n := h.2.2.1.2
  have g1 : p ≤ tS tbl b n p := tS_ge p
  refine xP_m (P36 hF N h (by omega) i2) (fun _ m' q => ?_)
  rcases q with ⟨f, a1, a2, a3⟩ | ⟨x, bg', a1, a2⟩
  · unfold tvs
    rw [a1]
    exact ⟨a2, a3⟩
  · unfold tvs
    rw [a1]
    have lx : p < x.1 ∧ k < 60 := by
      unfold tval at a1
      split at a1
      · next dg =>
        split at a1
        · cases a1
        · split at a1
          · cases a1
          · next z1 z2 =>
            have ln := tsg_lt (b := b) (n := n) (p := tsk b n p) rfl (fun z => by rw [z] at dg; cases dg)
            have ld : tS tbl b n p < tS tdg b n (tS tbl b n p) := tS_lt ln.1 (by rw [ln.2]; exact dg)
            have a1 := Sum.inr.inj a1
            rw [← a1]
            exact ⟨by show p < tS tdg b n (tS tbl b n p); omega, by omega⟩
      · split at a1
        · cases a1
        · next u hu =>
          split at a1
          · cases a1
          · next z2 =>
            have a1 := Sum.inr.inj a1
            rw [← a1]
            refine ⟨?_, by omega⟩
            show p < tS tlt b n (tS tbl b n p)
            have ne : twd b n p ≠ [] := fun z => by
              rw [z] at hu
              have : tix ([] : List Int) tw1004 = none := by decide
              rw [this] at hu
              cases hu
            have g3 : tS tbl b n p ≤ tS tlt b n (tS tbl b n p) := tS_ge _
            by_cases e : tS tlt b n (tS tbl b n p) = tS tbl b n p
            · exact absurd (show twd b n p = [] by show tw b (tS tbl b n p) (tS tlt b n (tS tbl b n p)) = []; rw [e, tw_nil]) ne
            · omega
    exact ⟨⟨_, a2⟩, by show (out.length + 1) + wait.length + 1 ≤ x.1; omega, by show k + 1 ≤ 60; omega, i3, i4⟩
theorem P35_60 {p' : Nat} {ft : Int} {v2 v3 : Int32} {bg' : Nat} {m : xS} {ex : Int} (N : kN m0 b n) (h : kC m0 n p' bg' ft out wait (cl : Int) (k : Int) (tdp wait : Int) (tbr wait : Int) ex (wh : Int) m) (lw : wait.length < 400) (h2 : (v2 = 0) ∨ (v2 = 1 ∧ p' < n)) : xP (D35_6_2_60 F v2 v3 m) (fun _ m' => (v2 = 0 ∧ kC m0 n p' bg' ft out (3 :: wait) (cl : Int) (k : Int) (tdp (3 :: wait) : Int) (tbr (3 :: wait) : Int) ex (wh : Int) m') ∨ (v2 = 1 ∧ kC m0 n (p' + 1) bg' ft out (0 :: wait) (cl : Int) (k : Int) (tdp (0 :: wait) : Int) (tbr (0 :: wait) : Int) ex (wh : Int) m')) := by
  have d1 := tdp_len wait
  have d2 := tbr_len wait
  have h10 := h.2.2.2.2.2.2.2.2.2.1
  have h10s : kC m0 n p' bg' ft out wait (cl : Int) (k : Int) ((1 + tdp wait : Nat) : Int) (tbr wait : Int) ex (wh : Int) (xu m 6 6 ((m.1 6 6) + 1)) := kC_dp h ((xa1 (by show _ ≤ _ + (1 : Int); omega) (by show _ + (1 : Int) ≤ _; omega)).trans (by rw [h10]; show (tdp wait : Int) + 1 = _; omega))
  unfold D35_6_2_60 D35_6_2_88 D35_6_2_98
  rcases h2 with rfl | ⟨rfl, l⟩
  · refine xP_i (fun _ => ?_) (fun c => absurd c (by decide))
    refine xP_i (fun _ => ?_) (fun c => absurd c (by decide))
    refine xP_b (P47 h10s lw) (fun _ m1 q => xP_r (Or.inl ⟨rfl, ?_⟩))
    have e : tbr (3 :: wait) = tbr wait := Nat.zero_add (tbr wait)
    rw [e]
    exact q
  · refine xP_i (fun c => absurd c (by decide)) (fun _ => ?_)
    refine xP_b (P54 N h10s l) (fun _ m1 q => ?_)
    dsimp only
    refine xP_i (fun c => absurd c (by decide)) (fun _ => ?_)
    have h11 := q.2.2.2.2.2.2.2.2.2.2.1
    have qb : kC m0 n (p' + 1) bg' ft out wait (cl : Int) (k : Int) ((1 + tdp wait : Nat) : Int) ((1 + tbr wait : Nat) : Int) ex (wh : Int) (xu m1 6 7 ((m1.1 6 7) + 1)) := kC_br q ((xa1 (by show _ ≤ _ + (1 : Int); omega) (by show _ + (1 : Int) ≤ _; omega)).trans (by rw [h11]; show (tbr wait : Int) + 1 = _; omega))
    refine xP_b (P47 qb lw) (fun _ m2 q2 => xP_r (Or.inr ⟨rfl, ?_⟩))
    exact q2
/-- readFact -/
theorem P35 (hF : 500 ≤ F) (N : kN m0 b n) (h : kC m0 n p bg 0 out wait (cl : Int) (k : Int) (tdp wait : Int) (tbr wait : Int) ((1 : Nat) : Int) (wh : Int) m) (I : kI (p, k, out, wait, cl, 1, wh)) : xP (D35_6_2 F m) (fun _ m' => kR m0 n (tfac b n p k out wait cl wh) m') := by
  obtain ⟨i1, i2, i3, i4⟩ := I
  have i1 : out.length + wait.length + 1 ≤ p := i1
  have i2 : k ≤ 60 := i2
  have i3 : cl ≤ 12 := i3
  have n4 := N.2.1
  have pn : p ≤ n := h.2.2.1.2
  have g1 : p ≤ tS tbl b n p := tS_ge p
  have g2 : tS tbl b n p ≤ n := tS_le p pn
  have opn : ∀ {v2 v3 : Int32} {p' bg' : Nat} {m : xS}, kC m0 n p' bg' 0 out wait (cl : Int) (k : Int) (tdp wait : Int) (tbr wait : Int) ((1 : Nat) : Int) (wh : Int) m → v3.toInt = (tS tbl b n p : Int) → (v2 = 0) ∨ (v2 = 1 ∧ p' < n) → p < (if v2 = 0 then p' else p' + 1) → xP (D35_6_2_45 F v2 v3 m) (fun _ m' => kR m0 n (if 10 ≤ tdp wait then .inl (1 + 8 * (tsk b n p : Int) + 2) else .inr (if v2 = 0 then (p', k, out, 3 :: wait, cl, 1, wh) else (p' + 1, k, out, 0 :: wait, cl, 1, wh))) m') := by
    intro v2 v3 p' bg' m h e3 h2 lp
    have h10 := h.2.2.2.2.2.2.2.2.2.1
    unfold D35_6_2_45
    refine xP_i (fun c => ?_) (fun c => ?_)
    · have c : (m.1 6 6).toInt < 10 := zt c
      rw [if_neg (by omega)]
      refine xP_m (P35_60 N h (by omega) h2) (fun _ m1 q => ?_)
      rcases q with ⟨rfl, q⟩ | ⟨rfl, q⟩
      · rw [if_pos rfl] at lp ⊢
        refine ⟨⟨_, q⟩, by show out.length + (wait.length + 1) + 1 ≤ p'; omega, i2, i3, fun w hw => ?_⟩
        rcases List.mem_cons.mp hw with rfl | hw
        · exact ⟨by decide, by decide⟩
        · exact i4 w hw
      · rw [if_neg (by decide)] at lp ⊢
        refine ⟨⟨_, q⟩, by show out.length + (wait.length + 1) + 1 ≤ p' + 1; omega, i2, i3, fun w hw => ?_⟩
        rcases List.mem_cons.mp hw with rfl | hw
        · exact ⟨by decide, by decide⟩
        · exact i4 w hw
    · have c : ¬ (m.1 6 6).toInt < 10 := zf c
      rw [if_pos (by omega)]
      refine xP_b (P52 h (by omega) (by omega) (by decide) (by decide)) (fun _ m1 q => ?_)
      rw [e3, show trf 0 (1 + 8 * ((tS tbl b n p : Nat) : Int) + (2 : Int32).toInt) = 1 + 8 * ((tS tbl b n p : Nat) : Int) + 2 from if_pos rfl] at q
      have ne : 1 + 8 * ((tS tbl b n p : Nat) : Int) + 2 ≠ 0 := by omega
      refine xP_m (P35_60 N q (by omega) h2) (fun _ m1 q => ?_)
      rcases q with ⟨rfl, q⟩ | ⟨rfl, q⟩
      · exact ⟨ne, _, _, _, _, _, _, _, _, _, _, q⟩
      · exact ⟨ne, _, _, _, _, _, _, _, _, _, _, q⟩
  unfold D35_6_2 D35_6_2_14
  refine xP_b (P53 hF N h) (fun v m1 q => ?_)
  obtain ⟨q, qv⟩ := q
  have h3 := q.2.2.1.1
  dsimp only
  refine xP_i (fun c => ?_) (fun c => ?_)
  · have c : v.toInt ≠ 91 := zt c
    refine xP_i (fun d => absurd d (by decide)) (fun _ => ?_)
    have tf : tfac b n p k out wait cl wh = (match tix (twd b n p) tw1003 with
      | some _ => if 10 ≤ tdp wait then .inl (1 + 8 * (tsk b n p : Int) + 2) else .inr (tle b n p, k, out, 3 :: wait, cl, 1, wh)
      | none => tvs b n p k out wait cl 1) := by
      unfold tfac
      rw [if_neg (fun z => c (qv.trans z))]
      cases tix (twd b n p) tw1003 <;> rfl
    rw [tf]
    refine xP_b (P59_1003 hF N q) (fun r2 m2 q2 => ?_)
    rw [tS_id] at q2
    dsimp only
    rcases q2 with ⟨u, a1, a2, a3⟩ | ⟨a1, a2, a3⟩
    · have e4 : tS tlt b n (tS tbl b n p) - tS tbl b n p = 3 := tw_eq (tix1 a1).1
      have a1 : tix (twd b n p) tw1003 = some u := a1
      rw [a1]
      refine xP_i (fun d => ?_) (fun d => ?_)
      · exact opn (v2 := 0) a3 h3 (Or.inl rfl) (by rw [if_pos rfl]; show p < tS tlt b n (tS tbl b n p); omega)
      · have d : r2.toInt = -1 := Decidable.not_not.mp (zf d)
        omega
    · have a1 : tix (twd b n p) tw1003 = none := a1
      rw [a1]
      refine xP_i (fun d => ?_) (fun d => ?_)
      · have d : r2.toInt ≠ -1 := zt d
        exact absurd a2 d
      · have z := P36s (F := F) hF N (kC_wh (v := 1) (x := ((1 : Nat) : Int)) a3 rfl) (by omega) i2 i3 i4
        have tid : tvs b n (tS tbl b n p) k out wait cl 1 = tvs b n p k out wait cl 1 := by
          unfold tvs tval tsk tde twd tle
          simp only [tS_id]
        rw [tid] at z
        exact xP_b z (fun _ m3 q3 => xP_r q3)
  · have c : v.toInt = 91 := Decidable.not_not.mp (zf c)
    obtain ⟨ln, -⟩ := tsg_lt (qv.symm.trans c) (by decide)
    refine xP_i (fun _ => ?_) (fun d => absurd d (by decide))
    have tf : tfac b n p k out wait cl wh = (if 10 ≤ tdp wait then .inl (1 + 8 * (tsk b n p : Int) + 2) else .inr (tsk b n p + 1, k, out, 0 :: wait, cl, 1, wh)) := by
      unfold tfac
      rw [if_pos (qv.symm.trans c)]
    rw [tf]
    exact opn (v2 := 1) q h3 (Or.inr ⟨rfl, ln⟩) (by rw [if_neg (by decide)]; show p < tS tbl b n p + 1; omega)
end KST
