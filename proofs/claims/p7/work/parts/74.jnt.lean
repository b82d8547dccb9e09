/-! The class's reader of rules: readJoint and what it calls. -/
section KJN
variable {m0 m : xS} {b : Nat → Int} {n p bg k cl wh : Nat} {out wait : List Int} {F : Nat}
/-- goesOn -/
theorem P61 {out wait : List Int} {cl k dp br ex wh : Int} (hF : 500 ≤ F) (N : kN m0 b n) (h : kC m0 n p bg 0 out wait cl k dp br ex wh m) : xP (D61_2 F m) (fun r m' => (tsg b n (tsk b n p) = 59 ∧ r = 1 ∧ kC m0 n (tsk b n p + 1) bg 0 out wait cl k dp br ex wh m') ∨ (tsg b n (tsk b n p) ≠ 59 ∧ tsg b n (tsk b n p) = -1 ∧ r = 0 ∧ kC m0 n (tsk b n p) bg 0 out wait cl k dp br ex wh m') ∨ (tsg b n (tsk b n p) ≠ 59 ∧ tsg b n (tsk b n p) ≠ -1 ∧ r = 0 ∧ kC m0 n (tsk b n p) bg (1 + 8 * (tsk b n p : Int)) out wait cl k dp br ex wh m')) := by
  have n4 := N.2.1
  have h5 := h.2.2.2.2.1
  unfold D61_2 D61_2_40
  refine xP_b (R := fun r m' => m' = m ∧ r = 1) ?_ (fun r mx q => ?_)
  · unfold D51_2
    refine xP_i (fun c => ?_) (fun _ => xP_r ⟨rfl, rfl⟩)
    have c : (m.1 2 4).toInt ≠ 0 := zt c
    exact absurd h5 c
  · obtain ⟨rfl, rfl⟩ := q
    refine xP_i (fun _ => ?_) (fun c => absurd (show zcmp .ne (1 : Int32) 0 = false from c) (by decide))
    refine xP_b (P53 hF N h) (fun v m1 q => ?_)
    obtain ⟨q, qv⟩ := q
    have h3 := q.2.2.1
    dsimp only
    refine xP_i (fun c => ?_) (fun c => ?_)
    · have c : v.toInt ≠ 59 := zt c
      have c1 : tsg b n (tsk b n p) ≠ 59 := fun z => c (qv.trans z)
      refine xP_i (fun d => ?_) (fun d => ?_)
      · have d : v.toInt = -1 := zt d
        exact xP_r (Or.inr (Or.inl ⟨c1, qv.symm.trans d, rfl, q⟩))
      · have d : v.toInt ≠ -1 := zf d
        refine xP_b (P52 q (by omega) (by omega) (by decide) (by decide)) (fun _ m2 q2 => xP_r (Or.inr (Or.inr ⟨c1, fun z => d (qv.trans z), rfl, ?_⟩)))
        rw [h3.1, show trf 0 (1 + 8 * ((tS tbl b n p : Nat) : Int) + (0 : Int32).toInt) = 1 + 8 * ((tS tbl b n p : Nat) : Int) from (if_pos rfl).trans (Int.add_zero _)] at q2
        exact q2
    · have c : v.toInt = 59 := Decidable.not_not.mp (zf c)
      obtain ⟨ln, -⟩ := tsg_lt (qv.symm.trans c) (by decide)
      refine xP_b (P54 N q ln) (fun _ m2 q2 => xP_r (Or.inl ⟨qv.symm.trans c, rfl, q2⟩))
/-- the end of a clause -/
theorem P44 {a : Int32} {ex : Int} (hF : 500 ≤ F) (N : kN m0 b n) (h : kC m0 n p bg 0 out wait (cl : Int) (k : Int) (tdp wait : Int) (tbr wait : Int) ex (wh : Int) m) (i1 : out.length + wait.length + 1 ≤ p) (i2 : k ≤ 60) (i3 : cl ≤ 12) (i4 : ∀ w ∈ wait, 0 ≤ w ∧ w ≤ (13 : Int)) : xP (D44_6_2 F a m) (fun _ m' => kR m0 n (tendc b n a.toInt p k out wait cl wh) m') := by
  have n4 := N.2.1
  have pn : p ≤ n := h.2.2.1.2
  have g1 : p ≤ tS tbl b n p := tS_ge p
  have d1 := tdp_len wait
  have sl := tSe_len 1 wait out
  have sd := tSe_dp (o := 1) (by decide) wait out
  have ss := tSe_sub 1 wait out
  have o1 : (1 : Int32).toInt = 1 := rfl
  unfold D44_6_2 D44_6_2_23
  refine xP_b (P46 (o := 1) hF h (by omega) (by omega) (by omega)) (fun _ m1 q => ?_)
  rw [o1, show ((tdp wait : Nat) : Int) - (((tSe 1 wait out).2.2 : Nat) : Int) = ((tdp (tSe 1 wait out).2.1 : Nat) : Int) by omega, sd.2] at q
  refine xP_b (P48 (v := a) q (by omega)) (fun _ m2 q2 => ?_)
  obtain ⟨q2, -⟩ := q2
  refine xP_b (P61 hF N q2) (fun r m3 q3 => ?_)
  dsimp only
  unfold tendc
  rcases q3 with ⟨c1, rfl, q3⟩ | ⟨c1, c2, rfl, q3⟩ | ⟨c1, c2, rfl, q3⟩
  · rw [if_pos c1]
    refine xP_i (fun c => absurd c (by decide)) (fun _ => xP_r ?_)
    exact ⟨⟨_, kC_ex (x := ((0 : Nat) : Int)) q3 rfl⟩, by show ((tSe 1 wait out).1.length + 1) + (tSe 1 wait out).2.1.length + 0 ≤ tS tbl b n p + 1; omega, i2, i3, fun w hw => i4 w (ss w hw)⟩
  · rw [if_neg c1, if_pos c2]
    refine xP_i (fun _ => xP_r ?_) (fun c => absurd c (by decide))
    exact ⟨⟨_, kC_ex (x := ((4 : Nat) : Int)) q3 rfl⟩, by show ((tSe 1 wait out).1.length + 1) + (tSe 1 wait out).2.1.length + 0 ≤ tS tbl b n p; omega, i2, i3, fun w hw => i4 w (ss w hw)⟩
  · rw [if_neg c1, if_neg c2]
    refine xP_i (fun _ => xP_r ?_) (fun c => absurd c (by decide))
    exact ⟨by show 1 + 8 * ((tS tbl b n p : Nat) : Int) ≠ 0; omega, _, _, _, _, _, _, _, _, _, _, kC_ex (x := ((4 : Nat) : Int)) q3 rfl⟩
/-- endAnswer -/
theorem P40 (hF : 500 ≤ F) (N : kN m0 b n) (h : kC m0 n p bg 0 out wait (cl : Int) (k : Int) (tdp wait : Int) (tbr wait : Int) ((3 : Nat) : Int) (wh : Int) m) (i1 : out.length + wait.length + 1 ≤ p) (i2 : k ≤ 60) (i3 : cl ≤ 12) (i4 : ∀ w ∈ wait, 0 ≤ w ∧ w ≤ (13 : Int)) : xP (D40_6_2 F m) (fun _ m' => kR m0 n (tena b n p k out wait cl wh) m') := by
  have n4 := N.2.1
  have pn : p ≤ n := h.2.2.1.2
  have g1 : p ≤ tS tbl b n p := tS_ge p
  have d1 := tdp_len wait
  have sl := tSe_len 1 wait out
  have sd := tSe_dp (o := 1) (by decide) wait out
  have ss := tSe_sub 1 wait out
  have o1 : (1 : Int32).toInt = 1 := rfl
  unfold D40_6_2
  refine xP_b (P59_1005 hF N h) (fun r m1 q => ?_)
  dsimp only
  unfold tena
  rcases q with ⟨u, a1, a2, a3⟩ | ⟨a1, a2, a3⟩
  · have e4 : tS tlt b n (tS tbl b n p) - tS tbl b n p = 2 := tw_eq (tix1 a1).1
    have a1 : tix (twd b n p) tw1005 = some u := a1
    rw [a1]
    refine xP_i (fun d => ?_) (fun _ => ?_)
    · have d : r.toInt = -1 := zt d
      omega
    · refine xP_b (P46 (o := 1) hF a3 (by omega) (by omega) (by omega)) (fun _ m2 q2 => xP_r ?_)
      rw [o1, show ((tdp wait : Nat) : Int) - (((tSe 1 wait out).2.2 : Nat) : Int) = ((tdp (tSe 1 wait out).2.1 : Nat) : Int) by omega, sd.2] at q2
      exact ⟨⟨_, kC_ex (x := ((1 : Nat) : Int)) q2 rfl⟩, by show (tSe 1 wait out).1.length + (tSe 1 wait out).2.1.length + 1 ≤ tS tlt b n (tS tbl b n p); omega, i2, i3, fun w hw => i4 w (ss w hw)⟩
  · have a1 : tix (twd b n p) tw1005 = none := a1
    rw [a1]
    refine xP_i (fun _ => ?_) (fun d => ?_)
    · have z := P44 (F := F) (a := 14) hF N a3 (by omega) i2 i3 i4
      rw [show (14 : Int32).toInt = 14 from rfl, tendc_id] at z
      exact xP_b z (fun _ m2 q2 => xP_r q2)
    · have d : r.toInt ≠ -1 := zf d
      exact absurd a2 d
/-- closeBracket -/
theorem P43 (hF : 500 ≤ F) (N : kN m0 b n) (h : kC m0 n p bg 0 out wait (cl : Int) (k : Int) (tdp wait : Int) (tbr wait : Int) ((3 : Nat) : Int) (wh : Int) m) (i1 : out.length + wait.length ≤ p) (i2 : k ≤ 60) (i3 : cl ≤ 12) (i4 : ∀ w ∈ wait, 0 ≤ w ∧ w ≤ (13 : Int)) (hb : tbr wait ≠ 0) : xP (D43_6 F m) (fun _ m' => kR m0 n (.inr (p, k, (tSe 1 wait out).1, (tSe 1 wait out).2.1.tail, cl, 3, 3)) m') := by
  have n4 := N.2.1
  have pn : p ≤ n := h.2.2.1.2
  have d1 := tdp_len wait
  have sl := tSe_len 1 wait out
  have sd := tSe_dp (o := 1) (by decide) wait out
  have ss := tSe_sub 1 wait out
  have sh := tSe_hd 1 wait out
  have o1 : (1 : Int32).toInt = 1 := rfl
  unfold D43_6 D43_6_22
  refine xP_b (P46 (o := 1) hF h (by omega) (by omega) (by omega)) (fun _ m1 q => ?_)
  rw [o1, show ((tdp wait : Nat) : Int) - (((tSe 1 wait out).2.2 : Nat) : Int) = ((tdp (tSe 1 wait out).2.1 : Nat) : Int) by omega, sd.2] at q
  generalize hS : tSe 1 wait out = S at *
  obtain ⟨o2, w2, c2⟩ := S
  dsimp only at *
  cases w2 with
  | nil => exact absurd sd.2 hb
  | cons w ws =>
    have hw := sh w ws rfl
    have iw := i4 w (ss w List.mem_cons_self)
    have w0 : w = 0 := by
      have t1 : tcl 1 = 1 := rfl
      unfold tcl at hw t1
      split at hw
      · rw [t1] at hw
        omega
      · split at hw
        · rw [t1] at hw
          omega
        · split at hw <;> (rw [t1] at hw; omega)
    subst w0
    have h7 := q.2.2.2.2.2.2.1.1
    rw [List.length_cons] at h7 sl
    have s1 : ((m1.1 6 3) - 1).toInt = (ws.length : Int) := (xs1 (by show _ ≤ _ - (1 : Int); omega) (by show _ - (1 : Int) ≤ _; omega)).trans (by show _ - (1 : Int) = _; omega)
    obtain ⟨hp, -⟩ := kC_pop (v := (m1.1 6 3) - 1) q s1
    have e1 : tdp (0 :: ws) = 1 + tdp ws := rfl
    have e2 : tbr (0 :: ws) = 1 + tbr ws := rfl
    have z1 := tdp_len ws
    have z2 := tbr_len ws
    rw [e1, e2] at hp
    have h10 := hp.2.2.2.2.2.2.2.2.2.1
    have h11 := hp.2.2.2.2.2.2.2.2.2.2.1
    refine xP_i (fun c => ?_) (fun _ => xP_r ?_)
    · have c : (m1.1 6 3).toInt ≤ 0 := zt c
      omega
    · have k1 := kC_br (v := (xu m1 6 3 ((m1.1 6 3) - 1)).1 6 7 - 1) (x := ((tbr ws : Nat) : Int)) hp ((xs1 (by show _ ≤ _ - (1 : Int); omega) (by show _ - (1 : Int) ≤ _; omega)).trans (by rw [h11]; show (((1 + tbr ws : Nat) : Int) - 1) = _; omega))
      have h10b := k1.2.2.2.2.2.2.2.2.2.1
      have k2 := kC_dp (v := (xu (xu m1 6 3 ((m1.1 6 3) - 1)) 6 7 ((xu m1 6 3 ((m1.1 6 3) - 1)).1 6 7 - 1)).1 6 6 - 1) (x := ((tdp ws : Nat) : Int)) k1 ((xs1 (by show _ ≤ _ - (1 : Int); omega) (by show _ - (1 : Int) ≤ _; omega)).trans (by rw [h10b]; show (((1 + tdp ws : Nat) : Int) - 1) = _; omega))
      exact ⟨⟨_, kC_wh (x := ((3 : Nat) : Int)) k2 rfl⟩, by show o2.length + ws.length + 1 ≤ p; omega, i2, i3, fun w hw => i4 w (ss w (List.mem_cons_of_mem _ hw))⟩
/-- a join, as a step -/
theorem P45s {o : Int32} {ex : Int} (hF : 500 ≤ F) (ho : 1 ≤ tcl o.toInt) (ho2 : 0 ≤ o.toInt ∧ o.toInt ≤ 13) (h : kC m0 n p bg 0 out wait (cl : Int) (k : Int) (tdp wait : Int) (tbr wait : Int) ex (wh : Int) m) (hn : n ≤ 400) (i1 : out.length + wait.length + 2 ≤ p) (i4 : ∀ w ∈ wait, 0 ≤ w ∧ w ≤ (13 : Int)) : xP (D45_6 F o m) (fun _ m' => kC m0 n p bg 0 (tSe o.toInt wait out).1 (o.toInt :: (tSe o.toInt wait out).2.1) (cl : Int) (k : Int) (tdp (o.toInt :: (tSe o.toInt wait out).2.1) : Int) (tbr (o.toInt :: (tSe o.toInt wait out).2.1) : Int) ex (wh : Int) m' ∧ (tSe o.toInt wait out).1.length + (o.toInt :: (tSe o.toInt wait out).2.1).length + 1 ≤ p ∧ ∀ w ∈ o.toInt :: (tSe o.toInt wait out).2.1, 0 ≤ w ∧ w ≤ (13 : Int)) ∨ o.toInt = 0 ∨ o.toInt = 3 := by
  by_cases z : o.toInt = 0 ∨ o.toInt = 3
  · exact Or.inr z
  · refine Or.inl ?_
    have pn : p ≤ n := h.2.2.1.2
    have d1 := tdp_len wait
    have sl := tSe_len o.toInt wait out
    have sd := tSe_dp (o := o.toInt) ho wait out
    have ss := tSe_sub o.toInt wait out
    refine xP_m (P45 (o := o) hF h (by omega) (by omega) (by omega)) (fun _ m1 q => ⟨?_, ?_, fun w hw => ?_⟩)
    · have e1 : tdp (o.toInt :: (tSe o.toInt wait out).2.1) = tdp (tSe o.toInt wait out).2.1 := by
        show (if o.toInt = 0 ∨ o.toInt = 3 then 1 else 0) + tdp _ = _
        rw [if_neg z, Nat.zero_add]
      have e2 : tbr (o.toInt :: (tSe o.toInt wait out).2.1) = tbr (tSe o.toInt wait out).2.1 := by
        show (if o.toInt = 0 then 1 else 0) + tbr _ = _
        rw [if_neg (fun y => z (Or.inl y)), Nat.zero_add]
      rw [e1, e2, ← sd.2]
      rw [show ((tdp wait : Nat) : Int) - (((tSe o.toInt wait out).2.2 : Nat) : Int) = ((tdp (tSe o.toInt wait out).2.1 : Nat) : Int) by omega] at q
      exact q
    · rw [List.length_cons]
      omega
    · rcases List.mem_cons.mp hw with rfl | hw
      · exact ho2
      · exact i4 w (ss w hw)
end KJN
