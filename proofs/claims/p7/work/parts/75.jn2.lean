/-! The class's reader of rules: readSign, endFact, readJoint. -/
theorem xbe_t {x c : Int32} (h : (x == c) = true) : x = c := eq_of_beq h
theorem xbe_f {x c : Int32} (h : (x == c) = false) : x.toInt ≠ c.toInt := fun z => by
  rw [Int32.toInt_inj.mp z, beq_self_eq_true] at h
  cases h
theorem tena_id (b : Nat → Int) (n p k : Nat) (out wait : List Int) (cl wh : Nat) : tena b n (tS tbl b n p) k out wait cl wh = tena b n p k out wait cl wh := by
  unfold tena twd tle
  simp only [tS_id, tendc_id]
theorem tsig_id (b : Nat → Int) (n p k : Nat) (out wait : List Int) (cl : Nat) : tsig b n (tS tbl b n p) k out wait cl = tsig b n p k out wait cl := by
  unfold tsig tsk
  simp only [tS_id]
theorem tenf_id (b : Nat → Int) (n p k : Nat) (out wait : List Int) (cl wh : Nat) : tenf b n (tS tbl b n p) k out wait cl wh = tenf b n p k out wait cl wh := by
  unfold tenf twd tle tsk
  simp only [tS_id, tendc_id]
section KJ2
variable {m0 m : xS} {b : Nat → Int} {n p bg k cl wh : Nat} {out wait : List Int} {F : Nat}
theorem P45g {o : Int32} {ft cc kk ex ww : Int} (hF : 500 ≤ F) (ho : 1 ≤ tcl o.toInt) (ho2 : 0 ≤ o.toInt ∧ o.toInt ≤ 13) (ho3 : ¬ (o.toInt = 0 ∨ o.toInt = 3)) (h : kC m0 n p bg ft out wait cc kk (tdp wait : Int) (tbr wait : Int) ex ww m) (hn : n ≤ 400) (i1 : out.length + wait.length + 2 ≤ p) (i4 : ∀ w ∈ wait, 0 ≤ w ∧ w ≤ (13 : Int)) : xP (D45_6 F o m) (fun _ m' => kC m0 n p bg ft (tSe o.toInt wait out).1 (o.toInt :: (tSe o.toInt wait out).2.1) cc kk (tdp (o.toInt :: (tSe o.toInt wait out).2.1) : Int) (tbr (o.toInt :: (tSe o.toInt wait out).2.1) : Int) ex ww m' ∧ (tSe o.toInt wait out).1.length + (o.toInt :: (tSe o.toInt wait out).2.1).length + 1 ≤ p ∧ ∀ w ∈ o.toInt :: (tSe o.toInt wait out).2.1, 0 ≤ w ∧ w ≤ (13 : Int)) := by
  have pn : p ≤ n := h.2.2.1.2
  have d1 := tdp_len wait
  have sl := tSe_len o.toInt wait out
  have sd := tSe_dp (o := o.toInt) ho wait out
  have ss := tSe_sub o.toInt wait out
  refine xP_m (P45 (o := o) hF h (by omega) (by omega) (by omega)) (fun _ m1 q => ⟨?_, ?_, fun w hw => ?_⟩)
  · have e1 : tdp (o.toInt :: (tSe o.toInt wait out).2.1) = tdp (tSe o.toInt wait out).2.1 := by
      show (if o.toInt = 0 ∨ o.toInt = 3 then 1 else 0) + tdp _ = _
      rw [if_neg ho3, Nat.zero_add]
    have e2 : tbr (o.toInt :: (tSe o.toInt wait out).2.1) = tbr (tSe o.toInt wait out).2.1 := by
      show (if o.toInt = 0 then 1 else 0) + tbr _ = _
      rw [if_neg (fun y => ho3 (Or.inl y)), Nat.zero_add]
    rw [e1, e2, ← sd.2]
    rw [show ((tdp wait : Nat) : Int) - (((tSe o.toInt wait out).2.2 : Nat) : Int) = ((tdp (tSe o.toInt wait out).2.1 : Nat) : Int) by omega] at q
    exact q
  · rw [List.length_cons]
    omega
  · rcases List.mem_cons.mp hw with rfl | hw
    · exact ho2
    · exact i4 w (ss w hw)
theorem P39 {v : Int32} : xP (D39 F v m) (fun r m' => m' = m ∧ r.toInt = topr v.toInt) := by
  unfold D39
  refine xP_i (fun c => xP_r ⟨rfl, by rw [xbe_t c]; decide⟩) (fun c37 => ?_)
  refine xP_i (fun c => xP_r ⟨rfl, by rw [xbe_t c]; decide⟩) (fun _ => ?_)
  refine xP_i (fun c => xP_r ⟨rfl, by rw [xbe_t c]; decide⟩) (fun _ => ?_)
  refine xP_i (fun c => xP_r ⟨rfl, by rw [xbe_t c]; decide⟩) (fun _ => ?_)
  refine xP_i (fun c => xP_r ⟨rfl, by rw [xbe_t c]; decide⟩) (fun _ => ?_)
  refine xP_i (fun c => xP_r ⟨rfl, by rw [xbe_t c]; decide⟩) (fun c42 => ?_)
  refine xP_i (fun c => xP_r ⟨rfl, by rw [xbe_t c]; decide⟩) (fun c43 => ?_)
  refine xP_i (fun c => xP_r ⟨rfl, by rw [xbe_t c]; decide⟩) (fun _ => ?_)
  refine xP_i (fun c => xP_r ⟨rfl, by rw [xbe_t c]; decide⟩) (fun c45 => ?_)
  refine xP_i (fun c => xP_r ⟨rfl, by rw [xbe_t c]; decide⟩) (fun _ => ?_)
  refine xP_i (fun c => xP_r ⟨rfl, by rw [xbe_t c]; decide⟩) (fun c47 => xP_r ⟨rfl, ?_⟩)
  have c37 : v.toInt ≠ 37 := xbe_f c37
  have c42 : v.toInt ≠ 42 := xbe_f c42
  have c43 : v.toInt ≠ 43 := xbe_f c43
  have c45 : v.toInt ≠ 45 := xbe_f c45
  have c47 : v.toInt ≠ 47 := xbe_f c47
  unfold topr
  rw [if_neg c43, if_neg c45, if_neg c42, if_neg c47, if_neg c37]
  decide
/-- passHere -/
theorem P55 {ft cc kk dp br ex ww : Int} {c : Int32} (N : kN m0 b n) (hc : c.toInt ≠ -1) (h : kC m0 n p bg ft out wait cc kk dp br ex ww m) : xP (D55_2 F c m) (fun r m' => (tsg b n p = c.toInt ∧ r = 1 ∧ kC m0 n (p + 1) bg ft out wait cc kk dp br ex ww m') ∨ (tsg b n p ≠ c.toInt ∧ r = 0 ∧ kC m0 n p bg ft out wait cc kk dp br ex ww m')) := by
  obtain ⟨k1, k2⟩ := kC_n N h
  have h3 := h.2.2.1
  have n4 := N.2.1
  unfold D55_2 D55_2_24 tsg
  refine xP_i (fun d => xP_r (Or.inr ⟨?_, rfl, h⟩)) (fun d => ?_)
  · have d : (m.1 2 1).toInt ≤ (m.1 2 2).toInt := zt d
    rw [if_neg (by omega)]
    exact fun z => hc z.symm
  · have d : ¬ (m.1 2 1).toInt ≤ (m.1 2 2).toInt := zf d
    refine xP_g (xib_t (by omega) (by omega)) ?_
    rw [kC_i h, if_pos (show p < n by omega), ← k2 p (by omega)]
    refine xP_i (fun e => xP_r (Or.inl ⟨zt e, rfl, ?_⟩)) (fun e => xP_r (Or.inr ⟨zf e, rfl, h⟩))
    exact kC_p h ((xa1 (by show _ ≤ _ + (1 : Int); omega) (by show _ + (1 : Int) ≤ _; omega)).trans (by rw [h3.1]; rfl)) N.2.1 (by omega)
/-- readSign -/
theorem P41 (hF : 500 ≤ F) (N : kN m0 b n) (h : kC m0 n p bg 0 out wait (cl : Int) (k : Int) (tdp wait : Int) (tbr wait : Int) ((3 : Nat) : Int) (wh : Int) m) (i1 : out.length + wait.length + 1 ≤ p) (i2 : k ≤ 60) (i3 : cl ≤ 12) (i4 : ∀ w ∈ wait, 0 ≤ w ∧ w ≤ (13 : Int)) : xP (D41_6_2 F m) (fun _ m' => kR m0 n (tsig b n p k out wait cl) m') := by
  have n4 := N.2.1
  have pn : p ≤ n := h.2.2.1.2
  have g1 : p ≤ tS tbl b n p := tS_ge p
  have d1 := tdp_len wait
  -- behind the sign: join, then a value
  have fin : ∀ {o : Int32} {p' bg' : Nat} {ft : Int} {v2 v3 : Int32} {m : xS}, 4 ≤ o.toInt → o.toInt ≤ 8 → kC m0 n p' bg' ft out wait (cl : Int) ((k + 1 : Nat) : Int) (tdp wait : Int) (tbr wait : Int) ((3 : Nat) : Int) (wh : Int) m → tS tbl b n p + 1 ≤ p' → (ft ≠ 0 ∨ (ft = 0 ∧ k < 60)) → xP ((D45_6 F o m).bind fun q => D41_6_2_104 F v2 v3 q.2) (fun _ m' => kR m0 n (if ft = 0 then .inr (p', k + 1, (tSe o.toInt wait out).1, o.toInt :: (tSe o.toInt wait out).2.1, cl, 2, 2) else .inl ft) m') := by
    intro o p' bg' ft v2 v3 m o1 o2 h lp hf
    have tc : tcl o.toInt = 4 := by
      unfold tcl
      rw [if_neg (by omega), if_pos (by omega)]
    refine xP_b (P45g hF (by rw [tc]; decide) ⟨by omega, by omega⟩ (by omega) h n4 (by omega) i4) (fun _ m1 q => ?_)
    obtain ⟨q1, q2, q3⟩ := q
    unfold D41_6_2_104
    refine xP_r ?_
    have z := kC_ex (v := 2) (x := ((2 : Nat) : Int)) (kC_wh (v := 2) (x := ((2 : Nat) : Int)) q1 rfl) rfl
    rcases hf with hf | ⟨hf, hk⟩
    · rw [if_neg hf]
      exact ⟨hf, _, _, _, _, _, _, _, _, _, _, z⟩
    · subst hf
      rw [if_pos rfl]
      exact ⟨⟨_, z⟩, q2, by show k + 1 ≤ 60; omega, i3, q3⟩
  have mid : ∀ {v2 v3 : Int32} {m : xS}, kC m0 n (tS tbl b n p) bg 0 out wait (cl : Int) (k : Int) (tdp wait : Int) (tbr wait : Int) ((3 : Nat) : Int) (wh : Int) m → v2.toInt = tsg b n (tS tbl b n p) → v3.toInt = (tS tbl b n p : Int) → (tsg b n (tsk b n p) = 60 ∨ tsg b n (tsk b n p) = 61 ∨ tsg b n (tsk b n p) = 62) → xP (D41_6_2_35 F v2 v3 m) (fun _ m' => kR m0 n (tsig b n p k out wait cl) m') := by
    intro v2 v3 m h e2 e3 cs
    have ln : tS tbl b n p < n := by
      rcases cs with c | c | c
      · exact (tsg_lt c (by decide)).1
      · exact (tsg_lt c (by decide)).1
      · exact (tsg_lt c (by decide)).1
    unfold D41_6_2_35 D41_6_2_82 D41_6_2_101
    refine xP_b (P37 (a := v3) h (by omega) (by omega) (by omega) (by omega)) (fun _ m1 q => ?_)
    rw [e3] at q
    have ef : (if (60 : Int) ≤ (k : Int) then trf 0 (1 + 8 * ((tS tbl b n p : Nat) : Int) + 3) else 0) = (if 60 ≤ k then 1 + 8 * ((tS tbl b n p : Nat) : Int) + 3 else 0) := by
      by_cases z : 60 ≤ k
      · rw [if_pos z, if_pos (by omega)]
        exact if_pos rfl
      · rw [if_neg z, if_neg (by omega)]
    rw [ef] at q
    refine xP_b (P54 N q ln) (fun _ m2 q2 => ?_)
    have hf : (if 60 ≤ k then 1 + 8 * ((tS tbl b n p : Nat) : Int) + 3 else 0) ≠ 0 ∨ ((if 60 ≤ k then 1 + 8 * ((tS tbl b n p : Nat) : Int) + 3 else 0) = 0 ∧ k < 60) := by
      by_cases z : 60 ≤ k
      · rw [if_pos z]
        exact Or.inl (by omega)
      · rw [if_neg z]
        exact Or.inr ⟨rfl, by omega⟩
    have tg : ∀ {x : tSt}, kR m0 n (if (if 60 ≤ k then 1 + 8 * ((tS tbl b n p : Nat) : Int) + 3 else 0) = 0 then .inr x else .inl (if 60 ≤ k then 1 + 8 * ((tS tbl b n p : Nat) : Int) + 3 else 0)) = kR m0 n (if 60 ≤ k then .inl (1 + 8 * ((tS tbl b n p : Nat) : Int) + 3) else .inr x) := fun {x} => by
      by_cases z : 60 ≤ k
      · rw [if_pos z, if_pos z, if_neg (by omega)]
      · rw [if_neg z, if_neg z, if_pos rfl]
    have tf : tsig b n p k out wait cl = (if 60 ≤ k then .inl (1 + 8 * (tsk b n p : Int) + 3)
      else if tsg b n (tsk b n p) = 61 then .inr (tsk b n p + 1, k + 1, (tSe 6 wait out).1, 6 :: (tSe 6 wait out).2.1, cl, 2, 2)
      else if tsg b n (tsk b n p + 1) = 61 then .inr (tsk b n p + 2, k + 1, (tSe (if tsg b n (tsk b n p) = 60 then 5 else 7) wait out).1, (if tsg b n (tsk b n p) = 60 then 5 else 7) :: (tSe (if tsg b n (tsk b n p) = 60 then 5 else 7) wait out).2.1, cl, 2, 2)
      else .inr (tsk b n p + 1, k + 1, (tSe (if tsg b n (tsk b n p) = 60 then 4 else 8) wait out).1, (if tsg b n (tsk b n p) = 60 then 4 else 8) :: (tSe (if tsg b n (tsk b n p) = 60 then 4 else 8) wait out).2.1, cl, 2, 2)) := by
      unfold tsig
      rw [if_pos cs]
    dsimp only
    refine xP_i (fun c => ?_) (fun c => ?_)
    · have c : v2.toInt ≠ 61 := zt c
      have c1 : ¬ tsg b n (tsk b n p) = 61 := fun z => c (e2.trans z)
      refine xP_b (P55 (c := 61) N (by decide) q2) (fun r m3 q3 => ?_)
      dsimp only
      rcases q3 with ⟨c2, rfl, q3⟩ | ⟨c2, rfl, q3⟩
      · have c2 : tsg b n (tsk b n p + 1) = 61 := c2
        rw [tf, if_neg c1, if_pos c2]
        refine xP_i (fun d => absurd d (by decide)) (fun _ => ?_)
        refine xP_i (fun d => ?_) (fun d => ?_)
        · have d : v2.toInt ≠ 60 := zt d
          have d1 : ¬ tsg b n (tsk b n p) = 60 := fun z => d (e2.trans z)
          rw [if_neg d1]
          refine xP_m (fin (o := 7) (by decide) (by decide) q3 (by omega) hf) (fun _ m4 q4 => ?_)
          rw [tg] at q4
          exact q4
        · have d : v2.toInt = 60 := Decidable.not_not.mp (zf d)
          have d1 : tsg b n (tsk b n p) = 60 := e2.symm.trans d
          rw [if_pos d1]
          refine xP_m (fin (o := 5) (by decide) (by decide) q3 (by omega) hf) (fun _ m4 q4 => ?_)
          rw [tg] at q4
          exact q4
      · have c2 : ¬ tsg b n (tsk b n p + 1) = 61 := c2
        rw [tf, if_neg c1, if_neg c2]
        refine xP_i (fun _ => ?_) (fun d => absurd d (by decide))
        refine xP_i (fun d => ?_) (fun d => ?_)
        · have d : v2.toInt ≠ 60 := zt d
          have d1 : ¬ tsg b n (tsk b n p) = 60 := fun z => d (e2.trans z)
          rw [if_neg d1]
          refine xP_m (fin (o := 8) (by decide) (by decide) q3 (by omega) hf) (fun _ m4 q4 => ?_)
          rw [tg] at q4
          exact q4
        · have d : v2.toInt = 60 := Decidable.not_not.mp (zf d)
          have d1 : tsg b n (tsk b n p) = 60 := e2.symm.trans d
          rw [if_pos d1]
          refine xP_m (fin (o := 4) (by decide) (by decide) q3 (by omega) hf) (fun _ m4 q4 => ?_)
          rw [tg] at q4
          exact q4
    · have c : v2.toInt = 61 := Decidable.not_not.mp (zf c)
      have c1 : tsg b n (tsk b n p) = 61 := e2.symm.trans c
      rw [tf, if_pos c1]
      refine xP_m (fin (o := 6) (by decide) (by decide) q2 (by omega) hf) (fun _ m4 q4 => ?_)
      rw [tg] at q4
      exact q4
  unfold D41_6_2
  refine xP_b (P53 hF N h) (fun v m1 q => ?_)
  obtain ⟨q, qv⟩ := q
  have h3 := q.2.2.1.1
  dsimp only
  refine xP_i (fun c => mid q qv h3 (Or.inl (qv.symm.trans (zt c)))) (fun c => ?_)
  refine xP_i (fun d => mid q qv h3 (Or.inr (Or.inl (qv.symm.trans (zt d))))) (fun d => ?_)
  refine xP_i (fun e => mid q qv h3 (Or.inr (Or.inr (qv.symm.trans (zt e))))) (fun e => ?_)
  have c : v.toInt ≠ 60 := zf c
  have d : v.toInt ≠ 61 := zf d
  have e : v.toInt ≠ 62 := zf e
  have tf : tsig b n p k out wait cl = .inl (1 + 8 * (tsk b n p : Int)) := by
    unfold tsig
    rw [if_neg (fun z => z.elim (fun z => c (qv.trans z)) (fun z => z.elim (fun z => d (qv.trans z)) (fun z => e (qv.trans z))))]
  rw [tf]
  refine xP_b (P52 q (by omega) (by have := q.2.2.1.2; omega) (by decide) (by decide)) (fun _ m2 q2 => xP_r ?_)
  rw [h3, show trf 0 (1 + 8 * ((tS tbl b n p : Nat) : Int) + (0 : Int32).toInt) = 1 + 8 * ((tS tbl b n p : Nat) : Int) from (if_pos rfl).trans (Int.add_zero _)] at q2
  exact ⟨by show 1 + 8 * ((tS tbl b n p : Nat) : Int) ≠ 0; omega, _, _, _, _, _, _, _, _, _, _, q2⟩
end KJ2
