/-! The class's reader of rules: endFact, readJoint. -/
section KJ3
variable {m0 m : xS} {b : Nat → Int} {n p bg k cl wh : Nat} {out wait : List Int} {F : Nat}
/-- endFact -/
theorem P42 (hF : 500 ≤ F) (N : kN m0 b n) (h : kC m0 n p bg 0 out wait (cl : Int) (k : Int) (tdp wait : Int) (tbr wait : Int) ((3 : Nat) : Int) (wh : Int) m) (i1 : out.length + wait.length + 1 ≤ p) (i2 : k ≤ 60) (i3 : cl ≤ 12) (i4 : ∀ w ∈ wait, 0 ≤ w ∧ w ≤ (13 : Int)) : xP (D42_6_2 F m) (fun _ m' => kR m0 n (tenf b n p k out wait cl wh) m') := by
  have n4 := N.2.1
  have pn : p ≤ n := h.2.2.1.2
  have g1 : p ≤ tS tbl b n p := tS_ge p
  have jn : ∀ {o : Int32} {v2 : Int32} {p' bg' : Nat} {m : xS}, (o.toInt = 1 ∨ o.toInt = 2) → kC m0 n p' bg' 0 out wait (cl : Int) (k : Int) (tdp wait : Int) (tbr wait : Int) ((3 : Nat) : Int) (wh : Int) m → p + 1 ≤ p' → xP (D42_6_2_22 F v2 o m) (fun _ m' => kR m0 n (.inr (p', k, (tSe o.toInt wait out).1, o.toInt :: (tSe o.toInt wait out).2.1, cl, 1, wh)) m') := by
    intro o v2 p' bg' m ho h lp
    have tc : 1 ≤ tcl o.toInt := by
      unfold tcl
      rw [if_pos (by omega)]
      omega
    unfold D42_6_2_22
    refine xP_b (P45g hF tc ⟨by omega, by omega⟩ (by omega) h n4 (by omega) i4) (fun _ m1 q => xP_r ?_)
    obtain ⟨q1, q2, q3⟩ := q
    exact ⟨⟨_, kC_ex (x := ((1 : Nat) : Int)) q1 rfl⟩, q2, i2, i3, q3⟩
  unfold D42_6_2
  refine xP_b (P59_1006 hF N h) (fun r m1 q => ?_)
  dsimp only
  unfold tenf
  rcases q with ⟨u, a1, a2, a3⟩ | ⟨a1, a2, a3⟩
  · have e4 : 2 ≤ tS tlt b n (tS tbl b n p) - tS tbl b n p := by
      rcases tix2 a1 with z | z
      · have := tw_eq z.1
        have : (tAnd : List Int).length = 3 := rfl
        omega
      · have := tw_eq z.1
        have : (tOr : List Int).length = 2 := rfl
        omega
    have u2 : u = 0 ∨ u = 1 := by
      rcases tix2 a1 with z | z
      · exact Or.inl z.2
      · exact Or.inr z.2
    have a1 : tix (twd b n p) tw1006 = some u := a1
    rw [a1]
    refine xP_i (fun d => ?_) (fun _ => ?_)
    · have d : r.toInt = -1 := zt d
      omega
    · refine xP_i (fun d => ?_) (fun d => ?_)
      · have d : r.toInt ≠ 0 := zt d
        dsimp only
        rw [if_neg (by omega)]
        exact jn (o := 1) (Or.inl rfl) a3 (by show p + 1 ≤ tS tlt b n (tS tbl b n p); omega)
      · have d : r.toInt = 0 := Decidable.not_not.mp (zf d)
        dsimp only
        rw [if_pos (by omega)]
        exact jn (o := 2) (Or.inr rfl) a3 (by show p + 1 ≤ tS tlt b n (tS tbl b n p); omega)
  · have a1 : tix (twd b n p) tw1006 = none := a1
    have h11 := a3.2.2.2.2.2.2.2.2.2.2.1
    rw [a1]
    dsimp only
    refine xP_i (fun _ => ?_) (fun d => ?_)
    · refine xP_i (fun c => ?_) (fun c => ?_)
      · have c : (m1.1 6 7).toInt ≠ 0 := zt c
        have c0 : tbr wait ≠ 0 := fun z => c (by rw [h11, z]; rfl)
        rw [if_neg c0]
        refine xP_b (P53 hF N a3) (fun v m2 q2 => ?_)
        rw [tS_id] at q2
        obtain ⟨q2, qv⟩ := q2
        have h3 := q2.2.2.1
        dsimp only
        refine xP_i (fun d => ?_) (fun d => ?_)
        · have d : v.toInt ≠ 93 := zt d
          rw [if_neg (fun z => d (qv.trans z))]
          refine xP_b (P52 q2 (by omega) (by omega) (by decide) (by decide)) (fun _ m3 q3 => xP_r ?_)
          rw [h3.1, show trf 0 (1 + 8 * ((tS tbl b n p : Nat) : Int) + (0 : Int32).toInt) = 1 + 8 * ((tS tbl b n p : Nat) : Int) from (if_pos rfl).trans (Int.add_zero _)] at q3
          exact ⟨by show 1 + 8 * ((tS tbl b n p : Nat) : Int) ≠ 0; omega, _, _, _, _, _, _, _, _, _, _, q3⟩
        · have d : v.toInt = 93 := Decidable.not_not.mp (zf d)
          obtain ⟨ln, -⟩ := tsg_lt (qv.symm.trans d) (by decide)
          rw [if_pos (qv.symm.trans d)]
          refine xP_b (P54 N q2 ln) (fun _ m3 q3 => ?_)
          exact xP_b (P43 hF N q3 (by omega) i2 i3 i4 c0) (fun _ m4 q4 => xP_r q4)
      · have c : (m1.1 6 7).toInt = 0 := Decidable.not_not.mp (zf c)
        have c0 : tbr wait = 0 := by omega
        rw [if_pos c0]
        have z := P44 (F := F) (a := 15) hF N a3 (by omega) i2 i3 i4
        rw [show (15 : Int32).toInt = 15 from rfl, tendc_id] at z
        exact xP_b z (fun _ m2 q2 => xP_r q2)
    · have d : r.toInt ≠ -1 := zf d
      exact absurd a2 d
/-- readJoint -/
theorem P38 (hF : 500 ≤ F) (N : kN m0 b n) (h : kC m0 n p bg 0 out wait (cl : Int) (k : Int) (tdp wait : Int) (tbr wait : Int) ((3 : Nat) : Int) (wh : Int) m) (I : kI (p, k, out, wait, cl, 3, wh)) : xP (D38_6_2 F m) (fun _ m' => kR m0 n (tjnt b n p k out wait cl wh) m') := by
  obtain ⟨i1, i2, i3, i4⟩ := I
  have i1 : out.length + wait.length + 1 ≤ p := i1
  have i2 : k ≤ 60 := i2
  have i3 : cl ≤ 12 := i3
  have i4 : ∀ w ∈ wait, 0 ≤ w ∧ w ≤ (13 : Int) := i4
  have n4 := N.2.1
  have pn : p ≤ n := h.2.2.1.2
  have g1 : p ≤ tS tbl b n p := tS_ge p
  have h13 := h.2.2.2.2.2.2.2.2.2.2.2.2
  unfold D38_6_2 D38_6_2_19
  refine xP_i (fun c => ?_) (fun c => ?_)
  · have c : (m.1 6 9).toInt ≠ 3 := zt c
    have w3 : wh ≠ 3 := fun z => c (by rw [h13, z]; rfl)
    refine xP_b (P53 hF N h) (fun v m1 q => ?_)
    obtain ⟨q, qv⟩ := q
    refine xP_b P39 (fun r mx q1 => ?_)
    obtain ⟨rfl, q1⟩ := q1
    dsimp only at q1 ⊢
    rw [qv] at q1
    have h13 := q.2.2.2.2.2.2.2.2.2.2.2.2
    refine xP_i (fun d => ?_) (fun d => ?_)
    · have d : r.toInt = -1 := zt d
      have tf : tjnt b n p k out wait cl wh = (if wh = 0 then tena b n p k out wait cl wh else if wh = 1 then tsig b n p k out wait cl else tenf b n p k out wait cl wh) := by
        unfold tjnt
        rw [if_neg (fun z => z.2 (q1.symm.trans d))]
      rw [tf]
      refine xP_i (fun e => ?_) (fun e => ?_)
      · have e : (mx.1 6 9).toInt ≠ 0 := zt e
        rw [if_neg (show ¬ wh = 0 from fun z => e (by rw [h13, z]; rfl))]
        refine xP_i (fun g => ?_) (fun g => ?_)
        · have g : (mx.1 6 9).toInt ≠ 1 := zt g
          rw [if_neg (show ¬ wh = 1 from fun z => g (by rw [h13, z]; rfl))]
          have z := P42 (F := F) hF N q (by omega) i2 i3 i4
          rw [tenf_id] at z
          exact xP_b z (fun _ m2 q2 => xP_r q2)
        · have g : (mx.1 6 9).toInt = 1 := Decidable.not_not.mp (zf g)
          rw [if_pos (show wh = 1 by omega)]
          have z := P41 (F := F) hF N q (by omega) i2 i3 i4
          rw [tsig_id] at z
          exact xP_b z (fun _ m2 q2 => xP_r q2)
      · have e : (mx.1 6 9).toInt = 0 := Decidable.not_not.mp (zf e)
        rw [if_pos (show wh = 0 by omega)]
        have z := P40 (F := F) hF N q (by omega) i2 i3 i4
        rw [tena_id] at z
        exact xP_b z (fun _ m2 q2 => xP_r q2)
    · have d : r.toInt ≠ -1 := zf d
      have tn : topr (tsg b n (tS tbl b n p)) ≠ -1 := fun z => d (q1.trans z)
      have ln : tS tbl b n p < n := by
        by_cases z : tS tbl b n p < n
        · exact z
        · refine absurd ?_ tn
          unfold tsg
          rw [if_neg z]
          decide
      have tr : r.toInt = 9 ∨ r.toInt = 10 ∨ r.toInt = 11 ∨ r.toInt = 12 ∨ r.toInt = 13 := by
        rw [q1]
        unfold topr at tn ⊢
        split
        · exact Or.inl rfl
        · split
          · exact Or.inr (Or.inl rfl)
          · split
            · exact Or.inr (Or.inr (Or.inl rfl))
            · split
              · exact Or.inr (Or.inr (Or.inr (Or.inl rfl)))
              · split
                · exact Or.inr (Or.inr (Or.inr (Or.inr rfl)))
                · next a1 a2 a3 a4 a5 => exact absurd (by rw [if_neg a1, if_neg a2, if_neg a3, if_neg a4, if_neg a5]) tn
      have tc : 1 ≤ tcl r.toInt := by rcases tr with z | z | z | z | z <;> (rw [z]; decide)
      have tf : tjnt b n p k out wait cl wh = .inr (tsk b n p + 1, k, (tSe r.toInt wait out).1, r.toInt :: (tSe r.toInt wait out).2.1, cl, 2, wh) := by
        unfold tjnt
        rw [if_pos ⟨w3, tn⟩, q1]
      rw [tf]
      refine xP_b (P54 N q ln) (fun _ m2 q2 => ?_)
      refine xP_b (P45g hF tc ⟨by omega, by omega⟩ (by omega) q2 n4 (by omega) i4) (fun _ m3 q3 => xP_r ?_)
      obtain ⟨q3, q4, q5⟩ := q3
      exact ⟨⟨_, kC_ex (x := ((2 : Nat) : Int)) q3 rfl⟩, q4, i2, i3, q5⟩
  · have c : (m.1 6 9).toInt = 3 := Decidable.not_not.mp (zf c)
    have w3 : wh = 3 := by omega
    have tf : tjnt b n p k out wait cl wh = tenf b n p k out wait cl wh := by
      unfold tjnt
      rw [if_neg (fun z => z.1 w3), if_neg (by omega), if_neg (by omega)]
    rw [tf]
    refine xP_i (fun _ => ?_) (fun d => absurd d (by decide))
    refine xP_i (fun _ => ?_) (fun e => ?_)
    · refine xP_i (fun _ => ?_) (fun e => ?_)
      · exact xP_b (P42 hF N h i1 i2 i3 i4) (fun _ m2 q2 => xP_r q2)
      · have e : (m.1 6 9).toInt = 1 := Decidable.not_not.mp (zf e)
        omega
    · have e : (m.1 6 9).toInt = 0 := Decidable.not_not.mp (zf e)
      omega
end KJ3
/-- what is expected is one of five -/
theorem tstp_ex {b : Nat → Int} {n : Nat} {s s' : tSt} (h : tstp b n s = .inr s') : s'.2.2.2.2.2.1 ≤ 4 := by
  have hv : ∀ {p k : Nat} {out wait : List Int} {cl wh : Nat}, tvs b n p k out wait cl wh = .inr s' → s'.2.2.2.2.2.1 ≤ 4 := fun {p k out wait cl wh} h => by
    unfold tvs at h
    split at h
    · cases h
    · cases h
      exact (by decide : (3 : Nat) ≤ 4)
  have hc : ∀ {a : Int} {p k : Nat} {out wait : List Int} {cl wh : Nat}, tendc b n a p k out wait cl wh = .inr s' → s'.2.2.2.2.2.1 ≤ 4 := fun {a p k out wait cl wh} h => by
    unfold tendc at h
    split at h
    · cases h
      exact Nat.zero_le _
    · split at h
      · cases h
        exact Nat.le_refl _
      · cases h
  unfold tstp at h
  split at h
  · unfold tlnd at h
    split at h
    · cases h
    · split at h
      · cases h
      · cases h
        exact (by decide : (2 : Nat) ≤ 4)
  · split at h
    · unfold tfac at h
      split at h
      · split at h
        · cases h
        · cases h
          exact (by decide : (1 : Nat) ≤ 4)
      · split at h
        · split at h
          · cases h
          · cases h
            exact (by decide : (1 : Nat) ≤ 4)
        · exact hv h
    · split at h
      · exact hv h
      · split at h
        · unfold tjnt at h
          split at h
          · cases h
            exact (by decide : (2 : Nat) ≤ 4)
          · split at h
            · unfold tena at h
              split at h
              · cases h
                exact (by decide : (1 : Nat) ≤ 4)
              · exact hc h
            · split at h
              · unfold tsig at h
                split at h
                · split at h
                  · cases h
                  · split at h
                    · cases h
                      exact (by decide : (2 : Nat) ≤ 4)
                    · split at h
                      · cases h
                        exact (by decide : (2 : Nat) ≤ 4)
                      · cases h
                        exact (by decide : (2 : Nat) ≤ 4)
                · cases h
              · unfold tenf at h
                split at h
                · cases h
                  exact (by decide : (1 : Nat) ≤ 4)
                · split at h
                  · exact hc h
                  · split at h
                    · cases h
                      exact (by decide : (3 : Nat) ≤ 4)
                    · cases h
        · cases h
