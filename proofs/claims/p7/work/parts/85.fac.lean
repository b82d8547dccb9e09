/-! The reference's facts, tests: the machine does the same. -/
theorem tw1003_t {w : List Int} (h : w = tNot) : tix w tw1003 = some 0 := by rw [h]; decide
theorem tw1003_f {w : List Int} (h : w ≠ tNot) : tix w tw1003 = none := tix_ne h
/-- what is popped is a piece ahead -/
theorem tSe_spl (o : Int) : ∀ (ws out : List Int), ∃ N, ws = N ++ (tSe o ws out).2.1 ∧ (tSe o ws out).1 = N.reverse ++ out ∧ (∀ x ∈ N, tcl o ≤ tcl x) := by
  intro ws
  induction ws with
  | nil => intro out; exact ⟨[], rfl, rfl, fun x hx => (by cases hx)⟩
  | cons w ws ih =>
    intro out
    by_cases c : tcl o ≤ tcl w
    · have un : tSe o (w :: ws) out = ((tSe o ws (w :: out)).1, (tSe o ws (w :: out)).2.1, (tSe o ws (w :: out)).2.2 + (if w = 3 then 1 else 0)) := if_pos c
      obtain ⟨N, a1, a2, a3⟩ := ih (w :: out)
      refine ⟨w :: N, ?_, ?_, ?_⟩
      · rw [un, List.cons_append]
        exact congrArg (w :: ·) a1
      · rw [un, List.reverse_cons, List.append_assoc]
        exact a2
      · intro x hx
        rcases List.mem_cons.mp hx with rfl | hx
        · exact c
        · exact a3 x hx
    · have un : tSe o (w :: ws) out = (out, w :: ws, 0) := if_neg c
      rw [un]
      exact ⟨[], rfl, rfl, fun x hx => (by cases hx)⟩
theorem tSe_pre (o : Int) : ∀ (Z ws out : List Int), (∀ z ∈ Z, tcl o ≤ tcl z) → (tSe o (Z ++ ws) out).1 = (tSe o ws (Z.reverse ++ out)).1 ∧ (tSe o (Z ++ ws) out).2.1 = (tSe o ws (Z.reverse ++ out)).2.1 := by
  intro Z
  induction Z with
  | nil => intro ws out _; exact ⟨rfl, rfl⟩
  | cons z Z ih =>
    intro ws out hz
    have un : tSe o (z :: (Z ++ ws)) out = ((tSe o (Z ++ ws) (z :: out)).1, (tSe o (Z ++ ws) (z :: out)).2.1, (tSe o (Z ++ ws) (z :: out)).2.2 + (if z = 3 then 1 else 0)) := if_pos (hz z List.mem_cons_self)
    obtain ⟨a1, a2⟩ := ih ws (z :: out) (fun y hy => hz y (List.mem_cons_of_mem _ hy))
    rw [List.cons_append, un, List.reverse_cons, List.append_assoc]
    exact ⟨a1, a2⟩
section RFC
variable {m0 m : xS} {b : Nat → Int} {n t : Nat} {cs : List (Int × Int × Int × Int)} {ln : Int} {F : Nat} {s0 : tSt} {pm0 : Nat} {cl : Nat} {rp ou : List Int}
/-- a fact must come -/
def rA (m0 : xS) (b : Nat → Int) (n t : Nat) (cs : List (Int × Int × Int × Int)) (ln : Int) (rp ou : List Int) (s0 : tSt) (pm0 cl pr : Nat) (m : xS) : Prop := ∃ (j pm k : Nat) (nu : Int) (rc out op : List Int) (wh : Nat), stn b n j s0 = .inr (pm, k, out ++ ou, op.map teo, cl, 1, wh) ∧ pm0 + j ≤ pm ∧ pm ≤ pr ∧ tsk b n pr = tsk b n pm ∧ rc.map tenc = out ∧ (rp.length ≤ ou.length ∧ out.length + ou.length + op.length + 1 ≤ pm) ∧ k ≤ 60 ∧ okop op ∧ tdp (op.map teo) ≤ 10 ∧ rC m0 n t pr 0 nu (k : Int) (rc ++ rp) cs op (tdp (op.map teo) : Int) ln m
/-- behind a fact -/
def rB (m0 : xS) (b : Nat → Int) (n t : Nat) (cs : List (Int × Int × Int × Int)) (ln : Int) (rp ou : List Int) (s0 : tSt) (pm0 cl pr : Nat) (m : xS) : Prop := ∃ (op : List Int) (wh : Nat), okop op ∧ (wh = 2 ∨ wh = 3) ∧ (wh = 2 → topr (tsg b n (tsk b n pr)) = -1) ∧ tdp (op.map teo) ≤ 10 ∧ rY m0 b n t cs op (tdp (op.map teo) : Int) ln rp ou s0 pm0 (op.map teo) cl wh 3 pr m
theorem R181_2 (hF : 500 ≤ F) (N : rN m0 b n) (ht : t < 6) (hT : (m0.1 70 11).toInt = (t : Int)) : ∀ (f : Nat) {pr : Nat} {m : xS}, rA m0 b n t cs ln rp ou s0 pm0 cl pr m → n - pr + 1 < f → xP (D181_2 F f 1 m) (fun v m' => (v = 0 ∧ rZ m0 b n s0 pm0 m') ∨ (v = 1 ∧ ∃ pr', pr < pr' ∧ rB m0 b n t cs ln rp ou s0 pm0 cl pr' m')) := by
  have n4 := N.2.1
  intro f
  induction f with
  | zero => intro pr m _ l; omega
  | succ f ih =>
    intro pr m h l
    obtain ⟨j, pm, k, nu, rc, out, op, wh, a1, a2, a3, a4, a5, a6, a7, a8, a9, a10⟩ := h
    have ge : pr ≤ tsk b n pr := tS_ge pr
    have id : tsk b n (tsk b n pr) = tsk b n pr := tS_id pr
    have prn : pr ≤ n := a10.2.2.1.2
    have sn : tsk b n pr ≤ n := tS_le pr prn
    have wid : twd b n (tsk b n pr) = twd b n pm := by
      rw [show twd b n (tsk b n pr) = tw b (tsk b n (tsk b n pr)) (tS tlt b n (tsk b n (tsk b n pr))) from rfl, id, a4]
    unfold D181_2
    refine xP_i (fun c => absurd c (by decide)) (fun _ => ?_)
    refine xP_b (R164 hF (rN_t N a10) (rC_t a10)) (fun v1 m1 q1 => ?_)
    obtain ⟨q1, e1⟩ := q1
    have c1 := rC_T a10 q1
    refine xP_b (R167 (W := tNot) (w := 7237492) hF (rN_t N c1) (rC_t c1) (by decide) (by decide) (by decide)) (fun r m2 q2 => ?_)
    obtain ⟨q2, e2⟩ := q2
    have c2 := rC_T c1 q2
    rw [show tsk b n (tS tbl b n pr) = tsk b n pr from id] at c2
    rw [show twd b n (tS tbl b n pr) = twd b n pm from wid] at e2
    have h3 := c2.2.2.1
    dsimp only
    -- the machine's step
    have fstep : tstp b n (pm, k, out ++ ou, op.map teo, cl, 1, wh) = tfac b n pm k (out ++ ou) (op.map teo) cl wh := rfl
    have opl : op.length + 1 ≤ 400 := by omega
    have dpl : tdp (op.map teo) ≤ 10 := a9
    refine xP_i (fun c => ?_) (fun c => ?_)
    · have nn : twd b n pm ≠ tNot := by
        rcases e2 with ⟨z, -⟩ | ⟨-, z⟩
        · rw [z] at c
          cases c
        · exact z
      refine xP_i (fun d => ?_) (fun d => ?_)
      · -- a sum
        have d : v1.toInt ≠ 91 := zt d
        have hs : tstp b n (pm, k, out ++ ou, op.map teo, cl, 1, wh) = tvs b n pm k (out ++ ou) (op.map teo) cl 1 := by
          rw [fstep]
          unfold tfac
          rw [if_neg (by rw [← a4]; exact fun z => d (e1.trans z)), tw1003_f nn]
        obtain ⟨f', rfl⟩ : ∃ f', f = f' + 1 := ⟨f - 1, by omega⟩
        unfold D181_72 D181_2
        refine xP_i (fun _ => ?_) (fun c => absurd c (by decide))
        have sp : pm ≤ tsk b n pr := Nat.le_trans a3 ge
        have hs2 : tstp b n (pm, k, out ++ ou, op.map teo, cl, 1, wh) = tvs b n (tsk b n pr) k (out ++ ou) (op.map teo) cl 1 := by
          rw [hs]
          unfold tvs
          rw [tval_eq (show tsk b n pm = tsk b n (tsk b n pr) by rw [id, a4])]
        refine xP_b (R180 (s0 := (pm, k, out ++ ou, op.map teo, cl, 1, wh)) (pm0 := tsk b n pr) (pm := tsk b n pr) (Wt := op.map teo) (cl := cl) (rp := rp) (ou := ou) hF N ht hT (fun w vs z => by
          have hw : w ∈ op.map teo := by rw [z]; exact List.mem_cons_self
          obtain ⟨x, hx, rfl⟩ := List.mem_map.mp hw
          have := teo_le (a8 x hx)
          omega) hs2 (Nat.le_refl _) (Nat.le_refl _) rfl a5 (by rw [List.length_map]; exact ⟨a6.1, by omega⟩) a7 c2) (fun v m3 q => ?_)
        rcases q with ⟨rfl, q⟩ | ⟨rfl, pr', d1, q⟩
        · exact xP_g (show xbo (0 : Int32) = true by decide) (xP_r (Or.inl ⟨rfl, rZ_tr a1 (by omega) q⟩))
        · refine xP_g (show xbo (1 : Int32) = true by decide) (xP_r (Or.inr ⟨rfl, pr', ?_, op, 2, a8, Or.inl rfl, fun _ => d1, a9, rY_lo (by decide) (rY_tr a1 (by omega) q)⟩))
          obtain ⟨j2, pm2, k2, nu2, rc2, out2, Z2, y1, y2, y3, -⟩ := q
          have j0 : j2 ≠ 0 := fun z => by
            rw [z] at y1
            have y1 : (Sum.inr (pm, k, out ++ ou, op.map teo, cl, 1, wh) : Int ⊕ tSt) = .inr (pm2, k2, out2 ++ ou, Z2 ++ op.map teo, cl, 3, 2) := y1
            have y1 := Sum.inr.inj y1
            have y1 := congrArg (fun x : tSt => x.2.2.2.2.2.1) y1
            have y1 : (1 : Nat) = 3 := y1
            omega
          omega
      · -- a bracket
        have d : v1.toInt = 91 := Decidable.not_not.mp (zf d)
        have sg : tsg b n (tsk b n pm) = 91 := by rw [← a4]; exact e1.symm.trans d
        obtain ⟨ln1, -⟩ := tsg_lt sg (by decide)
        rw [← a4] at ln1
        refine xP_b (R174 (v := 91) c2 n4 (by omega) a9) (fun r3 m3 q3 => ?_)
        dsimp only
        rcases q3 with ⟨z, rfl, q3⟩ | ⟨z, rfl, q3⟩
        · refine xP_i (fun c => absurd c (by decide)) (fun _ => xP_r (Or.inl ⟨rfl, j + 1, _, ?_, (stn_add j a1).trans (stn_1 (fstep.trans ?_)), by omega, ⟨_, _, _, _, _, _, _, _, _, _, hT, q3⟩⟩))
          · omega
          · unfold tfac
            rw [if_pos sg, if_pos z, ← a4]
        · refine xP_i (fun _ => ?_) (fun c => absurd c (by decide))
          have h33 := q3.2.2.1
          have hM := rC_T q3 (rT_p (v := m3.1 70 8 + 1) (x := tsk b n pr + 1) (rC_t q3) ((xa1 (by show _ ≤ _ + (1 : Int); omega) (by show _ + (1 : Int) ≤ _; omega)).trans (by rw [h33.1]; rfl)) n4 ln1)
          unfold D181_72
          refine xP_m (ih (pr := tsk b n pr + 1) ⟨j + 1, tsk b n pr + 1, k, nu, rc, out, 91 :: op, wh, (stn_add j a1).trans (stn_1 (fstep.trans ?_)), by omega, Nat.le_refl _, rfl, a5, ⟨a6.1, by rw [List.length_cons]; omega⟩, a7, ?_, ?_, ?_⟩ (by omega)) (fun v m4 q => q.imp (fun z => z) (fun q => ⟨q.1, by obtain ⟨pr', l', q'⟩ := q.2; exact ⟨pr', by omega, q'⟩⟩))
          · unfold tfac
            rw [if_pos sg, if_neg z, ← a4]
            rfl
          · intro x hx
            rcases List.mem_cons.mp hx with rfl | hx
            · exact Or.inl rfl
            · exact a8 x hx
          · show 1 + tdp (op.map teo) ≤ 10
            omega
          · have e5 : tdp ((91 :: op).map teo) = tdp (op.map teo) + 1 := Nat.add_comm _ _
            rw [e5]
            exact hM
    · -- not
      have nn : twd b n pm = tNot := by
        rcases e2 with ⟨-, z⟩ | ⟨z, -⟩
        · exact z
        · rw [z] at c
          cases c
      have len : tS tlt b n (tsk b n pm) - tsk b n pm = 3 := tw_eq nn
      have n91 : tsg b n (tsk b n pm) ≠ 91 := by
        intro z
        obtain ⟨ln1, bz⟩ := tsg_lt z (by decide)
        have := tS_in (P := tlt) (b := b) (n := n) (tsk b n pm) (tsk b n pm) (Nat.le_refl _) (by omega)
        rw [bz] at this
        cases this.2
      refine xP_b (R174 (v := 11) c2 n4 (by omega) a9) (fun r3 m3 q3 => ?_)
      dsimp only
      rcases q3 with ⟨z, rfl, q3⟩ | ⟨z, rfl, q3⟩
      · refine xP_i (fun c => absurd c (by decide)) (fun _ => xP_r (Or.inl ⟨rfl, j + 1, _, ?_, (stn_add j a1).trans (stn_1 (fstep.trans ?_)), by omega, ⟨_, _, _, _, _, _, _, _, _, _, hT, q3⟩⟩))
        · omega
        · unfold tfac
          rw [if_neg n91, tw1003_t nn]
          dsimp only
          rw [if_pos z, ← a4]
      · refine xP_i (fun _ => ?_) (fun c => absurd c (by decide))
        refine xP_b (R168 hF (rN_t N q3) (rC_t q3)) (fun _ m4 q4 => ?_)
        have c4 := rC_T q3 q4
        unfold D181_72
        have le1 : tS tlt b n (tsk b n pr) = tle b n pm := by rw [a4]
        rw [le1] at c4
        have le2 : tsk b n pr < tle b n pm := by
          show tsk b n pr < tS tlt b n (tsk b n pm)
          rw [a4]
          omega
        have le3 : tle b n pm ≤ n := c4.2.2.1.2
        refine xP_m (ih (pr := tle b n pm) ⟨j + 1, tle b n pm, k, nu, rc, out, 11 :: op, wh, (stn_add j a1).trans (stn_1 (fstep.trans ?_)), by omega, Nat.le_refl _, rfl, a5, ⟨a6.1, by rw [List.length_cons]; omega⟩, a7, ?_, ?_, ?_⟩ (by omega)) (fun v m5 q => q.imp (fun z => z) (fun q => ⟨q.1, by obtain ⟨pr', l', q'⟩ := q.2; exact ⟨pr', by omega, q'⟩⟩))
        · unfold tfac
          rw [if_neg n91, tw1003_t nn]
          dsimp only
          rw [if_neg z]
          rfl
        · intro x hx
          rcases List.mem_cons.mp hx with rfl | hx
          · exact Or.inr (Or.inl rfl)
          · exact a8 x hx
        · show 1 + tdp (op.map teo) ≤ 10
          omega
        · have e5 : tdp ((11 :: op).map teo) = tdp (op.map teo) + 1 := Nat.add_comm _ _
          rw [e5]
          exact c4
end RFC
