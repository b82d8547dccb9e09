section
/-! The reference's stack of a test, its facts. -/
def teo (v : Int) : Int := if v = 91 then 0 else tenc v
abbrev okop (op : List Int) : Prop := ∀ x ∈ op, x = 91 ∨ x = 11 ∨ x = 12 ∨ x = 13
theorem teo_le {x : Int} (h : x = 91 ∨ x = 11 ∨ x = 12 ∨ x = 13) : tcl (teo x) = teo x ∧ 0 ≤ teo x ∧ teo x ≤ 3 ∧ (teo x = 0 ↔ x = 91) ∧ (teo x = 3 ↔ x = 11) ∧ (if x = 13 then 1 else if x = 12 then 2 else if x = 11 then 3 else 0) = teo x := by
  rcases h with rfl | rfl | rfl | rfl <;> decide
theorem tk_mem {f : Nat → Int32} {x : Int} : ∀ n, x ∈ tk f n ↔ ∃ j, j < n ∧ (f j).toInt = x := by
  intro n
  induction n with
  | zero => exact ⟨fun h => (by cases h), fun h => (by obtain ⟨j, hj, -⟩ := h; omega)⟩
  | succ n ih =>
    constructor
    · intro h
      rcases List.mem_cons.mp h with h | h
      · exact ⟨n, by omega, h.symm⟩
      · obtain ⟨j, hj, e⟩ := ih.mp h
        exact ⟨j, by omega, e⟩
    · intro h
      obtain ⟨j, hj, e⟩ := h
      by_cases z : j = n
      · subst z
        exact List.mem_cons.mpr (Or.inl e.symm)
      · exact List.mem_cons.mpr (Or.inr (ih.mpr ⟨j, by omega, e⟩))
theorem tbr_0 : ∀ ws : List Int, tbr ws = 0 ↔ ∀ w ∈ ws, w ≠ 0 := by
  intro ws
  induction ws with
  | nil => exact ⟨fun _ w h => (by cases h), fun _ => rfl⟩
  | cons w ws ih =>
    show (if w = 0 then 1 else 0) + tbr ws = 0 ↔ _
    constructor
    · intro h v hv
      rcases List.mem_cons.mp hv with rfl | hv
      · intro z
        rw [if_pos z] at h
        omega
      · exact ih.mp (by omega) v hv
    · intro h
      rw [if_neg (h w List.mem_cons_self), ih.mpr (fun v hv => h v (List.mem_cons_of_mem _ hv))]
theorem x160 (v : Int32) : (v + 16 * 0 : Int32).toInt = v.toInt := by
  have e : (16 * 0 : Int32) = 0 := by decide
  rw [e]
  have h := y32 v
  exact (xa1 (by show _ ≤ _ + (0 : Int); omega) (by show _ + (0 : Int) ≤ _; omega)).trans (Int.add_zero _)
section RFA
variable {m0 m : xS} {b : Nat → Int} {n t p : Nat} {nu k : Int} {rc : List Int} {cs : List (Int × Int × Int × Int)} {op : List Int} {dp ln : Int} {F : Nat} {s0 : tSt} {pm0 : Nat} {cl : Nat} {rp ou : List Int}
/-- settles -/
theorem R176_0 {o : Int} {v1 : Int32} (ht : t < 6) (hT : (m0.1 70 11).toInt = (t : Int)) (hv : v1.toInt = tcl o) (h1 : 1 ≤ tcl o) : ∀ (f : Nat) {rc op : List Int} {dp : Int} {m : xS}, rC m0 n t p 0 nu k (rc ++ rp) cs op dp ln m → okop op → op.length < f → rc.length + rp.length + op.length ≤ 400 → (op.length : Int) ≤ dp + 1000 → dp ≤ 1000 → xP (D176_0 F f v1 m) (fun _ m' => ∃ rc' op', rC m0 n t p 0 nu k (rc' ++ rp) cs op' (dp - ((tSe o (op.map teo) (rc.map tenc)).2.2 : Nat)) ln m' ∧ rc'.map tenc = (tSe o (op.map teo) (rc.map tenc)).1 ∧ op'.map teo = (tSe o (op.map teo) (rc.map tenc)).2.1 ∧ (∀ x ∈ op', x ∈ op)) := by
  intro f
  induction f with
  | zero => intro rc op dp m _ _ l; omega
  | succ f ih =>
    intro rc op dp m h ok l1 l2 l3 l4
    have h9 := h.2.2.2.2.2.2.2.2.1.1
    unfold D176_0
    cases op with
    | nil =>
      refine xP_i (fun c => xP_r ⟨rc, [], ?_, rfl, rfl, fun x hx => hx⟩) (fun c => ?_)
      · show rC m0 n t p 0 nu k (rc ++ rp) cs [] (dp - ((0 : Nat) : Int)) ln m
        rw [show dp - ((0 : Nat) : Int) = dp from Int.sub_zero dp]
        exact h
      · have c : ¬ (m.1 70 16).toInt ≤ 0 := zf c
        have : (m.1 70 16).toInt = 0 := h9
        omega
    | cons o0 os =>
      rw [List.length_cons] at l1 l2 l3 h9
      have ok0 := ok o0 List.mem_cons_self
      obtain ⟨t1, t2, t3, t4, t5, t6⟩ := teo_le ok0
      have s1 : ((m.1 70 16) - 1).toInt = (os.length : Int) := (xs1 (by show _ ≤ _ - (1 : Int); omega) (by show _ - (1 : Int) ≤ _; omega)).trans (by show _ - (1 : Int) = _; omega)
      have ei : ((m.1 70 16) - 1).toNatClampNeg = os.length := by show ((m.1 70 16) - 1).toInt.toNat = _; omega
      obtain ⟨hp, hw⟩ := rC_pop (v := (m.1 70 16) - 1) h s1
      refine xP_i (fun c => ?_) (fun c => ?_)
      · have c : (m.1 70 16).toInt ≤ 0 := zt c
        omega
      · refine xP_g (xib_t (by omega) (by omega)) ?_
        refine xP_b R175 (fun r1 m1 q1 => ?_)
        obtain ⟨rfl, q1⟩ := q1
        dsimp only at q1 ⊢
        rw [ei] at q1 ⊢
        rw [hw, t6] at q1
        refine xP_i (fun d => xP_r ⟨rc, o0 :: os, ?_, ?_, ?_, fun x hx => hx⟩) (fun d => ?_)
        · have d : r1.toInt < v1.toInt := zt d
          have un : tSe o (teo o0 :: os.map teo) (rc.map tenc) = (rc.map tenc, teo o0 :: os.map teo, 0) := if_neg (by omega)
          rw [List.map_cons, un]
          show rC m0 n t p 0 nu k (rc ++ rp) cs (o0 :: os) (dp - ((0 : Nat) : Int)) ln m1
          rw [show dp - ((0 : Nat) : Int) = dp from Int.sub_zero dp]
          exact h
        · have d : r1.toInt < v1.toInt := zt d
          have un : tSe o (teo o0 :: os.map teo) (rc.map tenc) = (rc.map tenc, teo o0 :: os.map teo, 0) := if_neg (by omega)
          rw [List.map_cons, un]
        · have d : r1.toInt < v1.toInt := zt d
          have un : tSe o (teo o0 :: os.map teo) (rc.map tenc) = (rc.map tenc, teo o0 :: os.map teo, 0) := if_neg (by omega)
          rw [List.map_cons, un]
        · have d : ¬ r1.toInt < v1.toInt := zf d
          have n91 : o0 ≠ 91 := fun z => by have := t4.mpr z; omega
          have te : tenc o0 = teo o0 := (if_neg n91).symm
          refine xP_g (xib_t (by omega) (by omega)) ?_
          refine xP_b (R172 (s := m1.1 77 os.length) (v := 0) (c := o0) ht hT hp (by rw [List.length_append]; omega) ((x160 _).trans hw)) (fun _ m3 q3 => ?_)
          obtain ⟨q3, q4⟩ := q3
          have h9b := q3.2.2.2.2.2.2.2.2.1.1
          have e3 : (m3.1 70 16).toNatClampNeg = os.length := by show (m3.1 70 16).toInt.toNat = _; omega
          have e4 : m3.1 77 os.length = m1.1 77 os.length := by rw [q4, xu_row (by decide)]
          dsimp only
          refine xP_g (xib_t (by omega) (by omega)) ?_
          rw [e3, e4]
          have un : tSe o (teo o0 :: os.map teo) (rc.map tenc) = ((tSe o (os.map teo) (teo o0 :: rc.map tenc)).1, (tSe o (os.map teo) (teo o0 :: rc.map tenc)).2.1, (tSe o (os.map teo) (teo o0 :: rc.map tenc)).2.2 + (if teo o0 = 3 then 1 else 0)) := if_pos (by omega)
          have mc : (o0 :: rc).map tenc = teo o0 :: rc.map tenc := by rw [List.map_cons, te]
          have okt : okop os := fun x hx => ok x (List.mem_cons_of_mem _ hx)
          rw [List.map_cons, un]
          refine xP_i (fun g => ?_) (fun g => ?_)
          · have g : (m1.1 77 os.length).toInt ≠ 11 := zt g
            rw [if_neg (fun z => by have := t5.mp z; omega)]
            have z := ih (rc := o0 :: rc) q3 okt (by omega) (by rw [List.length_cons]; omega) (by omega) l4
            rw [mc] at z
            refine xP_m z (fun _ m4 q => ?_)
            obtain ⟨rc', op', b1, b2, b3, b4⟩ := q
            exact ⟨rc', op', b1, b2, b3, fun x hx => List.mem_cons_of_mem _ (b4 x hx)⟩
          · have g : (m1.1 77 os.length).toInt = 11 := Decidable.not_not.mp (zf g)
            rw [if_pos (t5.mpr (by omega))]
            have h10b := q3.2.2.2.2.2.2.2.2.2.1
            have z := ih (rc := o0 :: rc) (rC_dp (v := m3.1 70 13 - 1) (x := dp - 1) q3 ((xs1 (by show _ ≤ _ - (1 : Int); omega) (by show _ - (1 : Int) ≤ _; omega)).trans (by rw [h10b]; rfl))) okt (by omega) (by rw [List.length_cons]; omega) (by omega) (by omega)
            rw [mc] at z
            refine xP_m z (fun _ m4 q => ?_)
            obtain ⟨rc', op', b1, b2, b3, b4⟩ := q
            rw [show dp - 1 - (((tSe o (os.map teo) (teo o0 :: rc.map tenc)).2.2 : Nat) : Int) = dp - (((tSe o (os.map teo) (teo o0 :: rc.map tenc)).2.2 + 1 : Nat) : Int) by omega] at b1
            exact ⟨rc', op', b1, b2, b3, fun x hx => List.mem_cons_of_mem _ (b4 x hx)⟩
theorem R176 {o : Int} {v1 : Int32} (hF : 500 ≤ F) (ht : t < 6) (hT : (m0.1 70 11).toInt = (t : Int)) (hv : v1.toInt = tcl o) (h1 : 1 ≤ tcl o) (h : rC m0 n t p 0 nu k (rc ++ rp) cs op (tdp (op.map teo) : Int) ln m) (ok : okop op) (l2 : rc.length + rp.length + op.length ≤ 400) : xP (D176 F v1 m) (fun _ m' => ∃ rc' op', rC m0 n t p 0 nu k (rc' ++ rp) cs op' (tdp (op'.map teo) : Int) ln m' ∧ rc'.map tenc = (tSe o (op.map teo) (rc.map tenc)).1 ∧ op'.map teo = (tSe o (op.map teo) (rc.map tenc)).2.1 ∧ okop op') := by
  have d1 := tdp_len (op.map teo)
  rw [List.length_map] at d1
  refine xP_m (R176_0 ht hT hv h1 F h ok (by omega) l2 (by omega) (by omega)) (fun _ m' q => ?_)
  obtain ⟨rc', op', b1, b2, b3, b4⟩ := q
  refine ⟨rc', op', ?_, b2, b3, fun x hx => ok x (b4 x hx)⟩
  have sd := (tSe_dp h1 (op.map teo) (rc.map tenc)).1
  rw [b3]
  rw [show ((tdp (op.map teo) : Nat) : Int) - (((tSe o (op.map teo) (rc.map tenc)).2.2 : Nat) : Int) = ((tdp (tSe o (op.map teo) (rc.map tenc)).2.1 : Nat) : Int) by omega] at b1
  exact b1
/-- isInside -/
theorem R182_2 (h : rC m0 n t p 0 nu k rc cs op dp ln m) (ok : okop op) : ∀ (f : Nat) {i : Nat} {v : Int32}, v.toInt = (i : Int) → i ≤ op.length → (∀ j, j < i → (m.1 77 j).toInt ≠ 91) → op.length - i < f → xP (D182_2 F f v m) (fun r m' => m' = m ∧ ((r = 1 ∧ tbr (op.map teo) ≠ 0) ∨ (r = 0 ∧ tbr (op.map teo) = 0))) := by
  have h9 := h.2.2.2.2.2.2.2.2.1
  have b2 : (m.1 70 16).toInt ≤ 400 := (h.1 70 16 (0, 400) rfl).2
  have no : (∀ j, j < op.length → (m.1 77 j).toInt ≠ 91) → tbr (op.map teo) = 0 := fun z => (tbr_0 _).mpr (fun w hw => by
    obtain ⟨x, hx, rfl⟩ := List.mem_map.mp hw
    intro y
    have e := (teo_le (ok x hx)).2.2.2.1.mp y
    rw [← h9.2] at hx
    obtain ⟨j, hj, ej⟩ := (tk_mem _).mp hx
    exact z j hj (ej.trans e))
  intro f
  induction f with
  | zero => intro i v _ _ _ l; omega
  | succ f ih =>
    intro i v hv l1 hz l
    have ei : v.toNatClampNeg = i := by show v.toInt.toNat = i; omega
    unfold D182_2
    refine xP_i (fun c => xP_r ⟨rfl, Or.inr ⟨rfl, no (fun j hj => hz j ?_)⟩⟩) (fun c => ?_)
    · have c : (m.1 70 16).toInt ≤ v.toInt := zt c
      omega
    · have c : ¬ (m.1 70 16).toInt ≤ v.toInt := zf c
      refine xP_g (xib_t (by omega) (by omega)) ?_
      rw [ei]
      refine xP_i (fun d => ?_) (fun d => xP_r ⟨rfl, Or.inl ⟨rfl, fun z => ?_⟩⟩)
      · have d : (m.1 77 i).toInt ≠ 91 := zt d
        refine ih (xinc hv (by omega)) (by omega) (fun j hj => ?_) (by omega)
        by_cases e : j = i
        · rw [e]
          exact d
        · exact hz j (by omega)
      · have d : (m.1 77 i).toInt = 91 := Decidable.not_not.mp (zf d)
        have hx : (91 : Int) ∈ op := by
          rw [← h9.2]
          exact (tk_mem _).mpr ⟨i, by omega, d⟩
        exact (tbr_0 _).mp z (teo 91) (List.mem_map.mpr ⟨91, hx, rfl⟩) (by decide)
theorem R182 (hF : 500 ≤ F) (h : rC m0 n t p 0 nu k rc cs op dp ln m) (ok : okop op) : xP (D182 F m) (fun r m' => m' = m ∧ ((r = 1 ∧ tbr (op.map teo) ≠ 0) ∨ (r = 0 ∧ tbr (op.map teo) = 0))) := by
  have h9 := h.2.2.2.2.2.2.2.2.1.1
  have b2 : (m.1 70 16).toInt ≤ 400 := (h.1 70 16 (0, 400) rfl).2
  exact R182_2 h ok F (i := 0) rfl (Nat.zero_le _) (fun j hj => by omega) (by omega)
end RFA
end
section
/-! The reference's facts, tests: the machine does the same. -/
theorem tw1003_t {w : List Int} (h : w = tNot) : tix w tw1003 = some 0 := by rw [h]; decide
theorem tw1003_f {w : List Int} (h : w ≠ tNot) : tix w tw1003 = none := tix_ne h
/-- what is popped is a piece ahead -/
theorem tSe_spl (o : Int) : ∀ (ws out : List Int), ∃ N, ws = N ++ (tSe o ws out).2.1 ∧ (tSe o ws out).1 = N.reverse ++ out ∧ (∀ x ∈ N, tcl o ≤ tcl x) := by
  intro ws
  induction ws with
  | nil => intro out; exact ⟨[], rfl, rfl, fun x hx => (by cases hx)⟩
  | cons w ws ih =>
    intro out
    by_cases c : tcl o ≤ tcl w
    · have un : tSe o (w :: ws) out = ((tSe o ws (w :: out)).1, (tSe o ws (w :: out)).2.1, (tSe o ws (w :: out)).2.2 + (if w = 3 then 1 else 0)) := if_pos c
      obtain ⟨N, a1, a2, a3⟩ := ih (w :: out)
      refine ⟨w :: N, ?_, ?_, ?_⟩
      · rw [un, List.cons_append]
        exact congrArg (w :: ·) a1
      · rw [un, List.reverse_cons, List.append_assoc]
        exact a2
      · intro x hx
        rcases List.mem_cons.mp hx with rfl | hx
        · exact c
        · exact a3 x hx
    · have un : tSe o (w :: ws) out = (out, w :: ws, 0) := if_neg c
      rw [un]
      exact ⟨[], rfl, rfl, fun x hx => (by cases hx)⟩
theorem tSe_pre (o : Int) : ∀ (Z ws out : List Int), (∀ z ∈ Z, tcl o ≤ tcl z) → (tSe o (Z ++ ws) out).1 = (tSe o ws (Z.reverse ++ out)).1 ∧ (tSe o (Z ++ ws) out).2.1 = (tSe o ws (Z.reverse ++ out)).2.1 := by
  intro Z
  induction Z with
  | nil => intro ws out _; exact ⟨rfl, rfl⟩
  | cons z Z ih =>
    intro ws out hz
    have un : tSe o (z :: (Z ++ ws)) out = ((tSe o (Z ++ ws) (z :: out)).1, (tSe o (Z ++ ws) (z :: out)).2.1, (tSe o (Z ++ ws) (z :: out)).2.2 + (if z = 3 then 1 else 0)) := if_pos (hz z List.mem_cons_self)
    obtain ⟨a1, a2⟩ := ih ws (z :: out) (fun y hy => hz y (List.mem_cons_of_mem _ hy))
    rw [List.cons_append, un, List.reverse_cons, List.append_assoc]
    exact ⟨a1, a2⟩
section RFC
variable {m0 m : xS} {b : Nat → Int} {n t : Nat} {cs : List (Int × Int × Int × Int)} {ln : Int} {F : Nat} {s0 : tSt} {pm0 : Nat} {cl : Nat} {rp ou : List Int}
/-- a fact must come -/
def rA (m0 : xS) (b : Nat → Int) (n t : Nat) (cs : List (Int × Int × Int × Int)) (ln : Int) (rp ou : List Int) (s0 : tSt) (pm0 cl pr : Nat) (m : xS) : Prop := ∃ (j pm k : Nat) (nu : Int) (rc out op : List Int) (wh : Nat), stn b n j s0 = .inr (pm, k, out ++ ou, op.map teo, cl, 1, wh) ∧ pm0 + j ≤ pm ∧ pm ≤ pr ∧ tsk b n pr = tsk b n pm ∧ rc.map tenc = out ∧ (rp.length ≤ ou.length ∧ out.length + ou.length + op.length + 1 ≤ pm) ∧ k ≤ 60 ∧ okop op ∧ tdp (op.map teo) ≤ 10 ∧ rC m0 n t pr 0 nu (k : Int) (rc ++ rp) cs op (tdp (op.map teo) : Int) ln m
/-- behind a fact -/
def rB (m0 : xS) (b : Nat → Int) (n t : Nat) (cs : List (Int × Int × Int × Int)) (ln : Int) (rp ou : List Int) (s0 : tSt) (pm0 cl pr : Nat) (m : xS) : Prop := ∃ (op : List Int) (wh : Nat), okop op ∧ (wh = 2 ∨ wh = 3) ∧ (wh = 2 → topr (tsg b n (tsk b n pr)) = -1) ∧ tdp (op.map teo) ≤ 10 ∧ rY m0 b n t cs op (tdp (op.map teo) : Int) ln rp ou s0 pm0 (op.map teo) cl wh 3 pr m
theorem R181_2 (hF : 500 ≤ F) (N : rN m0 b n) (ht : t < 6) (hT : (m0.1 70 11).toInt = (t : Int)) : ∀ (f : Nat) {pr : Nat} {m : xS}, rA m0 b n t cs ln rp ou s0 pm0 cl pr m → n - pr + 1 < f → xP (D181_2 F f 1 m) (fun v m' => (v = 0 ∧ rZ m0 b n s0 pm0 m') ∨ (v = 1 ∧ ∃ pr', pr < pr' ∧ rB m0 b n t cs ln rp ou s0 pm0 cl pr' m')) := by
  have n4 := N.2.1
  intro f
  induction f with
  | zero => intro pr m _ l; omega
  | succ f ih =>
    intro pr m h l
    obtain ⟨j, pm, k, nu, rc, out, op, wh, a1, a2, a3, a4, a5, a6, a7, a8, a9, a10⟩ := h
    have ge : pr ≤ tsk b n pr := tS_ge pr
    have id : tsk b n (tsk b n pr) = tsk b n pr := tS_id pr
    have prn : pr ≤ n := a10.2.2.1.2
    have sn : tsk b n pr ≤ n := tS_le pr prn
    have wid : twd b n (tsk b n pr) = twd b n pm := by
      rw [show twd b n (tsk b n pr) = tw b (tsk b n (tsk b n pr)) (tS tlt b n (tsk b n (tsk b n pr))) from rfl, id, a4]
    unfold D181_2
    refine xP_i (fun c => absurd c (by decide)) (fun _ => ?_)
    refine xP_b (R164 hF (rN_t N a10) (rC_t a10)) (fun v1 m1 q1 => ?_)
    obtain ⟨q1, e1⟩ := q1
    have c1 := rC_T a10 q1
    refine xP_b (R167 (W := tNot) (w := 7237492) hF (rN_t N c1) (rC_t c1) (by decide) (by decide) (by decide)) (fun r m2 q2 => ?_)
    obtain ⟨q2, e2⟩ := q2
    have c2 := rC_T c1 q2
    rw [show tsk b n (tS tbl b n pr) = tsk b n pr from id] at c2
    rw [show twd b n (tS tbl b n pr) = twd b n pm from wid] at e2
    have h3 := c2.2.2.1
    dsimp only
    -- the machine's step
    have fstep : tstp b n (pm, k, out ++ ou, op.map teo, cl, 1, wh) = tfac b n pm k (out ++ ou) (op.map teo) cl wh := rfl
    have opl : op.length + 1 ≤ 400 := by omega
    have dpl : tdp (op.map teo) ≤ 10 := a9
    refine xP_i (fun c => ?_) (fun c => ?_)
    · have nn : twd b n pm ≠ tNot := by
        rcases e2 with ⟨z, -⟩ | ⟨-, z⟩
        · rw [z] at c
          cases c
        · exact z
      refine xP_i (fun d => ?_) (fun d => ?_)
      · -- a sum
        have d : v1.toInt ≠ 91 := zt d
        have hs : tstp b n (pm, k, out ++ ou, op.map teo, cl, 1, wh) = tvs b n pm k (out ++ ou) (op.map teo) cl 1 := by
          rw [fstep]
          unfold tfac
          rw [if_neg (by rw [← a4]; exact fun z => d (e1.trans z)), tw1003_f nn]
        obtain ⟨f', rfl⟩ : ∃ f', f = f' + 1 := ⟨f - 1, by omega⟩
        unfold D181_72 D181_2
        refine xP_i (fun _ => ?_) (fun c => absurd c (by decide))
        have sp : pm ≤ tsk b n pr := Nat.le_trans a3 ge
        have hs2 : tstp b n (pm, k, out ++ ou, op.map teo, cl, 1, wh) = tvs b n (tsk b n pr) k (out ++ ou) (op.map teo) cl 1 := by
          rw [hs]
          unfold tvs
          rw [tval_eq (show tsk b n pm = tsk b n (tsk b n pr) by rw [id, a4])]
        refine xP_b (R180 (s0 := (pm, k, out ++ ou, op.map teo, cl, 1, wh)) (pm0 := tsk b n pr) (pm := tsk b n pr) (Wt := op.map teo) (cl := cl) (rp := rp) (ou := ou) hF N ht hT (fun w vs z => by
          have hw : w ∈ op.map teo := by rw [z]; exact List.mem_cons_self
          obtain ⟨x, hx, rfl⟩ := List.mem_map.mp hw
          have := teo_le (a8 x hx)
          omega) hs2 (Nat.le_refl _) (Nat.le_refl _) rfl a5 (by rw [List.length_map]; exact ⟨a6.1, by omega⟩) a7 c2) (fun v m3 q => ?_)
        rcases q with ⟨rfl, q⟩ | ⟨rfl, pr', d1, q⟩
        · exact xP_g (show xbo (0 : Int32) = true by decide) (xP_r (Or.inl ⟨rfl, rZ_tr a1 (by omega) q⟩))
        · refine xP_g (show xbo (1 : Int32) = true by decide) (xP_r (Or.inr ⟨rfl, pr', ?_, op, 2, a8, Or.inl rfl, fun _ => d1, a9, rY_lo (by decide) (rY_tr a1 (by omega) q)⟩))
          obtain ⟨j2, pm2, k2, nu2, rc2, out2, Z2, y1, y2, y3, -⟩ := q
          have j0 : j2 ≠ 0 := fun z => by
            rw [z] at y1
            have y1 : (Sum.inr (pm, k, out ++ ou, op.map teo, cl, 1, wh) : Int ⊕ tSt) = .inr (pm2, k2, out2 ++ ou, Z2 ++ op.map teo, cl, 3, 2) := y1
            have y1 := Sum.inr.inj y1
            have y1 := congrArg (fun x : tSt => x.2.2.2.2.2.1) y1
            have y1 : (1 : Nat) = 3 := y1
            omega
          omega
      · -- a bracket
        have d : v1.toInt = 91 := Decidable.not_not.mp (zf d)
        have sg : tsg b n (tsk b n pm) = 91 := by rw [← a4]; exact e1.symm.trans d
        obtain ⟨ln1, -⟩ := tsg_lt sg (by decide)
        rw [← a4] at ln1
        refine xP_b (R174 (v := 91) c2 n4 (by omega) a9) (fun r3 m3 q3 => ?_)
        dsimp only
        rcases q3 with ⟨z, rfl, q3⟩ | ⟨z, rfl, q3⟩
        · refine xP_i (fun c => absurd c (by decide)) (fun _ => xP_r (Or.inl ⟨rfl, j + 1, _, ?_, (stn_add j a1).trans (stn_1 (fstep.trans ?_)), by omega, ⟨_, _, _, _, _, _, _, _, _, _, hT, q3⟩⟩))
          · omega
          · unfold tfac
            rw [if_pos sg, if_pos z, ← a4]
        · refine xP_i (fun _ => ?_) (fun c => absurd c (by decide))
          have h33 := q3.2.2.1
          have hM := rC_T q3 (rT_p (v := m3.1 70 8 + 1) (x := tsk b n pr + 1) (rC_t q3) ((xa1 (by show _ ≤ _ + (1 : Int); omega) (by show _ + (1 : Int) ≤ _; omega)).trans (by rw [h33.1]; rfl)) n4 ln1)
          unfold D181_72
          refine xP_m (ih (pr := tsk b n pr + 1) ⟨j + 1, tsk b n pr + 1, k, nu, rc, out, 91 :: op, wh, (stn_add j a1).trans (stn_1 (fstep.trans ?_)), by omega, Nat.le_refl _, rfl, a5, ⟨a6.1, by rw [List.length_cons]; omega⟩, a7, ?_, ?_, ?_⟩ (by omega)) (fun v m4 q => q.imp (fun z => z) (fun q => ⟨q.1, by obtain ⟨pr', l', q'⟩ := q.2; exact ⟨pr', by omega, q'⟩⟩))
          · unfold tfac
            rw [if_pos sg, if_neg z, ← a4]
            rfl
          · intro x hx
            rcases List.mem_cons.mp hx with rfl | hx
            · exact Or.inl rfl
            · exact a8 x hx
          · show 1 + tdp (op.map teo) ≤ 10
            omega
          · have e5 : tdp ((91 :: op).map teo) = tdp (op.map teo) + 1 := Nat.add_comm _ _
            rw [e5]
            exact hM
    · -- not
      have nn : twd b n pm = tNot := by
        rcases e2 with ⟨-, z⟩ | ⟨z, -⟩
        · exact z
        · rw [z] at c
          cases c
      have len : tS tlt b n (tsk b n pm) - tsk b n pm = 3 := tw_eq nn
      have n91 : tsg b n (tsk b n pm) ≠ 91 := by
        intro z
        obtain ⟨ln1, bz⟩ := tsg_lt z (by decide)
        have := tS_in (P := tlt) (b := b) (n := n) (tsk b n pm) (tsk b n pm) (Nat.le_refl _) (by omega)
        rw [bz] at this
        cases this.2
      refine xP_b (R174 (v := 11) c2 n4 (by omega) a9) (fun r3 m3 q3 => ?_)
      dsimp only
      rcases q3 with ⟨z, rfl, q3⟩ | ⟨z, rfl, q3⟩
      · refine xP_i (fun c => absurd c (by decide)) (fun _ => xP_r (Or.inl ⟨rfl, j + 1, _, ?_, (stn_add j a1).trans (stn_1 (fstep.trans ?_)), by omega, ⟨_, _, _, _, _, _, _, _, _, _, hT, q3⟩⟩))
        · omega
        · unfold tfac
          rw [if_neg n91, tw1003_t nn]
          dsimp only
          rw [if_pos z, ← a4]
      · refine xP_i (fun _ => ?_) (fun c => absurd c (by decide))
        refine xP_b (R168 hF (rN_t N q3) (rC_t q3)) (fun _ m4 q4 => ?_)
        have c4 := rC_T q3 q4
        unfold D181_72
        have le1 : tS tlt b n (tsk b n pr) = tle b n pm := by rw [a4]
        rw [le1] at c4
        have le2 : tsk b n pr < tle b n pm := by
          show tsk b n pr < tS tlt b n (tsk b n pm)
          rw [a4]
          omega
        have le3 : tle b n pm ≤ n := c4.2.2.1.2
        refine xP_m (ih (pr := tle b n pm) ⟨j + 1, tle b n pm, k, nu, rc, out, 11 :: op, wh, (stn_add j a1).trans (stn_1 (fstep.trans ?_)), by omega, Nat.le_refl _, rfl, a5, ⟨a6.1, by rw [List.length_cons]; omega⟩, a7, ?_, ?_, ?_⟩ (by omega)) (fun v m5 q => q.imp (fun z => z) (fun q => ⟨q.1, by obtain ⟨pr', l', q'⟩ := q.2; exact ⟨pr', by omega, q'⟩⟩))
        · unfold tfac
          rw [if_neg n91, tw1003_t nn]
          dsimp only
          rw [if_neg z]
          rfl
        · intro x hx
          rcases List.mem_cons.mp hx with rfl | hx
          · exact Or.inr (Or.inl rfl)
          · exact a8 x hx
        · show 1 + tdp (op.map teo) ≤ 10
          omega
        · have e5 : tdp ((11 :: op).map teo) = tdp (op.map teo) + 1 := Nat.add_comm _ _
          rw [e5]
          exact c4
end RFC
end
section
/-! The reference's tests: the machine does the same. -/
theorem tSe_out (o : Int) : ∀ (ws x y : List Int), (tSe o ws (x ++ y)).1 = (tSe o ws x).1 ++ y ∧ (tSe o ws (x ++ y)).2.1 = (tSe o ws x).2.1 := by
  intro ws
  induction ws with
  | nil => intro x y; exact ⟨rfl, rfl⟩
  | cons w ws ih =>
    intro x y
    by_cases c : tcl o ≤ tcl w
    · have u1 : tSe o (w :: ws) (x ++ y) = ((tSe o ws (w :: (x ++ y))).1, (tSe o ws (w :: (x ++ y))).2.1, (tSe o ws (w :: (x ++ y))).2.2 + (if w = 3 then 1 else 0)) := if_pos c
      have u2 : tSe o (w :: ws) x = ((tSe o ws (w :: x)).1, (tSe o ws (w :: x)).2.1, (tSe o ws (w :: x)).2.2 + (if w = 3 then 1 else 0)) := if_pos c
      rw [u1, u2]
      exact ih (w :: x) y
    · have u1 : tSe o (w :: ws) (x ++ y) = (x ++ y, w :: ws, 0) := if_neg c
      have u2 : tSe o (w :: ws) x = (x, w :: ws, 0) := if_neg c
      rw [u1, u2]
      exact ⟨rfl, rfl⟩
theorem tbr_app : ∀ (Z ws : List Int), (∀ z ∈ Z, 1 ≤ tcl z) → tbr (Z ++ ws) = tbr ws := by
  intro Z
  induction Z with
  | nil => intro ws _; rfl
  | cons z Z ih =>
    intro ws h
    show (if z = 0 then 1 else 0) + tbr (Z ++ ws) = _
    have z0 : z ≠ 0 := fun e => by
      have := h z List.mem_cons_self
      rw [e] at this
      exact absurd this (by decide)
    rw [if_neg z0, Nat.zero_add]
    exact ih ws (fun y hy => h y (List.mem_cons_of_mem _ hy))
theorem twd_eq {b : Nat → Int} {n p q : Nat} (h : tsk b n p = tsk b n q) : twd b n p = twd b n q := by
  have h : tS tbl b n p = tS tbl b n q := h
  unfold twd
  rw [h]
theorem twd_nil {b : Nat → Int} {n p : Nat} (h : ¬ (tsk b n p < n ∧ tlt (b (tsk b n p)) = true)) : twd b n p = [] := by
  unfold twd
  rw [tS_f h, tw_nil]
section RTS
variable {m0 m : xS} {b : Nat → Int} {n t : Nat} {cs : List (Int × Int × Int × Int)} {ln : Int} {F : Nat} {s0 : tSt} {pm0 : Nat} {cl : Nat} {rp ou : List Int}
def rBo (m0 : xS) (b : Nat → Int) (n t : Nat) (cs : List (Int × Int × Int × Int)) (ln : Int) (rp ou : List Int) (s0 : tSt) (pm0 cl pr : Nat) (op : List Int) (wh : Nat) (m : xS) : Prop := okop op ∧ (wh = 2 ∨ wh = 3) ∧ (wh = 2 → topr (tsg b n (tsk b n pr)) = -1) ∧ tdp (op.map teo) ≤ 10 ∧ rY m0 b n t cs op (tdp (op.map teo) : Int) ln rp ou s0 pm0 (op.map teo) cl wh 3 pr m
/-- settles(3) -/
theorem R183a {pr wh : Nat} {op : List Int} (hF : 500 ≤ F) (N : rN m0 b n) (ht : t < 6) (hT : (m0.1 70 11).toInt = (t : Int)) (h : rBo m0 b n t cs ln rp ou s0 pm0 cl pr op wh m) : xP (D176 F 3 m) (fun _ m' => ∃ op', rBo m0 b n t cs ln rp ou s0 pm0 cl pr op' wh m') := by
  have n4 := N.2.1
  obtain ⟨b1, b2, b3, b4, j, pm, k, nu, rc, out, Z, a1, a2, a3, a4, a5, a6, a7, a8, a9⟩ := h
  have rl : rc.length = Z.length + out.length := by
    have := congrArg List.length a6
    rw [List.length_map, List.length_append, List.length_reverse] at this
    exact this
  have prn : pr ≤ n := a9.2.2.1.2
  rw [List.length_map] at a7
  refine xP_m (R176 (o := 3) hF ht hT (by decide) (by decide) a9 b1 (by omega)) (fun _ m' q => ?_)
  obtain ⟨rc', op', c1, c2, c3, c4⟩ := q
  obtain ⟨Nn, d1, d2, d3⟩ := tSe_spl 3 (op.map teo) (rc.map tenc)
  rw [← c3] at d1
  rw [← c2] at d2
  have dd := (tSe_dp (o := 3) (by decide) (op.map teo) (rc.map tenc)).1
  rw [← c3] at dd
  refine ⟨op', c4, b2, b3, by omega, j, pm, k, nu, rc', out, Z ++ Nn, ?_, a2, a3, a4, ?_, ?_, ?_, a8, c1⟩
  · rw [List.append_assoc, ← d1]
    exact a1
  · intro z hz
    rcases List.mem_append.mp hz with hz | hz
    · exact a5 z hz
    · have := d3 z hz
      have e3 : tcl 3 = 3 := rfl
      omega
  · rw [d2, a6, List.reverse_append, List.append_assoc]
  · have ll := congrArg List.length d1
    rw [List.length_append, List.length_map, List.length_map] at ll
    rw [List.length_append, List.length_map]
    exact ⟨a7.1, by omega⟩
/-- the machine behind a fact -/
theorem tjnt_f {pm k wh : Nat} {out wait : List Int} (hw : wh = 2 ∨ wh = 3) (ht : wh = 2 → topr (tsg b n (tsk b n pm)) = -1) : tstp b n (pm, k, out, wait, cl, 3, wh) = tenf b n pm k out wait cl wh := by
  show tjnt b n pm k out wait cl wh = _
  unfold tjnt
  rw [if_neg (fun z => by rcases hw with y | y; exact z.2 (ht y); exact z.1 y), if_neg (by omega), if_neg (by omega)]
abbrev eX (b : Nat → Int) (n pr : Nat) (op : List Int) : Prop := tsk b n pr = pr ∧ (tsg b n pr ≠ 93 ∨ tbr (op.map teo) = 0)
theorem R183_5 (hF : 500 ≤ F) (N : rN m0 b n) (ht : t < 6) (hT : (m0.1 70 11).toInt = (t : Int)) : ∀ (f : Nat) {pr wh : Nat} {op : List Int} {m : xS}, rBo m0 b n t cs ln rp ou s0 pm0 cl pr op wh m → n - pr < f → xP (D183_5 F f m) (fun _ m' => ∃ pr' op' wh', pr ≤ pr' ∧ eX b n pr' op' ∧ rBo m0 b n t cs ln rp ou s0 pm0 cl pr' op' wh' m') := by
  have n4 := N.2.1
  intro f
  induction f with
  | zero => intro pr wh op m _ l; omega
  | succ f ih =>
    intro pr wh op m h l
    obtain ⟨b1, b2, b3, b4, hY⟩ := h
    have id : tsk b n (tsk b n pr) = tsk b n pr := tS_id pr
    have ge : pr ≤ tsk b n pr := tS_ge pr
    unfold D183_5
    refine xP_b (R164y hF N hY) (fun v m1 q1 => ?_)
    obtain ⟨hY, e1⟩ := q1
    dsimp only
    refine xP_i (fun c => xP_r ⟨tsk b n pr, op, wh, ge, ⟨id, Or.inl (fun z => (zt c : v.toInt ≠ 93) (e1.trans z))⟩, b1, b2, by rw [id]; exact b3, b4, hY⟩) (fun c => ?_)
    have c : v.toInt = 93 := Decidable.not_not.mp (zf c)
    have sg : tsg b n (tsk b n pr) = 93 := e1.symm.trans c
    obtain ⟨lt, bs⟩ := tsg_lt sg (by decide)
    have hY0 := hY
    obtain ⟨j, pm, k, nu, rc, out, Z, a1, a2, a3, a4, a5, a6, a7, a8, a9⟩ := hY
    have ea : tsk b n pm = tsk b n pr := by rw [← a4, id]
    refine xP_b (R182 hF a9 b1) (fun r mx q2 => ?_)
    obtain ⟨rfl, q2⟩ := q2
    dsimp only
    refine xP_i (fun d => ?_) (fun d => ?_)
    · have t0 : tbr (op.map teo) = 0 := by
        rcases q2 with ⟨z, -⟩ | ⟨-, z⟩
        · rw [z] at d
          cases d
        · exact z
      exact xP_r ⟨tsk b n pr, op, wh, ge, ⟨id, Or.inr t0⟩, b1, b2, by rw [id]; exact b3, b4, hY0⟩
    · have t0 : tbr (op.map teo) ≠ 0 := by
        rcases q2 with ⟨-, z⟩ | ⟨z, -⟩
        · exact z
        · rw [z] at d
          cases d
      have rl : rc.length = Z.length + out.length := by
        have := congrArg List.length a6
        rw [List.length_map, List.length_append, List.length_reverse] at this
        exact this
      have a7' := a7
      rw [List.length_map] at a7'
      refine xP_b (R176 (o := 1) hF ht hT (by decide) (by decide) a9 b1 (by omega)) (fun _ m2 q => ?_)
      obtain ⟨rc1, op1, c1, c2, c3, c4⟩ := q
      have dd := tSe_dp (o := 1) (by decide) (op.map teo) (rc.map tenc)
      have sl := tSe_len 1 (op.map teo) (rc.map tenc)
      rw [← c3] at dd
      rw [← c2, ← c3, List.length_map, List.length_map, List.length_map, List.length_map] at sl
      cases op1 with
      | nil => exact absurd dd.2 t0
      | cons o0 os =>
        have hd := tSe_hd 1 (op.map teo) (rc.map tenc) (teo o0) (os.map teo) (by rw [← c3]; rfl)
        have o91 := c4 o0 List.mem_cons_self
        obtain ⟨t1, t2, t3, t4, -⟩ := teo_le o91
        have e11 : tcl 1 = 1 := rfl
        have z0 : teo o0 = 0 := by omega
        rw [List.length_cons] at sl
        have ed : tdp ((o0 :: os).map teo) = 1 + tdp (os.map teo) := by
          show (if teo o0 = 0 ∨ teo o0 = 3 then 1 else 0) + tdp (os.map teo) = _
          rw [if_pos (Or.inl z0)]
        rw [ed] at c1 dd
        have h9 := c1.2.2.2.2.2.2.2.2.1.1
        rw [List.length_cons] at h9
        have s1 : ((m2.1 70 16) - 1).toInt = (os.length : Int) := (xs1 (by show _ ≤ _ - (1 : Int); omega) (by show _ - (1 : Int) ≤ _; omega)).trans (by show _ - (1 : Int) = _; omega)
        obtain ⟨hp, -⟩ := rC_pop (v := (m2.1 70 16) - 1) c1 s1
        have h10 := c1.2.2.2.2.2.2.2.2.2.1
        have hq := rC_dp (v := m2.1 70 13 - 1) (x := ((tdp (os.map teo) : Nat) : Int)) hp ((xs1 (by show _ ≤ _ - (1 : Int); omega) (by show _ - (1 : Int) ≤ _; omega)).trans (by rw [h10]; show ((1 + tdp (os.map teo) : Nat) : Int) - 1 = _; omega))
        have h3 := c1.2.2.1
        have hM := rC_T hq (rT_p (v := m2.1 70 8 + 1) (x := tsk b n pr + 1) (rC_t hq) ((xa1 (by show _ ≤ _ + (1 : Int); omega) (by show _ + (1 : Int) ≤ _; omega)).trans (by rw [h3.1]; rfl)) n4 lt)
        have step : tstp b n (pm, k, out ++ ou, Z ++ op.map teo, cl, 3, wh) = .inr (tsk b n pr + 1, k, rc1.map tenc ++ ou, os.map teo, cl, 3, 3) := by
          rw [tjnt_f b2 (fun z => by rw [ea]; exact b3 z)]
          unfold tenf
          have wn : twd b n pm = [] := twd_nil (by rw [ea, bs]; exact fun z => absurd z.2 (by decide))
          rw [wn, show tix ([] : List Int) tw1006 = none by decide]
          dsimp only
          have p1 := tSe_pre 1 Z (op.map teo) (out ++ ou) (fun z hz => by have := a5 z hz; omega)
          have p2 := tSe_out 1 (op.map teo) (Z.reverse ++ out) ou
          rw [tbr_app Z (op.map teo) (fun z hz => by have := a5 z hz; omega), if_neg t0, ea, if_pos sg, p1.1, p1.2, ← List.append_assoc, p2.1, p2.2, ← a6, ← c2, ← c3]
          rfl
        refine xP_b (R183a (pr := tsk b n pr + 1) (wh := 3) (op := os) (s0 := s0) (pm0 := pm0) (cl := cl) (rp := rp) (ou := ou) (cs := cs) (ln := ln) hF N ht hT ⟨fun x hx => c4 x (List.mem_cons_of_mem _ hx), Or.inr rfl, fun z => absurd z (by decide), by omega, j + 1, tsk b n pr + 1, k, nu, rc1, rc1.map tenc, [], (stn_add j a1).trans (stn_1 step), by omega, Nat.le_refl _, rfl, fun z hz => (by cases hz), rfl, ?_, a8, hM⟩) (fun _ m3 q3 => ?_)
        · rw [List.length_map, List.length_map]
          exact ⟨a7'.1, by show rc1.length + ou.length + 0 + os.length + 1 ≤ _; omega⟩
        · obtain ⟨op', q3⟩ := q3
          refine xP_m (ih (pr := tsk b n pr + 1) q3 (by omega)) (fun _ m4 q4 => ?_)
          obtain ⟨pr', op2, wh2, y1, y2⟩ := q4
          exact ⟨pr', op2, wh2, by omega, y2⟩
/-- closes -/
theorem R183 {pr : Nat} (hF : 500 ≤ F) (N : rN m0 b n) (ht : t < 6) (hT : (m0.1 70 11).toInt = (t : Int)) (h : rB m0 b n t cs ln rp ou s0 pm0 cl pr m) : xP (D183 F m) (fun _ m' => ∃ pr' op' wh', pr ≤ pr' ∧ eX b n pr' op' ∧ rBo m0 b n t cs ln rp ou s0 pm0 cl pr' op' wh' m') := by
  have n4 := N.2.1
  obtain ⟨op, wh, h⟩ := h
  unfold D183
  refine xP_b (R183a hF N ht hT h) (fun _ m1 q => ?_)
  obtain ⟨op', q⟩ := q
  exact R183_5 hF N ht hT F q (by omega)
/-- the end of a clause is next: a is put then -/
def rD (m0 : xS) (b : Nat → Int) (n t : Nat) (cs : List (Int × Int × Int × Int)) (ln : Int) (rp ou : List Int) (s0 : tSt) (pm0 cl pr : Nat) (a : Int) (m : xS) : Prop := ∃ (j pm k : Nat) (nu : Int) (rc out wait op : List Int) (wh : Nat) (dp : Int), stn b n j s0 = .inr (pm, k, out ++ ou, wait, cl, 3, wh) ∧ tstp b n (pm, k, out ++ ou, wait, cl, 3, wh) = tendc b n a pm k (out ++ ou) wait cl wh ∧ pm0 + j ≤ pm ∧ pm ≤ pr ∧ tsk b n pr = tsk b n pm ∧ rc.map tenc = (tSe 1 wait out).1 ∧ (tSe 1 wait out).2.1 = [] ∧ (rp.length ≤ ou.length ∧ rc.length + ou.length + 1 ≤ pm) ∧ k ≤ 60 ∧ rC m0 n t pr 0 nu (k : Int) (rc ++ rp) cs op dp ln m
theorem R184_12 (hF : 500 ≤ F) (N : rN m0 b n) (ht : t < 6) (hT : (m0.1 70 11).toInt = (t : Int)) : ∀ (f : Nat) {pr : Nat} {m : xS}, rA m0 b n t cs ln rp ou s0 pm0 cl pr m → n - pr + 1 < f → xP (D184_12 F f 1 m) (fun v m' => (v = 0 ∧ rZ m0 b n s0 pm0 m') ∨ (v = 1 ∧ ∃ pr', rD m0 b n t cs ln rp ou s0 pm0 cl pr' 15 m')) := by
  have n4 := N.2.1
  intro f
  induction f with
  | zero => intro pr m _ l; omega
  | succ f ih =>
    intro pr m h l
    unfold D184_12
    refine xP_i (fun c => absurd c (by decide)) (fun _ => ?_)
    refine xP_b (show xP (D181 F m) _ from R181_2 hF N ht hT F h (by omega)) (fun v m1 q => ?_)
    dsimp only
    rcases q with ⟨rfl, q⟩ | ⟨rfl, pr1, l1, q⟩
    · exact xP_i (fun c => absurd c (by decide)) (fun _ => xP_r (Or.inl ⟨rfl, q⟩))
    refine xP_i (fun _ => ?_) (fun c => absurd c (by decide))
    refine xP_b (R183 hF N ht hT q) (fun _ m2 q2 => ?_)
    obtain ⟨pr2, op, wh, l2, ⟨ex1, ex2⟩, b1, b2, b3, b4, hY⟩ := q2
    obtain ⟨j, pm, k, nu, rc, out, Z, a1, a2, a3, a4, a5, a6, a7, a8, a9⟩ := hY
    have ea : tsk b n pm = pr2 := by rw [← a4, ex1]
    have rl : rc.length = Z.length + out.length := by
      have := congrArg List.length a6
      rw [List.length_map, List.length_append, List.length_reverse] at this
      exact this
    have prn : pr2 ≤ n := a9.2.2.1.2
    have a7' := a7
    rw [List.length_map] at a7'
    have wp : twd b n pr2 = twd b n pm := twd_eq a4
    have jf := tjnt_f (b := b) (n := n) (cl := cl) (pm := pm) (k := k) (wh := wh) (out := out ++ ou) (wait := Z ++ op.map teo) b2 (fun z => by rw [← a4]; exact b3 z)
    have p1 : ∀ o : Int, 1 ≤ tcl o → tcl o ≤ 3 → (tSe o (Z ++ op.map teo) (out ++ ou)).1 = (tSe o (op.map teo) (rc.map tenc)).1 ++ ou ∧ (tSe o (Z ++ op.map teo) (out ++ ou)).2.1 = (tSe o (op.map teo) (rc.map tenc)).2.1 := fun o o1 o3 => by
      have p1 := tSe_pre o Z (op.map teo) (out ++ ou) (fun z hz => by have := a5 z hz; omega)
      have p2 := tSe_out o (op.map teo) (Z.reverse ++ out) ou
      rw [p1.1, p1.2, ← List.append_assoc, p2.1, p2.2, a6]
      exact ⟨rfl, rfl⟩
    have tbz := tbr_app Z (op.map teo) (fun z hz => by have := a5 z hz; omega)
    -- and, or
    have join : ∀ {w0 : Int32} {o : Int} {nu' : Int} {m3 : xS}, (o = 1 ∨ o = 2) → teo w0.toInt = o → (w0.toInt = 12 ∨ w0.toInt = 13) → tenf b n pm k (out ++ ou) (Z ++ op.map teo) cl wh = .inr (tle b n pm, k, (tSe o (Z ++ op.map teo) (out ++ ou)).1, o :: (tSe o (Z ++ op.map teo) (out ++ ou)).2.1, cl, 1, wh) → pr2 + 2 ≤ tle b n pm → rC m0 n t pr2 0 nu' (k : Int) (rc ++ rp) cs op (tdp (op.map teo) : Int) ln m3 → xP (D184_76 F (D184_12 F f) 1 w0 m3) (fun v m' => (v = 0 ∧ rZ m0 b n s0 pm0 m') ∨ (v = 1 ∧ ∃ pr', rD m0 b n t cs ln rp ou s0 pm0 cl pr' 15 m')) := by
      intro w0 o nu' m3 ho ew w12 te lp hM
      have o1 : tcl o = o := by rcases ho with rfl | rfl <;> decide
      unfold D184_76
      refine xP_b (R168 hF (rN_t N hM) (rC_t hM)) (fun _ m4 q4 => ?_)
      have c4 := rC_T hM q4
      have el : tS tlt b n pr2 = tle b n pm := by
        show tS tlt b n pr2 = tS tlt b n (tsk b n pm)
        rw [ea]
      rw [el] at c4
      refine xP_b R175 (fun r5 m5 q5 => ?_)
      obtain ⟨rfl, q5⟩ := q5
      have er : r5.toInt = tcl o := by
        rw [q5, o1, ← ew]
        exact (teo_le (Or.inr (Or.inr w12))).2.2.2.2.2
      refine xP_b (R176 (o := o) hF ht hT er (by omega) c4 b1 (by omega)) (fun _ m6 q6 => ?_)
      obtain ⟨rc1, op1, c1, c2, c3, c5⟩ := q6
      have sl := tSe_len o (op.map teo) (rc.map tenc)
      rw [← c2, ← c3, List.length_map, List.length_map, List.length_map, List.length_map] at sl
      have dd := (tSe_dp (o := o) (by omega) (op.map teo) (rc.map tenc)).1
      rw [← c3] at dd
      have h9 := c1.2.2.2.2.2.2.2.2.1.1
      have ei : (m6.1 70 16).toNatClampNeg = op1.length := by show (m6.1 70 16).toInt.toNat = _; omega
      have tn : tle b n pm ≤ n := c1.2.2.1.2
      dsimp only
      refine xP_g (xib_t (by omega) (by omega)) ?_
      rw [ei]
      have hp := rC_push (v := w0) (u := m6.1 70 16 + 1) c1 (by omega) ((xa1 (by show _ ≤ _ + (1 : Int); omega) (by show _ + (1 : Int) ≤ _; omega)).trans (by rw [h9]; rfl))
      have et : tdp ((w0.toInt :: op1).map teo) = tdp (op1.map teo) := by
        show (if teo w0.toInt = 0 ∨ teo w0.toInt = 3 then 1 else 0) + tdp (op1.map teo) = _
        rw [if_neg (by omega), Nat.zero_add]
      refine ih (pr := tle b n pm) ⟨j + 1, tle b n pm, k, nu', rc1, rc1.map tenc, w0.toInt :: op1, wh, (stn_add j a1).trans (stn_1 (jf.trans ?_)), by omega, Nat.le_refl _, rfl, rfl, ⟨a7'.1, ?_⟩, a8, ?_, by omega, ?_⟩ (by omega)
      · rw [te, (p1 o (by omega) (by omega)).1, (p1 o (by omega) (by omega)).2, ← c2, ← c3, ← ew]
        rfl
      · rw [List.length_map, List.length_cons]
        omega
      · intro x hx
        rcases List.mem_cons.mp hx with rfl | hx
        · exact Or.inr (Or.inr w12)
        · exact c5 x hx
      · rw [et]
        exact hp
    have wlen : ∀ {W : List Int}, twd b n pm = W → tS tlt b n pr2 - pr2 = W.length ∧ tle b n pm = tS tlt b n pr2 := fun {W} e => by
      have z := tw_eq e
      show tS tlt b n pr2 - pr2 = W.length ∧ tS tlt b n (tsk b n pm) = tS tlt b n pr2
      rw [show tS tbl b n pm = pr2 from ea] at z
      rw [ea]
      exact ⟨z, rfl⟩
    refine xP_b (R167 (W := tAnd) (w := 6385252) hF (rN_t N a9) (rC_t a9) (by decide) (by decide) (by decide)) (fun r3 m3 q3 => ?_)
    obtain ⟨q3, e3⟩ := q3
    have c3 := rC_T a9 q3
    rw [ex1] at c3
    rw [wp] at e3
    dsimp only
    refine xP_i (fun c => ?_) (fun c => ?_)
    · have wA : twd b n pm = tAnd := by
        rcases e3 with ⟨-, z⟩ | ⟨z, -⟩
        · exact z
        · rw [z] at c
          cases c
      unfold D184_49 D184_54
      refine xP_i (fun c => absurd c (by decide)) (fun _ => ?_)
      refine xP_b (R167 (W := tAnd) (w := 6385252) hF (rN_t N c3) (rC_t c3) (by decide) (by decide) (by decide)) (fun r4 m4 q4 => ?_)
      obtain ⟨q4, e4⟩ := q4
      have c4 := rC_T c3 q4
      rw [ex1] at c4
      rw [wp] at e4
      dsimp only
      refine xP_i (fun d => ?_) (fun d => ?_)
      · rcases e4 with ⟨z, -⟩ | ⟨-, z⟩
        · rw [z] at d
          cases d
        · exact absurd wA z
      · obtain ⟨w1, w2⟩ := wlen wA
        have : (tAnd : List Int).length = 3 := rfl
        refine join (w0 := 12) (o := 2) (Or.inr rfl) (by decide) (Or.inl rfl) ?_ (by omega) c4
        unfold tenf
        rw [wA, show tix tAnd tw1006 = some 0 by decide]
        rfl
    · have nA : twd b n pm ≠ tAnd := by
        rcases e3 with ⟨z, -⟩ | ⟨-, z⟩
        · rw [z] at c
          cases c
        · exact z
      refine xP_b (R167 (W := tOr) (w := 28530) hF (rN_t N c3) (rC_t c3) (by decide) (by decide) (by decide)) (fun r4 m4 q4 => ?_)
      obtain ⟨q4, e4⟩ := q4
      have c4 := rC_T c3 q4
      rw [ex1] at c4
      rw [wp] at e4
      dsimp only
      refine xP_i (fun d => ?_) (fun d => ?_)
      · have nO : twd b n pm ≠ tOr := by
          rcases e4 with ⟨z, -⟩ | ⟨-, z⟩
          · rw [z] at d
            cases d
          · exact z
        have tn : tix (twd b n pm) tw1006 = none := by
          show tix (twd b n pm) [tAnd, tOr] = none
          rw [tix_ne nA, tix_ne nO]
          rfl
        have tf : tenf b n pm k (out ++ ou) (Z ++ op.map teo) cl wh = (if tbr (op.map teo) = 0 then tendc b n 15 pm k (out ++ ou) (Z ++ op.map teo) cl wh else if tsg b n pr2 = 93 then .inr (tsk b n pm + 1, k, (tSe 1 (Z ++ op.map teo) (out ++ ou)).1, (tSe 1 (Z ++ op.map teo) (out ++ ou)).2.1.tail, cl, 3, 3) else .inl (1 + 8 * (pr2 : Int))) := by
          unfold tenf
          rw [tn]
          dsimp only
          rw [tbz, ea]
        obtain ⟨f', rfl⟩ : ∃ f', f = f' + 1 := ⟨f - 1, by omega⟩
        unfold D184_54
        refine xP_i (fun _ => ?_) (fun c => absurd c (by decide))
        unfold D184_12
        refine xP_i (fun _ => ?_) (fun c => absurd c (by decide))
        refine xP_b (R182 hF c4 b1) (fun r5 mx q5 => ?_)
        obtain ⟨rfl, q5⟩ := q5
        dsimp only
        refine xP_i (fun g => ?_) (fun g => ?_)
        · have t0 : tbr (op.map teo) = 0 := by
            rcases q5 with ⟨z, -⟩ | ⟨-, z⟩
            · rw [z] at g
              cases g
            · exact z
          refine xP_b (R176 (o := 1) hF ht hT (by decide) (by decide) c4 b1 (by omega)) (fun _ m6 q6 => ?_)
          obtain ⟨rc1, op1, d1, d2, d3, d4⟩ := q6
          have sl := tSe_len 1 (op.map teo) (rc.map tenc)
          have dd := (tSe_dp (o := 1) (by decide) (op.map teo) (rc.map tenc)).2
          have hd := tSe_hd 1 (op.map teo) (rc.map tenc)
          rw [← d3] at dd hd
          have o10 : op1 = [] := by
            cases op1 with
            | nil => rfl
            | cons o0 os =>
              exfalso
              have z := hd (teo o0) (os.map teo) rfl
              obtain ⟨t1, t2, t3, t4, -⟩ := teo_le (d4 o0 List.mem_cons_self)
              have e11 : tcl 1 = 1 := rfl
              have z0 : teo o0 = 0 := by omega
              rw [t0] at dd
              exact (tbr_0 _).mp dd.symm (teo o0) List.mem_cons_self z0
          have pp := tSe_pre 1 Z (op.map teo) out (fun z hz => by have := a5 z hz; have e11 : tcl 1 = 1 := rfl; omega)
          refine xP_r (Or.inr ⟨rfl, pr2, j, pm, k, _, rc1, out, Z ++ op.map teo, op1, wh, _, a1, jf.trans (tf.trans (if_pos t0)), a2, a3, a4, ?_, ?_, ⟨a7'.1, ?_⟩, a8, d1⟩)
          · rw [pp.1, ← a6]
            exact d2
          · rw [pp.2, ← a6, ← d3, o10]
            rfl
          · rw [← d2, ← d3, List.length_map, List.length_map, List.length_map, List.length_map] at sl
            omega
        · have t0 : tbr (op.map teo) ≠ 0 := by
            rcases q5 with ⟨-, z⟩ | ⟨z, -⟩
            · exact z
            · rw [z] at g
              cases g
          have s93 : tsg b n pr2 ≠ 93 := by
            rcases ex2 with z | z
            · exact z
            · exact absurd z t0
          refine xP_b (R164 hF (rN_t N c4) (rC_t c4)) (fun v6 m6 q6 => ?_)
          have c6 := rC_T c4 q6.1
          rw [show tS tbl b n pr2 = pr2 from ex1] at c6
          have h36 := c6.2.2.1
          dsimp only
          refine xP_b (R163c c6 (by omega) (by omega) (by decide) (by decide)) (fun r7 m7 q7 => ?_)
          obtain ⟨rfl, q7⟩ := q7
          refine xP_g (show xbo (0 : Int32) = true by decide) (xP_r (Or.inl ⟨rfl, j + 1, 1 + 8 * (pr2 : Int), by omega, (stn_add j a1).trans (stn_1 (jf.trans (tf.trans ((if_neg t0).trans (if_neg s93))))), by omega, ?_⟩))
          rw [h36.1, show (1 + 8 * (pr2 : Int) + (0 : Int32).toInt) = 1 + 8 * (pr2 : Int) from Int.add_zero _] at q7
          exact ⟨_, _, _, _, _, _, _, _, _, _, hT, q7⟩
      · have wO : twd b n pm = tOr := by
          rcases e4 with ⟨-, z⟩ | ⟨z, -⟩
          · exact z
          · rw [z] at d
            cases d
        unfold D184_49 D184_54
        refine xP_i (fun c => absurd c (by decide)) (fun _ => ?_)
        refine xP_b (R167 (W := tAnd) (w := 6385252) hF (rN_t N c4) (rC_t c4) (by decide) (by decide) (by decide)) (fun r5 m5 q5 => ?_)
        obtain ⟨q5, e5⟩ := q5
        have c5 := rC_T c4 q5
        rw [ex1] at c5
        rw [wp] at e5
        dsimp only
        refine xP_i (fun d => ?_) (fun d => ?_)
        · obtain ⟨w1, w2⟩ := wlen wO
          have : (tOr : List Int).length = 2 := rfl
          refine join (w0 := 13) (o := 1) (Or.inl rfl) (by decide) (Or.inr rfl) ?_ (by omega) c5
          unfold tenf
          rw [wO, show tix tOr tw1006 = some 1 by decide]
          rfl
        · rcases e5 with ⟨-, z⟩ | ⟨z, -⟩
          · exact absurd z nA
          · rw [z] at d
            cases d
end RTS
end
section
/-! The reference's clauses: the machine does the same. -/
section RLE
variable {m0 m : xS} {b : Nat → Int} {n t p : Nat} {ft nu k : Int} {rc : List Int} {cs : List (Int × Int × Int × Int)} {op : List Int} {dp ln : Int} {F : Nat}
/-- a place of the clause's row that is being told -/
theorem rC_74 {v : Int32} {j : Nat} (ht : t < 6) (h : rC m0 n t p ft nu k rc cs op dp ln m) (j1 : 48 * t + 4 * cs.length ≤ j) (j2 : j < 48 * t + 48) : rC m0 n t p ft nu k rc cs op dp ln (xu m 74 j v) := by
  obtain ⟨h1, h2, h3, h4, h5, h6, h7, h8, h9, h10, h11, h12⟩ := h
  have b0 : xbn 74 j = some (-2147483648, 2147483647) := xbn_a (k := 0) (n := 288) (ec := 0) (by decide) rfl (by decide) (by omega)
  have q : ∀ {i l : Nat}, i ≠ 74 → (xu m 74 j v).1 i l = m.1 i l := fun z => xu_o (fun y => z y.1)
  exact ⟨xT_c h1 b0 (y32 v).1 (by have := (y32 v).2; omega), xfr_t h2 (xfr_u (by unfold yinM; rfl)), ⟨(congrArg Int32.toInt (q (by decide))).trans h3.1, h3.2⟩, (congrArg Int32.toInt (q (by decide))).trans h4, (congrArg Int32.toInt (q (by decide))).trans h5, (congrArg Int32.toInt (q (by decide))).trans h6, ⟨(congrArg Int32.toInt (q (by decide))).trans h7.1, (tk_c _ (fun l _ => q (by decide))).trans h7.2⟩, ⟨(congrArg Int32.toInt (q (by decide))).trans h8.1, (tq_c _ (fun l l1 l2 => xu_o (fun z => by omega))).trans h8.2⟩, ⟨(congrArg Int32.toInt (q (by decide))).trans h9.1, (tk_c _ (fun l _ => q (by decide))).trans h9.2⟩, (congrArg Int32.toInt (q (by decide))).trans h10, (congrArg Int32.toInt (q (by decide))).trans h11, ⟨fun l hl => (q (by decide)).trans (h12.1 l hl), fun l hl => ⟨(q (by decide)).trans (h12.2.1 l hl).1, (q (by decide)).trans (h12.2.1 l hl).2⟩, fun l hl => (xu_o (fun z => by omega)).trans (h12.2.2 l hl)⟩⟩
theorem rC_75 {v : Int32} (ht : t < 6) (h : rC m0 n t p ft nu k rc cs op dp ln m) (e : v.toInt = cs.length + 1) (l : cs.length + 1 ≤ 12) : ∃ cs', cs'.length = cs.length + 1 ∧ rC m0 n t p ft nu k rc cs' op dp ln (xu m 75 t v) := by
  obtain ⟨h1, h2, h3, h4, h5, h6, h7, h8, h9, h10, h11, h12⟩ := h
  have q : ∀ {i l : Nat}, i ≠ 75 → (xu m 75 t v).1 i l = m.1 i l := fun z => xu_o (fun y => z y.1)
  refine ⟨((m.1 74 (48 * t + 4 * cs.length)).toInt, (m.1 74 (48 * t + 4 * cs.length + 1)).toInt, (m.1 74 (48 * t + 4 * cs.length + 2)).toInt, (m.1 74 (48 * t + 4 * cs.length + 3)).toInt) :: cs, rfl, ?_⟩
  refine ⟨xT_c h1 (rb75 ht) (by omega) (by omega), xfr_t h2 (xfr_u (by unfold yinM; rfl)), ⟨(congrArg Int32.toInt (q (by decide))).trans h3.1, h3.2⟩, (congrArg Int32.toInt (q (by decide))).trans h4, (congrArg Int32.toInt (q (by decide))).trans h5, (congrArg Int32.toInt (q (by decide))).trans h6, ⟨(congrArg Int32.toInt (q (by decide))).trans h7.1, (tk_c _ (fun l _ => q (by decide))).trans h7.2⟩, ⟨(congrArg Int32.toInt (xu_s _ _ _ _)).trans (e.trans (by rw [List.length_cons]; omega)), ?_⟩, ⟨(congrArg Int32.toInt (q (by decide))).trans h9.1, (tk_c _ (fun l _ => q (by decide))).trans h9.2⟩, (congrArg Int32.toInt (q (by decide))).trans h10, (congrArg Int32.toInt (q (by decide))).trans h11, ⟨fun l hl => (q (by decide)).trans (h12.1 l hl), fun l hl => ⟨(q (by decide)).trans (h12.2.1 l hl).1, (xu_o (fun z => hl z.2)).trans (h12.2.1 l hl).2⟩, fun l hl => (q (by decide)).trans (h12.2.2 l hl)⟩⟩
  rw [xu_row (by decide)]
  show _ :: tq (m.1 74) (48 * t) cs.length = _
  rw [h8.2]
end RLE
section RLF
variable {m0 m : xS} {b : Nat → Int} {n t : Nat} {cs : List (Int × Int × Int × Int)} {ln : Int} {F : Nat} {s0 : tSt} {pm0 : Nat} {cl : Nat} {rp ou : List Int}
/-- the places of text and clauses -/
theorem rC_at {p : Nat} {ft nu k : Int} {rc op : List Int} {dp : Int} (ht : t < 6) (hT : (m0.1 70 11).toInt = (t : Int)) (h : rC m0 n t p ft nu k rc cs op dp ln m) (lc : cs.length < 12) : (m.1 70 11).toInt = (t : Int) ∧ (m.1 70 11).toNatClampNeg = t ∧ (48 * (m.1 70 11) + 4 * (m.1 75 t)).toInt = 48 * (t : Int) + 4 * (cs.length : Int) := by
  have h8 := h.2.2.2.2.2.2.2.1.1
  have e11 : (m.1 70 11).toInt = (t : Int) := (congrArg Int32.toInt (h.2.1.2 70 11 rfl)).trans hT
  have e1 : (48 * m.1 70 11).toInt = 48 * (t : Int) := (xm1 (by show _ ≤ (48 : Int) * _; omega) (by show (48 : Int) * _ ≤ _; omega)).trans (by rw [e11]; rfl)
  have e2 : (4 * m.1 75 t).toInt = 4 * (cs.length : Int) := (xm1 (by show _ ≤ (4 : Int) * _; omega) (by show (4 : Int) * _ ≤ _; omega)).trans (by rw [h8]; rfl)
  exact ⟨e11, by show (m.1 70 11).toInt.toNat = t; omega, (xa1 (by omega) (by omega)).trans (by rw [e1, e2])⟩
/-- the clause's row is told -/
theorem R185_110 {a : Int} {pr : Nat} {v1 : Int32} (N : rN m0 b n) (ht : t < 6) (hT : (m0.1 70 11).toInt = (t : Int)) (hv : v1.toInt = 48 * (t : Int) + 4 * (cs.length : Int)) (lc : cs.length < 12) (h : rD m0 b n t cs ln rp ou s0 pm0 cl pr a m) : xP (D185_110 F v1 m) (fun v m' => v = 1 ∧ ∃ cs', cs'.length = cs.length + 1 ∧ rD m0 b n t cs' ln rp ou s0 pm0 cl pr a m') := by
  obtain ⟨j, pm, k, nu, rc, out, wait, op, wh, dp, a1, a2, a3, a4, a5, a6, a7, a8, a9, a10⟩ := h
  obtain ⟨e11, et, -⟩ := rC_at ht hT a10 lc
  have h8 := a10.2.2.2.2.2.2.2.1.1
  have e3 : (v1 + 3).toInt = 48 * (t : Int) + 4 * (cs.length : Int) + 3 := (xa1 (by show _ ≤ _ + (3 : Int); omega) (by show _ + (3 : Int) ≤ _; omega)).trans (by rw [hv]; rfl)
  have ei : (v1 + 3).toNatClampNeg = 48 * t + 4 * cs.length + 3 := by show (v1 + 3).toInt.toNat = _; omega
  have i6 : xib (m.1 70 11) 6 = true := xib_t (by omega) (by omega)
  unfold D185_110
  rw [et, ei]
  refine xP_g (xib_t (by omega) (by omega)) (xP_g (xib_t (by omega) (by omega)) (xP_g i6 (xP_g i6 (xP_r ⟨rfl, ?_⟩))))
  have z := rC_74 (v := m.1 73 t) (j := 48 * t + 4 * cs.length + 3) ht a10 (by omega) (by omega)
  obtain ⟨cs', l1, z2⟩ := rC_75 (v := m.1 75 t + 1) ht z ((xa1 (by show _ ≤ _ + (1 : Int); omega) (by show _ + (1 : Int) ≤ _; omega)).trans (by rw [h8]; rfl)) (by omega)
  exact ⟨cs', l1, j, pm, k, nu, rc, out, wait, op, wh, dp, a1, a2, a3, a4, a5, a6, a7, a8, a9, z2⟩
theorem rZ_m {m' : xS} (h : rZ m0 b n s0 pm0 m) (e : m' = m) : rZ m0 b n s0 pm0 m' := by rw [e]; exact h
/-- isLendHere, behind the machine's step over the word -/
theorem R185 {pr k : Nat} {nu : Int} {op : List Int} {dp : Int} (hF : 500 ≤ F) (N : rN m0 b n) (ht : t < 6) (hT : (m0.1 70 11).toInt = (t : Int)) (lc : cs.length < 12) (st : stn b n 1 s0 = .inr (tS tlt b n pr, k, ou, [], cl, 2, 0)) (l0 : pm0 + 1 ≤ tS tlt b n pr) (hl : rp.length ≤ ou.length ∧ ou.length + 1 ≤ tS tlt b n pr) (hk : k ≤ 60) (h : rC m0 n t pr 0 nu (k : Int) rp cs op dp ln m) : xP (D185 F m) (fun v m' => (v = 0 ∧ rZ m0 b n s0 pm0 m') ∨ (v = 1 ∧ ∃ pr' cs' a, cs'.length = cs.length + 1 ∧ (a = 14 ∨ a = 15) ∧ rD m0 b n t cs' ln rp ou s0 pm0 cl pr' a m')) := by
  have n4 := N.2.1
  unfold D185
  refine xP_b (R168 hF (rN_t N h) (rC_t h)) (fun _ m1 q1 => ?_)
  have c1 := rC_T h q1
  obtain ⟨e11, et, ea⟩ := rC_at ht hT c1 lc
  dsimp only
  rw [et]
  generalize hA : 48 * m1.1 70 11 + 4 * m1.1 75 t = A at *
  have eA : A.toNatClampNeg = 48 * t + 4 * cs.length := by show A.toInt.toNat = _; omega
  have eA1 : (A + 1).toInt = 48 * (t : Int) + 4 * (cs.length : Int) + 1 := (xa1 (by show _ ≤ _ + (1 : Int); omega) (by show _ + (1 : Int) ≤ _; omega)).trans (by rw [ea]; rfl)
  have eA2 : (A + 2).toInt = 48 * (t : Int) + 4 * (cs.length : Int) + 2 := (xa1 (by show _ ≤ _ + (2 : Int); omega) (by show _ + (2 : Int) ≤ _; omega)).trans (by rw [ea]; rfl)
  have nA1 : (A + 1).toNatClampNeg = 48 * t + 4 * cs.length + 1 := by show (A + 1).toInt.toNat = _; omega
  have nA2 : (A + 2).toNatClampNeg = 48 * t + 4 * cs.length + 2 := by show (A + 2).toInt.toNat = _; omega
  refine xP_g (xib_t (by omega) (by omega)) (xP_g (xib_t (by omega) (by omega)) (xP_g (xib_t (by omega) (by omega)) ?_))
  rw [eA]
  have c2 := rC_74 (v := m1.1 73 t) (j := 48 * t + 4 * cs.length) ht c1 (by omega) (by omega)
  refine xP_b (R179 (s0 := (tS tlt b n pr, k, ou, [], cl, 2, 0)) (pm0 := tS tlt b n pr) (pm := tS tlt b n pr) (pr := tS tlt b n pr) (Wt := []) (cl := cl) (wh := 0) (rc := []) (out := []) (rp := rp) (ou := ou) hF N ht hT (by decide) (fun w vs z => (by cases z)) rfl (Nat.le_refl _) (Nat.le_refl _) rfl rfl ⟨hl.1, by show 0 + ou.length + 0 + 1 ≤ _; omega⟩ hk c2) (fun v m2 q2 => ?_)
  dsimp only
  rcases q2 with ⟨rfl, q2⟩ | ⟨rfl, pr2, d1, q2⟩
  · exact xP_i (fun c => absurd c (by decide)) (fun _ => xP_r (Or.inl ⟨rfl, rZ_tr st (by omega) q2⟩))
  · refine xP_i (fun _ => ?_) (fun c => absurd c (by decide))
    obtain ⟨j, pm, k2, nu2, rc, out, Z, a1, a2, a3, a4, a5, a6, a7, a8, a9⟩ := q2
    obtain ⟨f11, ft, -⟩ := rC_at ht hT a9 lc
    rw [ft, nA1, nA2]
    refine xP_g (xib_t (by omega) (by omega)) (xP_g (xib_t (by omega) (by omega)) (xP_g (xib_t (by omega) (by omega)) ?_))
    have c3 := rC_74 (v := (-1)) (j := 48 * t + 4 * cs.length + 2) ht (rC_74 (v := m2.1 73 t) (j := 48 * t + 4 * cs.length + 1) ht a9 (by omega) (by omega)) (by omega) (by omega)
    have rl : rc.length = Z.length + out.length := by
      have := congrArg List.length a6
      rw [List.length_map, List.length_append, List.length_reverse] at this
      exact this
    have st2 : stn b n (1 + j) s0 = .inr (pm, k2, out ++ ou, Z ++ [], cl, 3, 0) := (stn_add 1 st).trans a1
    have jn : tstp b n (pm, k2, out ++ ou, Z ++ [], cl, 3, 0) = tena b n pm k2 (out ++ ou) (Z ++ []) cl 0 := by
      show tjnt b n pm k2 (out ++ ou) (Z ++ []) cl 0 = _
      unfold tjnt
      rw [if_neg (fun z => z.2 (by rw [← a4]; exact d1)), if_pos rfl]
    have sz : ∀ x : List Int, (tSe 1 (Z ++ []) x).1 = Z.reverse ++ x ∧ (tSe 1 (Z ++ []) x).2.1 = [] := fun x => tSe_app (fun w vs z => (by cases z)) Z x (fun z hz => by have := a5 z hz; have e11 : tcl 1 = 1 := rfl; omega)
    unfold D169
    refine xP_b (R := fun v m' => rC m0 n t (if v = 1 then tle b n pr2 else tsk b n pr2) 0 nu2 (k2 : Int) (rc ++ rp) cs op dp ln m' ∧ ((v = 1 ∧ twd b n pr2 = tIf) ∨ (v = 0 ∧ twd b n pr2 ≠ tIf))) ?_ (fun v m3 q3 => ?_)
    · refine xP_b (R167 (W := tIf) (w := 26982) hF (rN_t N c3) (rC_t c3) (by decide) (by decide) (by decide)) (fun r4 m4 q4 => ?_)
      obtain ⟨q4, e4⟩ := q4
      have c4 := rC_T c3 q4
      dsimp only
      rcases e4 with ⟨rfl, e4⟩ | ⟨rfl, e4⟩
      · refine xP_i (fun _ => ?_) (fun c => absurd c (by decide))
        refine xP_b (R168 hF (rN_t N c4) (rC_t c4)) (fun _ m5 q5 => xP_r ⟨?_, Or.inl ⟨rfl, e4⟩⟩)
        rw [if_pos rfl]
        exact rC_T c4 q5
      · refine xP_i (fun c => absurd c (by decide)) (fun _ => xP_r ⟨?_, Or.inr ⟨rfl, e4⟩⟩)
        rw [if_neg (by decide)]
        exact c4
    · obtain ⟨c4, q4⟩ := q3
      dsimp only
      have gs : pr2 ≤ tsk b n pr2 := tS_ge pr2
      have ids : tsk b n (tsk b n pr2) = tsk b n pr2 := tS_id pr2
      rcases q4 with ⟨rfl, q4⟩ | ⟨rfl, q4⟩
      · rw [if_pos rfl] at c4
        have tI : twd b n pm = tIf := (twd_eq a4).symm.trans q4
        have el : tle b n pr2 = tle b n pm := by
          show tS tlt b n (tsk b n pr2) = tS tlt b n (tsk b n pm)
          rw [a4]
        have len : tS tlt b n (tsk b n pm) - tsk b n pm = 2 := tw_eq tI
        have gpm : pm ≤ tsk b n pm := tS_ge pm
        refine xP_i (fun c => absurd c (by decide)) (fun _ => ?_)
        obtain ⟨g11, gt, -⟩ := rC_at ht hT c4 lc
        rw [gt]
        refine xP_g (xib_t (by omega) (by omega)) (xP_g (xib_t (by omega) (by omega)) ?_)
        have c5 := rC_74 (v := m3.1 73 t) (j := 48 * t + 4 * cs.length + 2) ht c4 (by omega) (by omega)
        unfold D184
        have c6 := rC_dp (v := 0) (x := ((tdp (([] : List Int).map teo) : Nat) : Int)) (rC_len (v := 0) (os := []) c5 rfl rfl (Nat.zero_le _)) rfl
        have tpn : tle b n pr2 ≤ n := c4.2.2.1.2
        refine xP_b (R184_12 (pr := tle b n pr2) (s0 := s0) (pm0 := pm0) (cl := cl) (rp := rp) (ou := ou) (cs := cs) (ln := ln) hF N ht hT F ⟨1 + j + 1, tle b n pm, k2, nu2, rc, rc.map tenc, [], 0, (stn_add (1 + j) st2).trans (stn_1 (jn.trans ?_)), ?_, by rw [el]; exact Nat.le_refl _, by rw [el], rfl, ⟨a7.1, ?_⟩, a8, fun x hx => (by cases hx), Nat.zero_le _, c6⟩ (by omega)) (fun v m7 q7 => ?_)
        · unfold tena
          rw [tI, show tix tIf tw1005 = some 0 by decide]
          dsimp only
          rw [(sz _).1, (sz _).2, a6, List.append_assoc]
          rfl
        · show pm0 + (1 + j + 1) ≤ tS tlt b n (tsk b n pm)
          omega
        · have a72 := a7.2
          have z0 : ([] : List Int).length = 0 := rfl
          rw [z0] at a72
          rw [List.length_map]
          show rc.length + ou.length + 0 + 1 ≤ tS tlt b n (tsk b n pm)
          omega
        · dsimp only
          rcases q7 with ⟨rfl, q7⟩ | ⟨rfl, pr3, q7⟩
          · exact xP_i (fun c => absurd c (by decide)) (fun _ => xP_r (Or.inl ⟨rfl, q7⟩))
          · refine xP_i (fun _ => ?_) (fun c => absurd c (by decide))
            refine xP_m (R185_110 N ht hT ea lc q7) (fun v m8 q8 => ?_)
            obtain ⟨e8, cs', l8, q8⟩ := q8
            exact Or.inr ⟨e8, pr3, cs', 15, l8, Or.inr rfl, q8⟩
      · rw [if_neg (by decide)] at c4
        have tI : twd b n pm ≠ tIf := fun z => q4 ((twd_eq a4).trans z)
        refine xP_i (fun _ => ?_) (fun c => absurd c (by decide))
        have a72 := a7.2
        have z0 : ([] : List Int).length = 0 := rfl
        rw [z0] at a72
        refine xP_m (R185_110 (a := 14) (pr := tsk b n pr2) (s0 := s0) (pm0 := pm0) (cl := cl) (rp := rp) (ou := ou) N ht hT ea lc ⟨1 + j, pm, k2, nu2, rc, out, Z ++ [], op, 0, dp, st2, jn.trans ?_, by omega, by omega, by rw [ids]; exact a4, ?_, (sz _).2, ⟨a7.1, by omega⟩, a8, c4⟩) (fun v m8 q8 => ?_)
        · unfold tena
          rw [show tix (twd b n pm) tw1005 = none from tix_ne tI]
        · rw [(sz _).1]
          exact a6
        · obtain ⟨e8, cs', l8, q8⟩ := q8
          exact Or.inr ⟨e8, _, cs', 14, l8, Or.inl rfl, q8⟩
end RLF
end
section
/-! The reference's rule: the machine decides it. -/
abbrev tS0 : tSt := (0, 0, [], [], 0, 0, 0)
section RRU
variable {m0 m : xS} {b : Nat → Int} {n t : Nat} {F : Nat} {s0 : tSt} {pm0 : Nat}
/-- a clause must come -/
def rG (m0 : xS) (b : Nat → Int) (n t : Nat) (cs : List (Int × Int × Int × Int)) (rp ou : List Int) (s0 : tSt) (pm0 cl pr : Nat) (m : xS) : Prop := ∃ (j pm k : Nat) (nu : Int) (op : List Int) (dp : Int) (wh : Nat), stn b n j s0 = .inr (pm, k, ou, [], cl, 0, wh) ∧ pm0 + j ≤ pm ∧ pm ≤ pr ∧ tsk b n pr = tsk b n pm ∧ (rp.length ≤ ou.length ∧ ou.length ≤ pm) ∧ k ≤ 60 ∧ cs.length = cl ∧ cl ≤ 12 ∧ rC m0 n t pr 0 nu (k : Int) rp cs op dp (cl : Int) m
theorem rD_tr {cs : List (Int × Int × Int × Int)} {ln : Int} {rp ou : List Int} {cl pr i : Nat} {a : Int} {s1 : tSt} {pm1 : Nat} (h : stn b n i s0 = .inr s1) (l : pm0 + i ≤ pm1) (z : rD m0 b n t cs ln rp ou s1 pm1 cl pr a m) : rD m0 b n t cs ln rp ou s0 pm0 cl pr a m := by
  obtain ⟨j, pm, k, nu, rc, out, wait, op, wh, dp, a1, a2, a3, a4⟩ := z
  exact ⟨i + j, pm, k, nu, rc, out, wait, op, wh, dp, (stn_add i h).trans a1, a2, by omega, a4⟩
/-- clauseHere -/
theorem R195 {cs : List (Int × Int × Int × Int)} {rp ou : List Int} {cl pr : Nat} (hF : 500 ≤ F) (N : rN m0 b n) (ht : t < 6) (hT : (m0.1 70 11).toInt = (t : Int)) (h : rG m0 b n t cs rp ou s0 pm0 cl pr m) : xP (D195 F m) (fun v m' => (v = 0 ∧ rZ m0 b n s0 pm0 m') ∨ (v = 1 ∧ cl + 1 ≤ 12 ∧ ∃ pr' cs' a, cs'.length = cl + 1 ∧ (a = 14 ∨ a = 15) ∧ rD m0 b n t cs' ((cl + 1 : Nat) : Int) rp ou s0 pm0 (cl + 1) pr' a m')) := by
  have n4 := N.2.1
  obtain ⟨j, pm, k, nu, op, dp, wh, a1, a2, a3, a4, a5, a6, a7, a8, a9⟩ := h
  have prn : pr ≤ n := a9.2.2.1.2
  have gs : pr ≤ tsk b n pr := tS_ge pr
  have ids : tsk b n (tsk b n pr) = tsk b n pr := tS_id pr
  unfold D195
  refine xP_b (R164 hF (rN_t N a9) (rC_t a9)) (fun v1 m1 q1 => ?_)
  have c1 := rC_T a9 q1.1
  have h3 := c1.2.2.1
  have e11 : (m1.1 70 11).toInt = (t : Int) := (congrArg Int32.toInt (c1.2.1.2 70 11 rfl)).trans hT
  have stp : tstp b n (pm, k, ou, [], cl, 0, wh) = tlnd b n pm k ou [] cl := rfl
  dsimp only
  refine xP_i (fun _ => ?_) (fun c => ?_)
  · unfold D195_24 D195_49
    refine xP_i (fun _ => ?_) (fun c => absurd c (by decide))
    refine xP_b (R167 (W := tLend) (w := 1818586724) hF (rN_t N c1) (rC_t c1) (by decide) (by decide) (by decide)) (fun r2 m2 q2 => ?_)
    obtain ⟨q2, e2⟩ := q2
    have c2 := rC_T c1 q2
    rw [show tsk b n (tS tbl b n pr) = tsk b n pr from ids] at c2
    rw [show twd b n (tS tbl b n pr) = twd b n pm from (twd_id b n pr).trans (twd_eq a4)] at e2
    dsimp only
    rcases e2 with ⟨rfl, e2⟩ | ⟨rfl, e2⟩
    · refine xP_i (fun _ => ?_) (fun c => absurd c (by decide))
      have tl : tlnd b n pm k ou [] cl = if 12 ≤ cl then .inl (1 + 8 * (tsk b n pm : Int) + 4) else .inr (tle b n pm, k, ou, [], cl + 1, 2, 0) := by
        unfold tlnd
        rw [e2, show tix tLend tw1002 = some 0 by decide]
      have len : tS tlt b n (tsk b n pm) - tsk b n pm = 4 := tw_eq e2
      have h11 := c2.2.2.2.2.2.2.2.2.2.2.1
      unfold D195_56 D195_71
      refine xP_i (fun _ => ?_) (fun c => absurd c (by decide))
      refine xP_i (fun c => ?_) (fun c => ?_)
      · have c : (m2.1 70 14).toInt ≠ 12 := zt c
        have cl12 : ¬ 12 ≤ cl := by omega
        refine xP_i (fun _ => ?_) (fun c => absurd c (by decide))
        have c3 := rC_ln (v := m2.1 70 14 + 1) (x := ((cl + 1 : Nat) : Int)) c2 ((xa1 (by show _ ≤ _ + (1 : Int); omega) (by show _ + (1 : Int) ≤ _; omega)).trans (by rw [h11]; rfl)) (by omega) (by omega)
        have el : tle b n pm = tS tlt b n (tsk b n pr) := by
          show tS tlt b n (tsk b n pm) = _
          rw [a4]
        have gpm : pm ≤ tsk b n pm := tS_ge pm
        refine xP_b (R185 (s0 := (pm, k, ou, [], cl, 0, wh)) (pm0 := pm) (cl := cl + 1) (rp := rp) (ou := ou) (pr := tsk b n pr) (k := k) hF N ht hT (by omega) (stn_1 (stp.trans (tl.trans ((if_neg cl12).trans (by rw [el]))))) (by rw [← a4] at len; omega) (by rw [← a4] at len; exact ⟨a5.1, by omega⟩) a6 c3) (fun v m4 q4 => ?_)
        rcases q4 with ⟨rfl, q4⟩ | ⟨rfl, pr', cs', a, l4, b4, q4⟩
        · exact xP_g (show xbo (0 : Int32) = true by decide) (xP_r (Or.inl ⟨rfl, rZ_tr a1 a2 q4⟩))
        · exact xP_g (show xbo (1 : Int32) = true by decide) (xP_r (Or.inr ⟨rfl, by omega, pr', cs', a, by omega, b4, rD_tr a1 a2 q4⟩))
      · have c : (m2.1 70 14).toInt = 12 := Decidable.not_not.mp (zf c)
        refine xP_b (R163c c2 (by omega) (by omega) (by decide) (by decide)) (fun r5 m5 q5 => ?_)
        obtain ⟨rfl, q5⟩ := q5
        refine xP_g (show xbo (0 : Int32) = true by decide) (xP_r (Or.inl ⟨rfl, j + 1, 1 + 8 * (tsk b n pm : Int) + 4, by omega, (stn_add j a1).trans (stn_1 (stp.trans (tl.trans (if_pos (by omega))))), by omega, ?_⟩))
        rw [h3.1] at q5
        rw [← a4]
        exact ⟨_, _, _, _, _, _, _, _, _, _, hT, q5⟩
    · refine xP_i (fun c => absurd c (by decide)) (fun _ => ?_)
      have tl : tlnd b n pm k ou [] cl = .inl (1 + 8 * (tsk b n pm : Int)) := by
        unfold tlnd
        rw [show tix (twd b n pm) tw1002 = none from tix_ne e2]
      refine xP_b (R163c c2 (by omega) (by omega) (by decide) (by decide)) (fun r5 m5 q5 => ?_)
      obtain ⟨rfl, q5⟩ := q5
      refine xP_g (show xbo (0 : Int32) = true by decide) (xP_r (Or.inl ⟨rfl, j + 1, 1 + 8 * (tsk b n pm : Int), by omega, (stn_add j a1).trans (stn_1 (stp.trans tl)), by omega, ?_⟩))
      rw [h3.1, show (1 + 8 * ((tS tbl b n pr : Nat) : Int) + (0 : Int32).toInt) = 1 + 8 * ((tS tbl b n pr : Nat) : Int) from Int.add_zero _] at q5
      rw [← a4]
      exact ⟨_, _, _, _, _, _, _, _, _, _, hT, q5⟩
  · have c : (m1.1 70 11).toInt = 6 := Decidable.not_not.mp (zf c)
    omega
/-- what readsAll comes to -/
def rE (m0 : xS) (b : Nat → Int) (n : Nat) (v : Int32) (m : xS) : Prop := (m.1 70 1).toInt = 0 ∧ xT m ∧ xfr ((70, 70, 1) :: rM) m0 m ∧ ((v = 0 ∧ ∃ (J : Nat) (g : Int), J ≤ 401 ∧ g ≠ 0 ∧ stn b n J tS0 = .inl g ∧ (m.1 70 9).toInt = g) ∨ (v = 1 ∧ ∃ (J : Nat) (s : tSt), J ≤ 401 ∧ stn b n J tS0 = .inr s ∧ s.2.2.2.2.2.1 = 4 ∧ (m.1 70 9).toInt = 0))
theorem rE_end {v1 : Int32} {nn tt p : Nat} {g nu k : Int} {rc : List Int} {cs : List (Int × Int × Int × Int)} {op : List Int} {dp ln : Int} (h : rC m0 nn tt p g nu k rc cs op dp ln m) (hJ : (g ≠ 0 ∧ ∃ J, J ≤ 401 ∧ stn b n J tS0 = .inl g) ∨ (g = 0 ∧ ∃ (J : Nat) (s : tSt), J ≤ 401 ∧ stn b n J tS0 = .inr s ∧ s.2.2.2.2.2.1 = 4)) : xP (D196_88 F v1 m) (rE m0 b n) := by
  have h4 := h.2.2.2.1
  have b0 : xT (xu m 70 1 0) := xT_c h.1 (i := 70) (j := 1) rfl (by decide) (by decide)
  have f0 : xfr ((70, 70, 1) :: rM) m0 (xu m 70 1 0) := xfr_t (xfr_l (by decide) h.2.1) (xfr_u rfl)
  have e9 : ((xu m 70 1 0).1 70 9).toInt = g := (congrArg Int32.toInt (xu_o (by decide))).trans h4
  unfold D196_88
  rcases hJ with ⟨g0, J, j1, j2⟩ | ⟨g0, J, s, j1, j2, j3⟩
  · refine xP_i (fun _ => xP_r ⟨rfl, b0, f0, Or.inl ⟨rfl, J, g, j1, g0, j2, e9⟩⟩) (fun c => ?_)
    have c : (m.1 70 9).toInt = 0 := Decidable.not_not.mp (zf c)
    exact absurd (h4.symm.trans c) g0
  · refine xP_i (fun c => ?_) (fun _ => xP_r ⟨rfl, b0, f0, Or.inr ⟨rfl, J, s, j1, j2, j3, e9.trans g0⟩⟩)
    have c : (m.1 70 9).toInt ≠ 0 := zt c
    exact absurd (h4.trans g0) c
theorem rE_f {f : Nat} (n4 : n ≤ 400) (h : rZ m0 b n tS0 0 m) : xP (D196_35 F (f + 1) 0 m) (rE m0 b n) := by
  obtain ⟨J, g, a1, a2, a3, nn, tt, p, nu, k, rc, cs, op, dp, ln, -, a4⟩ := h
  unfold D196_35 D196_66
  refine xP_i (fun _ => ?_) (fun c => absurd c (by decide))
  refine xP_i (fun _ => ?_) (fun c => absurd c (by decide))
  exact rE_end a4 (Or.inl ⟨a1, J, by omega, a2⟩)
theorem R196_35 (hF : 500 ≤ F) (N : rN m0 b n) (ht : t < 6) (hT : (m0.1 70 11).toInt = (t : Int)) : ∀ (f : Nat) {cs : List (Int × Int × Int × Int)} {rp ou : List Int} {cl pr : Nat} {a : Int} {m : xS}, rD m0 b n t cs (cl : Int) rp ou tS0 0 cl pr a m → cs.length = cl → cl ≤ 12 → 14 - cl < f → xP (D196_35 F f 1 m) (rE m0 b n) := by
  have n4 := N.2.1
  intro f
  induction f with
  | zero => intro cs rp ou cl pr a m _ _ _ l; omega
  | succ f ih =>
    intro cs rp ou cl pr a m h hc hl l
    obtain ⟨j, pm, k, nu, rc, out, wait, op, wh, dp, a1, a2, a3, a4, a5, a6, a7, a8, a9, a10⟩ := h
    have prn : pr ≤ n := a10.2.2.1.2
    have gs : pr ≤ tsk b n pr := tS_ge pr
    have ids : tsk b n (tsk b n pr) = tsk b n pr := tS_id pr
    have so := tSe_out 1 wait out ou
    unfold D196_35
    refine xP_i (fun c => absurd c (by decide)) (fun _ => ?_)
    refine xP_b (R164 hF (rN_t N a10) (rC_t a10)) (fun v1 m1 q1 => ?_)
    obtain ⟨q1, e1⟩ := q1
    have c1 := rC_T a10 q1
    have h3 := c1.2.2.1
    have te : tstp b n (pm, k, out ++ ou, wait, cl, 3, wh) = (if tsg b n (tsk b n pr) = 59 then .inr (tsk b n pr + 1, k, a :: (rc.map tenc ++ ou), [], cl, 0, wh) else if tsg b n (tsk b n pr) = -1 then .inr (tsk b n pr, k, a :: (rc.map tenc ++ ou), [], cl, 4, wh) else .inl (1 + 8 * (tsk b n pr : Int))) := by
      rw [a2]
      unfold tendc
      rw [← a5, so.1, so.2, a7, ← a6]
    dsimp only
    refine xP_i (fun c => ?_) (fun c => ?_)
    · have c : v1.toInt ≠ 59 := zt c
      have c59 : ¬ tsg b n (tsk b n pr) = 59 := fun z => c (e1.trans z)
      rw [if_neg c59] at te
      unfold D196_66
      refine xP_i (fun c => absurd c (by decide)) (fun _ => ?_)
      refine xP_b (R164 hF (rN_t N c1) (rC_t c1)) (fun v2 m2 q2 => ?_)
      obtain ⟨q2, e2⟩ := q2
      have c2 := rC_T c1 q2
      rw [show tS tbl b n (tS tbl b n pr) = tsk b n pr from ids] at c2 e2
      have h32 := c2.2.2.1
      dsimp only
      refine xP_i (fun d => ?_) (fun d => ?_)
      · have d : v2.toInt = -1 := zt d
        rw [if_pos (e2.symm.trans d)] at te
        exact rE_end c2 (Or.inr ⟨rfl, j + 1, _, by omega, (stn_add j a1).trans (stn_1 te), rfl⟩)
      · have d : v2.toInt ≠ -1 := zf d
        rw [if_neg (fun z => d (e2.trans z))] at te
        refine xP_b (R163c c2 (by omega) (by omega) (by decide) (by decide)) (fun r5 m5 q5 => ?_)
        obtain ⟨-, q5⟩ := q5
        rw [h32.1, show (1 + 8 * (tsk b n pr : Int) + (0 : Int32).toInt) = 1 + 8 * (tsk b n pr : Int) from Int.add_zero _] at q5
        exact rE_end q5 (Or.inl ⟨by omega, j + 1, by omega, (stn_add j a1).trans (stn_1 te)⟩)
    · have c : v1.toInt = 59 := Decidable.not_not.mp (zf c)
      have c59 : tsg b n (tsk b n pr) = 59 := e1.symm.trans c
      obtain ⟨lt, -⟩ := tsg_lt c59 (by decide)
      rw [if_pos c59] at te
      have hM := rC_T c1 (rT_p (v := m1.1 70 8 + 1) (x := tsk b n pr + 1) (rC_t c1) ((xa1 (by show _ ≤ _ + (1 : Int); omega) (by show _ + (1 : Int) ≤ _; omega)).trans (by rw [h3.1]; rfl)) n4 lt)
      refine xP_b (R195 (cs := cs) (rp := rc ++ rp) (ou := a :: (rc.map tenc ++ ou)) (cl := cl) (pr := tsk b n pr + 1) (s0 := tS0) (pm0 := 0) hF N ht hT ⟨j + 1, tsk b n pr + 1, k, nu, op, dp, wh, (stn_add j a1).trans (stn_1 te), by omega, Nat.le_refl _, rfl, ?_, a9, hc, hl, hM⟩) (fun v m2 q2 => ?_)
      · rw [List.length_cons, List.length_append, List.length_append, List.length_map]
        omega
      · rcases q2 with ⟨rfl, q2⟩ | ⟨rfl, l2, pr', cs', a', l3, -, q2⟩
        · obtain ⟨f', rfl⟩ : ∃ f', f = f' + 1 := ⟨f - 1, by omega⟩
          exact rE_f n4 q2
        · exact ih q2 l3 l2 (by omega)
/-- readsAll -/
theorem R196 (hF : 500 ≤ F) (N : rN m0 b n) (ht : t < 6) (hT : (m0.1 70 11).toInt = (t : Int)) (hX : xT m0) (h75 : m0.1 75 t = 0) : xP (D196 F m0) (rE m0 b n) := by
  have n4 := N.2.1
  have et : (m0.1 70 11).toNatClampNeg = t := by show (m0.1 70 11).toInt.toNat = t; omega
  unfold D196
  rw [et]
  refine xP_g (xib_t (by omega) (by omega)) ?_
  have b16 : 0 ≤ (m0.1 70 16).toInt ∧ (m0.1 70 16).toInt ≤ 400 := hX 70 16 (0, 400) rfl
  have X5 : xT (xu (xu (xu (xu (xu m0 73 t 0) 70 14 0) 70 8 0) 70 9 0) 70 12 0) := xT_c (xT_c (xT_c (xT_c (xT_c hX (rb73 ht) (by decide) (by decide)) (i := 70) (j := 14) rfl (by decide) (by decide)) (i := 70) (j := 8) rfl (by decide) (by decide)) (i := 70) (j := 9) rfl (by decide) (by decide)) (i := 70) (j := 12) rfl (by decide) (by decide)
  have q70 : ∀ {j : Nat}, j ≠ 14 → j ≠ 8 → j ≠ 9 → j ≠ 12 → (xu (xu (xu (xu (xu m0 73 t 0) 70 14 0) 70 8 0) 70 9 0) 70 12 0).1 70 j = m0.1 70 j := fun z1 z2 z3 z4 => (xu_o (fun z => z4 z.2)).trans ((xu_o (fun z => z3 z.2)).trans ((xu_o (fun z => z2 z.2)).trans ((xu_o (fun z => z1 z.2)).trans (xu_o (fun z => absurd z.1 (by decide))))))
  have qo : ∀ {i j : Nat}, i ≠ 70 → ¬ (i = 73 ∧ j = t) → (xu (xu (xu (xu (xu m0 73 t 0) 70 14 0) 70 8 0) 70 9 0) 70 12 0).1 i j = m0.1 i j := fun z1 z2 => (xu_o (fun z => z1 z.1)).trans ((xu_o (fun z => z1 z.1)).trans ((xu_o (fun z => z1 z.1)).trans ((xu_o (fun z => z1 z.1)).trans (xu_o z2))))
  have hC : rC m0 n t 0 0 (m0.1 70 10).toInt ((0 : Nat) : Int) [] [] (tk (m0.1 77) (m0.1 70 16).toInt.toNat) (m0.1 70 13).toInt ((0 : Nat) : Int) (xu (xu (xu (xu (xu m0 73 t 0) 70 14 0) 70 8 0) 70 9 0) 70 12 0) := by
    refine ⟨X5, xfr_t (xfr_t (xfr_t (xfr_t (xfr_u (by unfold yinM; rfl)) (xfr_u rfl)) (xfr_u rfl)) (xfr_u rfl)) (xfr_u rfl), ⟨?_, Nat.zero_le _⟩, ?_, congrArg Int32.toInt (q70 (by decide) (by decide) (by decide) (by decide)), ?_, ⟨?_, rfl⟩, ⟨?_, rfl⟩, ⟨?_, ?_⟩, congrArg Int32.toInt (q70 (by decide) (by decide) (by decide) (by decide)), ?_, ⟨fun j _ => qo (by decide) (fun z => absurd z.1 (by decide)), fun j hj => ⟨qo (by decide) (fun z => hj z.2), qo (by decide) (fun z => absurd z.1 (by decide))⟩, fun j _ => qo (by decide) (fun z => absurd z.1 (by decide))⟩⟩
    · rw [(xu_o (by decide)).trans ((xu_o (by decide)).trans (xu_s _ _ _ _))]
      rfl
    · rw [(xu_o (by decide)).trans (xu_s _ _ _ _)]
      rfl
    · rw [xu_s]
      rfl
    · rw [(xu_o (fun z => absurd z.1 (by decide))).trans ((xu_o (fun z => absurd z.1 (by decide))).trans ((xu_o (fun z => absurd z.1 (by decide))).trans ((xu_o (fun z => absurd z.1 (by decide))).trans (xu_s _ _ _ _))))]
      rfl
    · rw [qo (by decide) (fun z => absurd z.1 (by decide)), h75]
      rfl
    · rw [tk_len, q70 (by decide) (by decide) (by decide) (by decide)]
      omega
    · rw [tk_len]
      exact tk_c _ (fun j _ => qo (by decide) (fun z => absurd z.1 (by decide)))
    · rw [(xu_o (by decide)).trans ((xu_o (by decide)).trans ((xu_o (by decide)).trans (xu_s _ _ _ _)))]
      rfl
  refine xP_b (R195 (cs := []) (rp := []) (ou := []) (cl := 0) (pr := 0) (s0 := tS0) (pm0 := 0) hF N ht hT ⟨0, 0, 0, _, _, _, 0, rfl, Nat.le_refl _, Nat.le_refl _, rfl, ⟨Nat.le_refl _, Nat.le_refl _⟩, Nat.zero_le _, rfl, Nat.zero_le _, hC⟩) (fun v m2 q2 => ?_)
  rcases q2 with ⟨rfl, q2⟩ | ⟨rfl, l2, pr', cs', a', l3, -, q2⟩
  · obtain ⟨f', rfl⟩ : ∃ f', F = f' + 1 := ⟨F - 1, by omega⟩
    exact rE_f n4 q2
  · exact R196_35 hF N ht hT F q2 l3 l2 (by omega)
/-- rule -/
theorem R197 {r : Nat} (hF : 500 ≤ F) (N : rN m b n) (hX : xT m) (hr : (m.1 70 2).toInt = (r : Int)) (r6 : r ≤ 6) : xP (D197 F m) (fun v m' => xT m' ∧ ((r = 6 ∧ v.toInt = -1 ∧ m' = m) ∨ (r < 6 ∧ (m'.1 70 1).toInt = 0 ∧ ((∃ (J : Nat) (g : Int), J ≤ 401 ∧ g ≠ 0 ∧ stn b n J tS0 = .inl g ∧ v.toInt = -2 - g ∧ (m'.1 70 2).toInt = (r : Int)) ∨ (∃ (J : Nat) (s : tSt), J ≤ 401 ∧ stn b n J tS0 = .inr s ∧ s.2.2.2.2.2.1 = 4 ∧ v.toInt = (r : Int) ∧ (m'.1 70 2).toInt = (r : Int) + 1))))) := by
  unfold D197
  refine xP_i (fun c => ?_) (fun c => xP_r ⟨hX, Or.inl ⟨?_, by decide, rfl⟩⟩)
  · have c : (m.1 70 2).toInt ≠ 6 := zt c
    have er : (m.1 70 2).toNatClampNeg = r := by show (m.1 70 2).toInt.toNat = r; omega
    have lr : r < 6 := by omega
    rw [er]
    refine xP_g (xib_t (by omega) (by omega)) ?_
    have X2 : xT (xu (xu m 70 11 (m.1 70 2)) 75 r 0) := xT_c (xT_c hX (i := 70) (j := 11) rfl (by omega) (by omega)) (rb75 lr) (by decide) (by decide)
    have N2 : rN (xu (xu m 70 11 (m.1 70 2)) 75 r 0) b n := ⟨(congrArg Int32.toInt ((xu_o (fun z => absurd z.1 (by decide))).trans (xu_o (by decide)))).trans N.1, N.2.1, fun j hj => ⟨(N.2.2 j hj).1, (congrArg Int32.toInt ((xu_o (fun z => absurd z.1 (by decide))).trans (xu_o (fun z => absurd z.1 (by decide))))).trans (N.2.2 j hj).2⟩⟩
    have e11 : ((xu (xu m 70 11 (m.1 70 2)) 75 r 0).1 70 11).toInt = (r : Int) := (congrArg Int32.toInt ((xu_o (fun z => absurd z.1 (by decide))).trans (xu_s _ _ _ _))).trans hr
    refine xP_b (R196 (t := r) hF N2 lr e11 X2 (xu_s _ _ _ _)) (fun v m2 q2 => ?_)
    obtain ⟨d1, d2, d3, q2⟩ := q2
    have e2 : (m2.1 70 2).toInt = (r : Int) := (congrArg Int32.toInt (d3.2 70 2 rfl)).trans ((congrArg Int32.toInt ((xu_o (fun z => absurd z.1 (by decide))).trans (xu_o (by decide)))).trans hr)
    dsimp only
    rcases q2 with ⟨rfl, J, g, j1, j2, j3, j4⟩ | ⟨rfl, J, s, j1, j2, j3, j4⟩
    · refine xP_i (fun c => absurd c (by decide)) (fun _ => xP_r ⟨d2, Or.inr ⟨lr, d1, Or.inl ⟨J, g, j1, j2, j3, ?_, e2⟩⟩⟩)
      have b9 : 0 ≤ (m2.1 70 9).toInt ∧ (m2.1 70 9).toInt ≤ 4000 := d2 70 9 (0, 4000) rfl
      exact (xs1 (by show _ ≤ (-2 : Int) - _; omega) (by show (-2 : Int) - _ ≤ _; omega)).trans (by rw [j4]; rfl)
    · refine xP_i (fun _ => xP_r ?_) (fun c => absurd c (by decide))
      have e3 : (m2.1 70 2 + 1).toInt = (r : Int) + 1 := (xa1 (by show _ ≤ _ + (1 : Int); omega) (by show _ + (1 : Int) ≤ _; omega)).trans (by rw [e2]; rfl)
      have e4 : (m2.1 70 2 + 1 - 1).toInt = (r : Int) := (xs1 (by show _ ≤ _ - (1 : Int); omega) (by show _ - (1 : Int) ≤ _; omega)).trans (by rw [e3]; show (r : Int) + 1 - 1 = _; omega)
      exact ⟨xT_c d2 (i := 70) (j := 2) rfl (by omega) (by omega), Or.inr ⟨lr, (congrArg Int32.toInt (xu_o (by decide))).trans d1, Or.inr ⟨J, s, j1, j2, j3, e4, (congrArg Int32.toInt (xu_s _ _ _ _)).trans e3⟩⟩⟩
  · have c : (m.1 70 2).toInt = 6 := Decidable.not_not.mp (zf c)
    omega
end RRU
/-- the machine's runs are the loop's -/
theorem trun_l {b : Nat → Int} {n : Nat} {g : Int} : ∀ (J F : Nat) {s : tSt}, stn b n J s = .inl g → g ≠ 0 → J ≤ F → trun b n F s = .inl g := by
  intro J
  induction J with
  | zero => intro F s h; cases h
  | succ J ih =>
    intro F s h hg l
    obtain ⟨F', rfl⟩ : ∃ F', F = F' + 1 := ⟨F - 1, by omega⟩
    have h : (match tstp b n s with
      | .inl f => (Sum.inl f : Int ⊕ tSt)
      | .inr s' => stn b n J s') = .inl g := h
    have n4 : s.2.2.2.2.2.1 ≠ 4 := fun z => by
      have e : tstp b n s = .inl 0 := by
        unfold tstp
        rw [if_neg (by omega), if_neg (by omega), if_neg (by omega), if_neg (by omega)]
      rw [e] at h
      have h : (0 : Int) = g := Sum.inl.inj h
      exact hg h.symm
    show (if s.2.2.2.2.2.1 = 4 then _ else _) = _
    rw [if_neg n4]
    cases e : tstp b n s with
    | inl f =>
      rw [e] at h
      exact h
    | inr s' =>
      rw [e] at h
      exact ih F' h hg (by omega)
theorem trun_r {b : Nat → Int} {n : Nat} {s' : tSt} (h4 : s'.2.2.2.2.2.1 = 4) : ∀ (J F : Nat) {s : tSt}, stn b n J s = .inr s' → J ≤ F → trun b n F s = .inr s' := by
  intro J
  induction J with
  | zero =>
    intro F s h _
    have h : (Sum.inr s : Int ⊕ tSt) = .inr s' := h
    have h := Sum.inr.inj h
    subst h
    cases F with
    | zero => rfl
    | succ F =>
      show (if s.2.2.2.2.2.1 = 4 then _ else _) = _
      rw [if_pos h4]
  | succ J ih =>
    intro F s h l
    obtain ⟨F', rfl⟩ : ∃ F', F = F' + 1 := ⟨F - 1, by omega⟩
    have h : (match tstp b n s with
      | .inl f => (Sum.inl f : Int ⊕ tSt)
      | .inr s' => stn b n J s') = .inr s' := h
    have n4 : s.2.2.2.2.2.1 ≠ 4 := fun z => by
      have e : tstp b n s = .inl 0 := by
        unfold tstp
        rw [if_neg (by omega), if_neg (by omega), if_neg (by omega), if_neg (by omega)]
      rw [e] at h
      cases h
    show (if s.2.2.2.2.2.1 = 4 then _ else _) = _
    rw [if_neg n4]
    cases e : tstp b n s with
    | inl f =>
      rw [e] at h
      cases h
    | inr s1 =>
      rw [e] at h
      exact ih F' h (by omega)
end
section
/-! The class's rule: the machine decides it. -/
set_option maxRecDepth 4000 in
theorem xg127 : zg zms 127 = some (zm127.2.2.1, zm127.2.2.2.1, zc127) := rfl
set_option maxRecDepth 4000 in
theorem xg50 : zg zms 50 = some (zm50.2.2.1, zm50.2.2.2.1, zc50) := rfl
theorem xr50 : zar 50 = (2, 6) := by decide +kernel
theorem zCan_u {d k : Nat} {as : List Value} {hp : zHp} {r1 r2 : zRe} (h1 : zCan d k as hp r1) (h2 : zCan d k as hp r2) : r1 = r2 := by
  obtain ⟨f1, h1⟩ := h1
  obtain ⟨f2, h2⟩ := h2
  have e1 := h1 (max f1 f2) (Nat.le_max_left _ _)
  have e2 := h2 (max f1 f2) (Nat.le_max_right _ _)
  rw [e1] at e2
  exact Option.some.inj e2
/-- text.bytes is the tape -/
def kB (hp : zHp) : zHp := (hp.1, fun i => if i = 2 then (match hp.2 2 with
  | .inr (k, fs) => .inr (k, fs.set 0 (.ref 1))
  | c => c) else hp.2 i)
section KOP
variable {hp : zHp} {d : Nat}
theorem kB_c (H : yH0 hp) : ∃ fs : List Value, hp.2 2 = .inr (6, fs) ∧ fs.length = 5 ∧ (∃ r, fs[0]? = some (.ref r)) ∧ (kB hp).2 2 = .inr (6, fs.set 0 (.ref 1)) := by
  have k2 := H.2.2 2 (Nat.lt_of_lt_of_le (by decide) H.1)
  obtain ⟨fs, e, l, t⟩ : ∃ fs : List Value, hp.2 2 = .inr (6, fs) ∧ fs.length = 5 ∧ ∀ (j : Nat) (t : Nat × Int × Int), (yty 2).2.2.2.2[j]? = some t → ∃ v, fs[j]? = some v ∧ yft t v := k2
  obtain ⟨v, v1, r, v2, -⟩ := t 0 (2, 1, 3) rfl
  refine ⟨fs, e, l, ⟨r, by rw [v1, v2]⟩, ?_⟩
  unfold kB
  dsimp only
  rw [if_pos rfl, e]
theorem kB_o {i : Nat} (h : i ≠ 2) : (kB hp).2 i = hp.2 i := if_neg h
theorem kB_H (H : yH0 hp) : yH0 (kB hp) := by
  obtain ⟨fs, e, l, -, e2⟩ := kB_c H
  have z : kB hp = (hp.1, zup hp.2 2 (.inr (6, fs.set 0 (.ref 1)))) := by
    refine Prod.ext rfl (funext fun i => ?_)
    by_cases c : i = 2
    · subst c
      show (kB hp).2 2 = zup hp.2 2 (.inr (6, fs.set 0 (.ref 1))) 2
      rw [e2]
      exact zups.symm
    · show (kB hp).2 i = zup hp.2 2 (.inr (6, fs.set 0 (.ref 1))) i
      exact (kB_o c).trans (zupo c).symm
  rw [z]
  refine yset_H H (fun _ => ?_)
  have k2 := H.2.2 2 (Nat.lt_of_lt_of_le (by decide) H.1)
  obtain ⟨fs2, q1, q2, q3⟩ : ∃ fs : List Value, hp.2 2 = .inr (6, fs) ∧ fs.length = (yty 2).2.2.2.2.length ∧ ∀ (j : Nat) (t : Nat × Int × Int), (yty 2).2.2.2.2[j]? = some t → ∃ v, fs[j]? = some v ∧ yft t v := k2
  rw [e] at q1
  have e3 : fs = fs2 := (Prod.mk.inj (Sum.inr.inj q1)).2
  subst e3
  refine ⟨fs.set 0 (.ref 1), rfl, by rw [List.length_set]; exact q2, fun j t ht => ?_⟩
  obtain ⟨v, v1, v2⟩ := q3 j t ht
  by_cases c : j = 0
  · subst c
    have ht : some ((2, 1, 3) : Nat × Int × Int) = some t := ht
    cases ht
    exact ⟨.ref 1, by rw [List.getElem?_set, if_pos rfl, if_pos (by omega)], 1, rfl, by decide, by decide⟩
  · exact ⟨v, by rw [List.getElem?_set, if_neg (fun z => c z.symm)]; exact v1, v2⟩
theorem kB_X (H : yH0 hp) : yTx (kB hp) := by
  obtain ⟨fs, e, l, -, e2⟩ := kB_c H
  exact ⟨_, e2, by rw [List.getElem?_set, if_pos rfl, if_pos (by omega)]⟩
theorem kB_m (H : yH0 hp) (i j : Nat) : (xof (kB hp)).1 i j = (xof hp).1 i j := by
  obtain ⟨fs, e, l, ⟨r, v1⟩, e2⟩ := kB_c H
  unfold xof
  dsimp only
  by_cases c : i = 2
  · subst c
    rw [e, e2]
    dsimp only
    by_cases z : j = 0
    · subst z
      rw [List.getElem?_set, if_pos rfl, if_pos (by omega), v1]
    · rw [List.getElem?_set, if_neg (fun y => z y.symm)]
  · rw [kB_o c]
abbrev kO (m : xS) : xS := xu (xu (xu (xu m 2 1 (if (Int32.ofNat 400) < m.1 0 1 then (Int32.ofNat 400) else m.1 0 1)) 2 2 0) 2 4 0) 0 1 0
/-- openTape -/
theorem kOpen (H : yH0 hp) (hd : 2 ≤ d) : zCan d 127 [.ref 0] hp (none, xW (kB hp) (kO (xof (kB hp)))) := by
  obtain ⟨e, rfl⟩ : ∃ e, d = e + 1 + 1 := ⟨d - 2, by omega⟩
  have HB := kB_H H
  obtain ⟨fs, ef, lf, -, e2⟩ := kB_c H
  have e1 : (xof hp).1 0 1 = (xof (kB hp)).1 0 1 := (kB_m H 0 1).symm
  have l88 : 88 ≤ hp.1 := H.1
  refine zCan_body (nL := 1) (rt := none) (cd := zc127) xg127 ⟨Nat.le_of_ble_eq_true rfl, by decide⟩ (Nat.le_refl _) ?_
  refine q_lr (k := 1) (i := 0) (x := 0) (q := (.aload_n 0, 1, 0, 0, .null)) rfl (fun _ => rfl) rfl ?_
  refine h_gr H (ix := 0) (c := 2) (pc := 1) rfl (by decide) (by decide) ?_
  refine q_lr (k := 1) (i := 0) (x := 0) (q := (.aload_n 0, 1, 0, 0, .null)) rfl (fun _ => rfl) rfl ?_
  refine h_gr H (ix := 0) (c := 1) (pc := 5) rfl (by decide) (by decide) ?_
  refine q_lr (k := 1) (i := 0) (x := 0) (q := (.aload_n 0, 1, 0, 0, .null)) rfl (fun _ => rfl) rfl ?_
  refine h_gi H (ix := 0) (pc := 9) rfl (by decide) (by decide) ?_
  have call : zCan (e + 1) 50 [.ref 2, .ref 1, .int ((xof hp).1 0 1)] hp (none, xW (kB hp) (xu (xu (xu (xof (kB hp)) 2 1 (if (Int32.ofNat 400) < (xof (kB hp)).1 0 1 then (Int32.ofNat 400) else (xof (kB hp)).1 0 1)) 2 2 0) 2 4 0)) := by
    refine zCan_body (nL := 3) (rt := none) (cd := zc50) xg50 ⟨Nat.le_of_ble_eq_true rfl, by decide⟩ (Nat.le_refl _) ?_
    refine q_lr (k := 1) (i := 0) (x := 2) (q := (.aload_n 0, 1, 0, 0, .null)) rfl (fun _ => rfl) rfl ?_
    refine q_lr (k := 1) (i := 1) (x := 1) (q := (.aload_n 1, 1, 0, 0, .null)) rfl (fun _ => rfl) rfl ?_
    refine r_put (pc := 2) (ix := 2) rfl ⟨by omega, by decide, rfl⟩ ef (by omega) ?_
    have z : ((hp.1, zup hp.2 2 (.inr (6, fs.set 0 (.ref 1)))) : zHp) = xW (kB hp) (xof (kB hp)) := by
      rw [xW_of]
      refine Prod.ext rfl (funext fun i => ?_)
      by_cases c : i = 2
      · subst c
        show zup hp.2 2 (.inr (6, fs.set 0 (.ref 1))) 2 = (kB hp).2 2
        rw [e2]
        exact zups
      · show zup hp.2 2 (.inr (6, fs.set 0 (.ref 1))) i = (kB hp).2 i
        exact (zupo c).trans (kB_o c).symm
    rw [z]
    refine q_lr (k := 1) (i := 0) (x := 2) (q := (.aload_n 0, 1, 0, 0, .null)) rfl (fun _ => rfl) rfl ?_
    refine q_li (k := 1) (i := 2) (x := (xof hp).1 0 1) (q := (.iload_n 2, 1, 0, 0, .null)) rfl (fun _ => rfl) rfl ?_
    refine q_lr (k := 1) (i := 1) (x := 1) (q := (.aload_n 1, 1, 0, 0, .null)) rfl (fun _ => rfl) rfl ?_
    refine q_len (n := 400) (k := 0) HB (pc := 8) rfl (by decide) ?_
    refine r_s (fr' := (12, lv_args 0 [.ref 2, .ref 1, .int ((xof hp).1 0 1)], [.int (if (Int32.ofNat 400) < (xof hp).1 0 1 then (Int32.ofNat 400) else (xof hp).1 0 1), .ref 2])) (hp' := xW (kB hp) (xof (kB hp))) (q := (.invokestatic 15, 3, 0, 3, .null)) rfl (fun _ => rfl) (Nat.le_refl _) ?_
    rw [e1]
    refine r_pi HB (pc := 12) rfl (by decide) rfl rfl ?_
    refine q_lr (k := 1) (i := 0) (x := 2) (q := (.aload_n 0, 1, 0, 0, .null)) rfl (fun _ => rfl) rfl ?_
    refine r_s (fr' := (17, lv_args 0 [.ref 2, .ref 1, .int ((xof (kB hp)).1 0 1)], [.int 0, .ref 2])) (hp' := xW (kB hp) _) (q := (.iconst 0, 1, 0, 0, .null)) rfl (fun _ => rfl) (Nat.le_refl _) ?_
    refine r_pi HB (pc := 17) rfl (by decide) rfl rfl ?_
    refine q_lr (k := 1) (i := 0) (x := 2) (q := (.aload_n 0, 1, 0, 0, .null)) rfl (fun _ => rfl) rfl ?_
    refine r_s (fr' := (22, lv_args 0 [.ref 2, .ref 1, .int ((xof (kB hp)).1 0 1)], [.int 0, .ref 2])) (hp' := xW (kB hp) _) (q := (.iconst 0, 1, 0, 0, .null)) rfl (fun _ => rfl) (Nat.le_refl _) ?_
    refine r_pi HB (pc := 22) rfl (by decide) rfl rfl ?_
    exact r_ret (q := (.return_, 1, 0, 0, .null)) rfl rfl (fun _ => rfl)
  refine r_call (ix := 2) (as := [.ref 1, .int ((xof hp).1 0 1)]) (rest := []) (rv := none) (pc := 12) rfl xr50 rfl rfl rfl (h_kd H (by decide)) (Nat.le_of_ble_eq_true rfl) call (Nat.le_refl _) ?_
  refine q_lr (k := 1) (i := 0) (x := 0) (q := (.aload_n 0, 1, 0, 0, .null)) rfl (fun _ => rfl) rfl ?_
  refine r_s (fr' := (17, lv_args 0 [.ref 0], [.int 0, .ref 0])) (hp' := xW (kB hp) _) (q := (.iconst 0, 1, 0, 0, .null)) rfl (fun _ => rfl) (Nat.le_refl _) ?_
  refine r_pi HB (pc := 17) rfl (by decide) rfl rfl ?_
  exact r_ret (q := (.return_, 1, 0, 0, .null)) rfl rfl (fun _ => rfl)
end KOP
end
section
/-- rule j of the class: its steps, the last first -/
def ruC (hp : zHp) (j : Nat) (out : List Int) : Prop := yrd hp 13 (j : Int) = some (.ref (88 + 3 * j)) ∧ 88 + 3 * j + 2 < hp.1 ∧ yrd hp (88 + 3 * j + 1) (-1) = some (.int (Int32.ofNat out.length)) ∧ out.length ≤ 400 ∧ ∃ g : Nat → Int32, (∀ i, i < out.length → yrd hp (88 + 3 * j + 1) (i : Int) = some (.int (g i))) ∧ tk g out.length = out
theorem ruC_c {hp x : zHp} {j : Nat} {o : List Int} (h : ∀ i, (i = 13 ∨ 88 ≤ i) → x.2 i = hp.2 i) (l : x.1 = hp.1) (k : ruC hp j o) : ruC x j o := by
  have e : ∀ i, (i = 13 ∨ 88 ≤ i) → ∀ l : Int, yrd x i l = yrd hp i l := fun i hi l' => yrd_eq (h i hi) (fun _ => by rw [l])
  obtain ⟨q1, q2, q3, q4, q5, q6, q7⟩ := k
  exact ⟨(e 13 (Or.inl rfl) _).trans q1, by rw [l]; exact q2, (e _ (Or.inr (by omega)) _).trans q3, q4, q5, fun i hi => (e _ (Or.inr (by omega)) _).trans (q6 i hi), q7⟩
theorem xW_2 {B : zHp} {m : xS} {i : Nat} (h1 : ∀ j, m.1 i j = (xof B).1 i j) (h2 : ∀ j, m.2 i j = (xof B).2 i j) : (xW B m).2 i = B.2 i := by
  have e1 : m.1 i = (xof B).1 i := funext h1
  have e2 : m.2 i = (xof B).2 i := funext h2
  have e3 : xfv m i = xfv (xof B) i := by
    funext j v
    unfold xfv
    rw [e1, e2]
  have e : xcl m i (B.2 i) = xcl (xof B) i (B.2 i) := by
    unfold xcl
    rw [e1, e2, e3]
  exact e.trans (congrFun (congrArg Prod.snd (xW_of B)) i)
/-! The class's rule, exactly. -/
section KRU
variable {B hp : zHp} {m : xS} {b : Nat → Int} {n d : Nat}
theorem kRR (H : yH0 B) (X : yTx B) (hd : 11 ≤ d) (hT : xT m) (hL : ∀ i j, i ≠ 78 → m.2 i j = (xof B).2 i j) (N : kN m b n) (h22 : (m.1 2 2).toInt = 0) (h24 : (m.1 2 4).toInt = 0) (hN : B.1 + 3 ≤ zSC) : ∃ (x : zRe) (m' : xS), zCan d 33 [.ref 6, .ref 2] (xW B m) x ∧ B.1 ≤ x.2.1 ∧ yH0 (xW B m') ∧ kE m n (trun b n 401 tS0) m' ∧ xfr kM m m' ∧ ((x = (some .null, xW B m') ∧ m'.1 2 4 ≠ 0) ∨ ∃ hp5, x = (some (.ref B.1), hp5) ∧ yNw (xW B m') hp5 ∧ m'.1 2 4 = 0) := by
  obtain ⟨e, rfl⟩ : ∃ e, d = e + 1 := ⟨d - 1, by omega⟩
  obtain ⟨hT7, fr⟩ := yz7_T hT
  have b23 : 0 ≤ (m.1 2 3).toInt ∧ (m.1 2 3).toInt ≤ 400 := hT 2 3 (0, 400) rfl
  have hC : kC m n 0 (m.1 2 3).toInt.toNat 0 [] [] ((0 : Nat) : Int) ((0 : Nat) : Int) ((tdp []) : Int) ((tbr []) : Int) ((0 : Nat) : Int) ((yz7 m).1 6 9).toInt (yz7 m) := ⟨hT7, xfr_l (by decide) fr, ⟨(congrArg Int32.toInt (fr.2 2 2 rfl)).trans h22, Nat.zero_le _⟩, (congrArg Int32.toInt (fr.2 2 3 rfl)).trans (by omega), (congrArg Int32.toInt (fr.2 2 4 rfl)).trans h24, ⟨rfl, rfl⟩, ⟨rfl, rfl⟩, rfl, rfl, rfl, rfl, rfl, rfl⟩
  have hL0 : kL m n tS0 (yz7 m) := ⟨⟨_, _, hC, fun z => absurd rfl z⟩, ⟨Nat.le_refl _, Nat.zero_le _, Nat.zero_le _, fun w hw => (by cases hw)⟩, Nat.zero_le _⟩
  obtain ⟨m', lv', a1, a2, a3, a4⟩ := krr (d := e) H X (by omega) N 401 (s := tS0) (m := yz7 m) (lv := zs1 (lv_args 0 [.ref 6, .ref 2]) 2 (.int 0)) (i := 0) hL0 (by decide) (by decide) rfl rfl (zs1_ld _ _ _)
  have hm : xT m' ∧ xfr kM m m' := by
    unfold kE at a1
    split at a1
    · obtain ⟨-, p, bg, out, wait, cl, k, dp, br, ex, wh, c⟩ := a1
      exact ⟨c.1, c.2.1⟩
    · obtain ⟨⟨bg, ww, c, -⟩, -⟩ := a1
      exact ⟨c.1, c.2.1⟩
  have H' : yH0 (xW B m') := xH H hm.1 (fun i j z => by rw [hm.2.1]; exact hL i j z)
  have e24 : (xof (xW B m')).1 2 4 = m'.1 2 4 := xof_f H (show xti 2 6 4 = true by decide)
  obtain ⟨x, zx, nx, hx⟩ := h_tail2 (d := e) (by omega) H' (by show B.1 + 3 ≤ zSC; exact hN) a2 a3
  rw [e24] at hx
  refine ⟨x, m', zCan_body (nL := 3) (rt := yRT) (cd := zc33) xg33 ⟨Nat.le_of_ble_eq_true rfl, by decide⟩ nx ?_, nx, H', a1, hm.2, hx⟩
  have k2 : zR none e 3 yRT zc33 (37, zs1 (lv_args 0 [.ref 6, .ref 2]) 2 (.int 0), []) (xW B (yz7 m)) x := a4 x zx
  refine q_lr (k := 1) (i := 0) (x := 6) (q := (.aload_n 0, 1, 0, 0, .null)) rfl (fun _ => rfl) rfl ?_
  refine r_s (fr' := (2, lv_args 0 [.ref 6, .ref 2], [.int 0, .ref 6])) (hp' := xW B m) (q := (.iconst 0, 1, 0, 0, .null)) rfl (fun _ => rfl) (Nat.le_refl _) ?_
  refine r_pi H (pc := 2) rfl (by decide) rfl rfl ?_
  refine q_lr (k := 1) (i := 0) (x := 6) (q := (.aload_n 0, 1, 0, 0, .null)) rfl (fun _ => rfl) rfl ?_
  refine r_s (fr' := (7, lv_args 0 [.ref 6, .ref 2], [.int 0, .ref 6])) (hp' := xW B _) (q := (.iconst 0, 1, 0, 0, .null)) rfl (fun _ => rfl) (Nat.le_refl _) ?_
  refine r_pi H (pc := 7) rfl (by decide) rfl rfl ?_
  refine q_lr (k := 1) (i := 0) (x := 6) (q := (.aload_n 0, 1, 0, 0, .null)) rfl (fun _ => rfl) rfl ?_
  refine r_s (fr' := (12, lv_args 0 [.ref 6, .ref 2], [.int 0, .ref 6])) (hp' := xW B _) (q := (.iconst 0, 1, 0, 0, .null)) rfl (fun _ => rfl) (Nat.le_refl _) ?_
  refine r_pi H (pc := 12) rfl (by decide) rfl rfl ?_
  refine q_lr (k := 1) (i := 0) (x := 6) (q := (.aload_n 0, 1, 0, 0, .null)) rfl (fun _ => rfl) rfl ?_
  refine r_s (fr' := (17, lv_args 0 [.ref 6, .ref 2], [.int 0, .ref 6])) (hp' := xW B _) (q := (.iconst 0, 1, 0, 0, .null)) rfl (fun _ => rfl) (Nat.le_refl _) ?_
  refine r_pi H (pc := 17) rfl (by decide) rfl rfl ?_
  refine q_lr (k := 1) (i := 0) (x := 6) (q := (.aload_n 0, 1, 0, 0, .null)) rfl (fun _ => rfl) rfl ?_
  refine r_s (fr' := (22, lv_args 0 [.ref 6, .ref 2], [.int 0, .ref 6])) (hp' := xW B _) (q := (.iconst 0, 1, 0, 0, .null)) rfl (fun _ => rfl) (Nat.le_refl _) ?_
  refine r_pi H (pc := 22) rfl (by decide) rfl rfl ?_
  refine q_lr (k := 1) (i := 0) (x := 6) (q := (.aload_n 0, 1, 0, 0, .null)) rfl (fun _ => rfl) rfl ?_
  refine r_s (fr' := (27, lv_args 0 [.ref 6, .ref 2], [.int 0, .ref 6])) (hp' := xW B _) (q := (.iconst 0, 1, 0, 0, .null)) rfl (fun _ => rfl) (Nat.le_refl _) ?_
  refine r_pi H (pc := 27) rfl (by decide) rfl rfl ?_
  refine q_lr (k := 1) (i := 0) (x := 6) (q := (.aload_n 0, 1, 0, 0, .null)) rfl (fun _ => rfl) rfl ?_
  refine r_s (fr' := (32, lv_args 0 [.ref 6, .ref 2], [.int 0, .ref 6])) (hp' := xW B _) (q := (.iconst 0, 1, 0, 0, .null)) rfl (fun _ => rfl) (Nat.le_refl _) ?_
  refine r_pi H (pc := 32) rfl (by decide) rfl rfl ?_
  refine r_s (fr' := (36, lv_args 0 [.ref 6, .ref 2], [.int 0])) (hp' := xW B _) (q := (.iconst 0, 1, 0, 0, .null)) rfl (fun _ => rfl) (Nat.le_refl _) ?_
  exact q_si (k := 1) (i := 2) (q := (.istore_n 2, 1, 0, 0, .null)) rfl (fun _ => rfl) (by decide) k2
theorem kRul (H : yH0 hp) (hN : (hp.1 : Int) = 88 + 3 * ((xof hp).1 0 8).toInt) (hd : 13 ≤ d) (hn : ((xof hp).1 0 1).toInt = (n : Int)) (hb : ∀ j, j < n → ((xof hp).1 1 j).toInt = b j) : ∃ (v : Int32) (x : zHp), zCan d 126 [.ref 0] hp (some (.int v), x) ∧ hp.1 ≤ x.1 ∧ (∀ (j : Nat) (o : List Int), (j : Int) < ((xof hp).1 0 8).toInt → ruC hp j o → ruC x j o) ∧ ((((xof hp).1 0 8).toInt = 6 ∧ v = -1 ∧ x = hp) ∨ (((xof hp).1 0 8).toInt < 6 ∧ (xof x).1 0 1 = 0 ∧ ((∃ g, trun b n 401 tS0 = .inl g ∧ g ≠ 0 ∧ v.toInt = -2 - g ∧ (xof x).1 0 8 = (xof hp).1 0 8) ∨ (∃ s, trun b n 401 tS0 = .inr s ∧ v.toInt = ((xof hp).1 0 8).toInt ∧ ((xof x).1 0 8).toInt = ((xof hp).1 0 8).toInt + 1 ∧ ruC x ((xof hp).1 0 8).toInt.toNat s.2.2.1)))) := by
  obtain ⟨e, rfl⟩ : ∃ e, d = e + 1 := ⟨d - 1, by omega⟩
  have b8 := xT_of H 0 8 (0, 6) rfl
  have b81 : (0 : Int) ≤ ((xof hp).1 0 8).toInt := b8.1
  have b82 : ((xof hp).1 0 8).toInt ≤ 6 := b8.2
  have b1 := xT_of H 0 1 (0, 400) rfl
  have b11 : ((xof hp).1 0 1).toInt ≤ 400 := b1.2
  have head : ∀ {r : zRe}, zR none e 2 (some .int) zc126 (6, lv_args 0 [.ref 0], [.int 6, .int ((xof hp).1 0 8)]) hp r → zR none e 2 (some .int) zc126 (0, lv_args 0 [.ref 0], []) hp r := by
    intro r K
    refine q_lr (k := 1) (i := 0) (x := 0) (q := (.aload_n 0, 1, 0, 0, .null)) rfl (fun _ => rfl) rfl ?_
    refine h_gi H (ix := 0) (pc := 1) rfl (by decide) (by decide) ?_
    exact r_s (fr' := (6, lv_args 0 [.ref 0], [.int 6, .int ((xof hp).1 0 8)])) (hp' := hp) (q := (.bipush 6, 2, 0, 0, .null)) rfl (fun _ => rfl) (Nat.le_refl _) K
  by_cases c : zcmp .lt ((xof hp).1 0 8) 6 = true
  · have c6 : ((xof hp).1 0 8).toInt < 6 := zt c
    have HB := kB_H H
    have XB := kB_X H
    have s1000 : zSC = 1000 := rfl
    have z1 := kOpen (hp := hp) (d := e) H (by omega)
    have kb := kB_m H
    have hO : ∀ {i j : Nat}, ¬ (i = 2 ∧ j = 1) → ¬ (i = 2 ∧ j = 2) → ¬ (i = 2 ∧ j = 4) → ¬ (i = 0 ∧ j = 1) → (kO (xof (kB hp))).1 i j = (xof hp).1 i j := fun z1 z2 z3 z4 => ((xu_o z4).trans ((xu_o z3).trans ((xu_o z2).trans (xu_o z1)))).trans (kb _ _)
    have e400 : (Int32.ofNat 400).toInt = 400 := rfl
    have e21 : (kO (xof (kB hp))).1 2 1 = (xof hp).1 0 1 := by
      have z : (kO (xof (kB hp))).1 2 1 = (if (Int32.ofNat 400) < (xof (kB hp)).1 0 1 then (Int32.ofNat 400) else (xof (kB hp)).1 0 1) := rfl
      rw [z, kb, if_neg (fun y => by
        have y := Int32.lt_iff_toInt_lt.mp y
        omega)]
    have N : kN (kO (xof (kB hp))) b n := ⟨by rw [e21]; exact hn, by omega, fun j hj => by rw [hO (fun z => absurd z.1 (by decide)) (fun z => absurd z.1 (by decide)) (fun z => absurd z.1 (by decide)) (fun z => absurd z.1 (by decide))]; exact hb j hj⟩
    have hT0 : xT (xof (kB hp)) := xT_of HB
    have hTO : xT (kO (xof (kB hp))) := by
      refine xT_c (xT_c (xT_c (xT_c hT0 (i := 2) (j := 1) rfl ?_ ?_) (i := 2) (j := 2) rfl (by decide) (by decide)) (i := 2) (j := 4) rfl (by decide) (by decide)) (i := 0) (j := 1) rfl (by decide) (by decide)
      · rw [kb]
        split
        · decide
        · exact b1.1
      · rw [kb]
        split
        · decide
        · exact b1.2
    obtain ⟨x2, m', z2, n2, H', kE1, fr, hx⟩ := kRR (B := kB hp) (m := kO (xof (kB hp))) (b := b) (n := n) (d := e) HB XB (by omega) hTO (fun _ _ _ => rfl) N rfl rfl (by show hp.1 + 3 ≤ zSC; omega)
    have f08 : m'.1 0 8 = (xof hp).1 0 8 := (fr.2 0 8 rfl).trans (hO (by decide) (by decide) (by decide) (by decide))
    have f01 : m'.1 0 1 = 0 := fr.2 0 1 rfl
    have body : ∀ {r : zRe}, zR none e 2 (some .int) zc126 (26, lv_args 0 [.ref 0], x2.1.toList) x2.2 r → zR none e 2 (some .int) zc126 (0, lv_args 0 [.ref 0], []) hp r := by
      intro r K
      refine head (r_ifc (len := 3) (a := 11) (b := 0) (v0 := .null) (cn := .lt) (off := 5) rfl (fun _ => ?_) (fun z => by rw [c] at z; cases z))
      refine q_lr (k := 1) (i := 0) (x := 0) (q := (.aload_n 0, 1, 0, 0, .null)) rfl (fun _ => rfl) rfl ?_
      refine r_call (ix := 0) (as := []) (rest := []) (rv := none) (pc := 12) rfl xr127 rfl rfl rfl (h_kd H (by decide)) (Nat.le_of_ble_eq_true rfl) z1 (Nat.le_refl _) ?_
      refine q_lr (k := 1) (i := 0) (x := 0) (q := (.aload_n 0, 1, 0, 0, .null)) rfl (fun _ => rfl) rfl ?_
      refine r_gr (c := 6) HB (pc := 16) rfl (by decide) (by decide) ?_
      refine q_lr (k := 1) (i := 0) (x := 0) (q := (.aload_n 0, 1, 0, 0, .null)) rfl (fun _ => rfl) rfl ?_
      refine r_gr (c := 2) HB (pc := 20) rfl (by decide) (by decide) ?_
      refine r_call (ix := 6) (as := [.ref 2]) (rest := []) (rv := x2.1) (hp' := x2.2) (pc := 23) rfl xr33 rfl rfl rfl (xkd HB (by decide)) (Nat.le_of_ble_eq_true rfl) z2 n2 ?_
      rw [List.append_nil]
      exact K
    have x08 : (xof (xW (kB hp) m')).1 0 8 = m'.1 0 8 := xof_f HB (show xti 0 10 8 = true by decide)
    have x01 : (xof (xW (kB hp) m')).1 0 1 = m'.1 0 1 := xof_f HB (show xti 0 10 1 = true by decide)
    have x61 : (xof (xW (kB hp) m')).1 6 1 = m'.1 6 1 := xof_f HB (show xti 6 5 1 = true by decide)
    have x7 : (xof (xW (kB hp) m')).1 7 = m'.1 7 := xof_t HB (k := 0) (n := 400) (by decide)
    have tr : ∀ i, (i = 13 ∨ 88 ≤ i) → (xW (kB hp) m').2 i = hp.2 i := fun i hi => (xW_2 (fun j => (fr.2 i j (by
      unfold yinM kM
      simp only [List.any_cons, List.any_nil, Bool.or_false, Bool.or_eq_false_iff, Bool.and_eq_false_iff, decide_eq_false_iff_not]
      omega)).trans ((hO (by omega) (by omega) (by omega) (by omega)).trans (kb i j).symm)) (fun j => congrFun (congrFun fr.1 i) j)).trans (kB_o (by omega))
    rcases hx with ⟨rfl, h24⟩ | ⟨hp5, rfl, nw, h24⟩
    · refine ⟨-2 - m'.1 2 4, xW (kB hp) m', zCan_body (nL := 2) (rt := some .int) (cd := zc126) xg126 ⟨Nat.le_of_ble_eq_true rfl, by decide⟩ (Nat.le_refl _) (body ?_), Nat.le_refl _, fun j o hj h => ruC_c tr rfl h, Or.inr ⟨c6, x01.trans f01, Or.inl ?_⟩⟩
      · refine r_s (fr' := (27, zs1 (lv_args 0 [.ref 0]) 1 .null, [])) (hp' := xW (kB hp) m') (q := (.astore_n 1, 1, 0, 0, .null)) rfl (fun _ => rfl) (Nat.le_refl _) ?_
        refine r_s (fr' := (28, zs1 (lv_args 0 [.ref 0]) 1 .null, [.null])) (hp' := xW (kB hp) m') (q := (.aload_n 1, 1, 0, 0, .null)) rfl (fun _ => rfl) (Nat.le_refl _) ?_
        refine r_s (fr' := (31, zs1 (lv_args 0 [.ref 0]) 1 .null, [])) (hp' := xW (kB hp) m') (q := (.ifnonnull 14, 3, 42, 0, .null)) rfl (fun _ => rfl) (Nat.le_refl _) ?_
        refine r_s (fr' := (33, zs1 (lv_args 0 [.ref 0]) 1 .null, [.int (-2)])) (hp' := xW (kB hp) m') (q := (.bipush (-2), 2, 0, 0, .null)) rfl (fun _ => rfl) (Nat.le_refl _) ?_
        refine q_lr (k := 1) (i := 0) (x := 0) (q := (.aload_n 0, 1, 0, 0, .null)) rfl (fun _ => rfl) rfl ?_
        refine r_gr (c := 2) HB (pc := 34) rfl (by decide) (by decide) ?_
        refine r_gi (v := m'.1 2 4) HB (pc := 37) (i := _) rfl (by decide) (by decide) rfl ?_
        refine r_s (fr' := (41, zs1 (lv_args 0 [.ref 0]) 1 .null, [.int (-2 - m'.1 2 4)])) (hp' := xW (kB hp) m') (q := (.isub, 1, 0, 0, .null)) rfl (fun _ => rfl) (Nat.le_refl _) ?_
        exact q_ri (q := (.ireturn, 1, 0, 0, .null)) rfl (fun _ => rfl) rfl rfl
      · unfold kE at kE1
        split at kE1
        · next g hg =>
          obtain ⟨g0, p, bg, out, wait, cl, k, dp, br, ex, wh, cc⟩ := kE1
          have c5 := cc.2.2.2.2.1
          have bb := cc.1 2 4 (0, 4000) rfl
          have bb2 : (m'.1 2 4).toInt ≤ 4000 := bb.2
          have bb1 : 0 ≤ (m'.1 2 4).toInt := bb.1
          exact ⟨g, hg, g0, (xs1 (by show _ ≤ (-2 : Int) - _; omega) (by show (-2 : Int) - _ ≤ _; omega)).trans (by rw [c5]; rfl), x08.trans f08⟩
        · next s hs =>
          obtain ⟨⟨bg, ww, cc, -⟩, -⟩ := kE1
          have c5 := cc.2.2.2.2.1
          exact absurd (Int32.toInt_inj.mp (c5.trans rfl)) h24
    · have hs : ∃ s, trun b n 401 tS0 = .inr s ∧ ((m'.1 6 1).toInt = (s.2.2.1.length : Int) ∧ tk (m'.1 7) s.2.2.1.length = s.2.2.1) := by
        unfold kE at kE1
        split at kE1
        · next g hg =>
          obtain ⟨g0, p, bg, out, wait, cl, k, dp, br, ex, wh, cc⟩ := kE1
          have c5 := cc.2.2.2.2.1
          rw [h24] at c5
          exact absurd c5.symm g0
        · next s hs =>
          obtain ⟨⟨bg, ww, cc, -⟩, -⟩ := kE1
          exact ⟨s, hs, cc.2.2.2.2.2.1⟩
      obtain ⟨s, hs, hs6⟩ := hs
      obtain ⟨k, hk⟩ : ∃ k : Nat, ((xof hp).1 0 8).toInt = (k : Int) := ⟨((xof hp).1 0 8).toInt.toNat, by omega⟩
      generalize hp2e : xW (kB hp) m' = hp2 at *
      have hp21 : hp2.1 = hp.1 := by rw [← hp2e]; rfl
      have hB1 : (kB hp).1 = hp2.1 := hp21.symm
      rw [hB1] at body
      have N2 : hp2.1 = 88 + 3 * k := by omega
      have H5 : yH0 hp5 := yH0_nw H' N2 (by omega) nw
      obtain ⟨nn, g, f, hn5, w1, w2, w3, w4, w5⟩ := nw
      have k13 := H'.2.2 13 (by omega)
      rw [yty13] at k13
      obtain ⟨f13, e13, b13⟩ : ∃ f : Nat → Option Nat, hp2.2 13 = .inl (4, 6, .inr (.inr (.inr (.inr f)))) ∧ ∀ j, j < 6 → f j = none ∨ ∃ k : Nat, f j = some (88 + 3 * k) ∧ 88 + 3 * k + 2 < hp2.1 := k13
      obtain ⟨i1, i2, fs, x8, h0, h8⟩ := xti_ok H' (show xti 0 10 8 = true by decide)
      obtain ⟨-, -, fs1, x1, h01, h11⟩ := xti_ok H' (show xti 0 10 1 = true by decide)
      have efs : fs1 = fs := (Prod.mk.inj (Sum.inr.inj (h01.symm.trans h0))).2
      subst efs
      have ex8 : (xof hp2).1 0 8 = x8 := by
        unfold xof
        dsimp only
        rw [h0]
        dsimp only
        rw [h8]
      have ex1 : (xof hp2).1 0 1 = x1 := by
        unfold xof
        dsimp only
        rw [h0]
        dsimp only
        rw [h11]
      have x8k : x8.toInt = (k : Int) := by rw [← ex8, x08, f08]; exact hk
      have x8n : x8.toNatClampNeg = k := by
        show x8.toInt.toNat = k
        omega
      have g13 : hp5.2 13 = .inl (4, 6, .inr (.inr (.inr (.inr f13)))) := (w5 13 (by omega) (by omega) (by omega)).trans e13
      have g0 : hp5.2 0 = .inr (10, fs1) := (w5 0 (by omega) (by omega) (by omega)).trans h0
      have x9 : (x8 + 1).toInt = x8.toInt + 1 := xa1 (by show _ ≤ _ + (1 : Int); omega) (by show _ + (1 : Int) ≤ _; omega)
      have hl8 : 8 < fs1.length := (List.getElem?_eq_some_iff.mp h8).1
      generalize hg : ((hp5.1, zup (zup hp5.2 13 (.inl (4, 6, .inr (.inr (.inr (.inr (va_up f13 x8.toNatClampNeg (some hp2.1)))))))) 0 (.inr (10, fs1.set 8 (.int (x8 + 1))))) : zHp) = hp7
      have v0 : hp7.2 0 = .inr (10, fs1.set 8 (.int (x8 + 1))) := by
        rw [← hg]
        show (zup (zup hp5.2 13 (.inl (4, 6, .inr (.inr (.inr (.inr (va_up f13 x8.toNatClampNeg (some hp2.1)))))))) 0 (.inr (10, fs1.set 8 (.int (x8 + 1))))) 0 = _
        exact zups
      have vn : hp7.1 = hp2.1 + 3 := by rw [← hg]; exact w1
      have y8 : (xof hp7).1 0 8 = x8 + 1 := by
        unfold xof
        dsimp only
        rw [v0]
        dsimp only
        rw [List.getElem?_set, if_pos rfl, if_pos hl8]
      have y1 : (xof hp7).1 0 1 = x1 := by
        unfold xof
        dsimp only
        rw [v0]
        dsimp only
        rw [List.getElem?_set, if_neg (by decide), h11]
      have v13 : hp7.2 13 = .inl (4, 6, .inr (.inr (.inr (.inr (va_up f13 x8.toNatClampNeg (some hp2.1)))))) := by
        rw [← hg]
        show zup (zup hp5.2 13 (.inl (4, 6, .inr (.inr (.inr (.inr (va_up f13 x8.toNatClampNeg (some hp2.1)))))))) 0 (.inr (10, fs1.set 8 (.int (x8 + 1)))) 13 = _
        rw [zupo (show ¬ (13 : Nat) = 0 by decide)]
        exact zups
      have vo : ∀ i, i ≠ 0 → i ≠ 13 → hp7.2 i = hp5.2 i := fun i z1 z2 => by
        rw [← hg]
        show zup (zup hp5.2 13 (.inl (4, 6, .inr (.inr (.inr (.inr (va_up f13 x8.toNatClampNeg (some hp2.1)))))))) 0 (.inr (10, fs1.set 8 (.int (x8 + 1)))) i = _
        rw [zupo z1, zupo z2]
      have KR : ∀ (j : Nat) (o : List Int), (j : Int) < ((xof hp).1 0 8).toInt → ruC hp j o → ruC hp7 j o := fun j o hj h => by
        obtain ⟨q1, q2, q3, q4, q5, q6, q7⟩ := h
        have oj : ∀ l : Int, yrd hp7 (88 + 3 * j + 1) l = yrd hp (88 + 3 * j + 1) l := fun l => yrd_eq ((vo _ (by omega) (by omega)).trans ((w5 _ (by omega) (by omega) (by omega)).trans (tr _ (Or.inr (by omega))))) (fun _ => ⟨fun _ => by omega, fun _ => by omega⟩)
        refine ⟨?_, by omega, (oj _).trans q3, q4, q5, fun i hi => (oj _).trans (q6 i hi), q7⟩
        rw [yrd_f ((tr 13 (Or.inl rfl)).symm.trans e13) (by omega), Int.toNat_natCast] at q1
        rw [yrd_f v13 (by omega), Int.toNat_natCast]
        unfold va_up
        split
        · next z => exact absurd z (by omega)
        · exact q1
      have KN : ruC hp7 ((xof hp).1 0 8).toInt.toNat s.2.2.1 := by
        rw [show ((xof hp).1 0 8).toInt.toNat = k by omega]
        have nl : nn = s.2.2.1.length := by
          have z1 := hn5.2.1
          rw [x61] at z1
          have z2 := hs6.1
          omega
        have c1 : hp7.2 (88 + 3 * k + 1) = .inl (0, nn, .inl g) := by
          rw [vo _ (by omega) (by omega), show 88 + 3 * k + 1 = hp2.1 + 1 by omega]
          exact w3
        refine ⟨?_, by omega, ?_, by rw [← nl]; exact hn5.1, g, fun i _ => ?_, ?_⟩
        · rw [yrd_f v13 (by omega), Int.toNat_natCast, x8n]
          unfold va_up
          rw [if_pos rfl, N2]
          rfl
        · unfold yrd
          rw [c1]
          dsimp only
          rw [if_pos (by decide), if_pos (by omega), nl]
        · unfold yrd
          rw [c1]
          dsimp only
          rw [if_neg (by omega), Int.toNat_natCast]
        · rw [tk_c (g := m'.1 7) _ (fun j hj => (hn5.2.2 j (by omega)).trans (congrFun x7 j))]
          exact hs6.2
      refine ⟨x8 + 1 - 1, hp7, zCan_body (nL := 2) (rt := some .int) (cd := zc126) xg126 ⟨Nat.le_of_ble_eq_true rfl, by decide⟩ (by show hp.1 ≤ hp7.1; omega) (body ?_), by omega, KR, Or.inr ⟨c6, y1.trans (ex1.symm.trans (x01.trans f01)), Or.inr ⟨s, hs, ?_, ?_, KN⟩⟩⟩
      rotate_left
      · exact (xs1 (by show _ ≤ _ - (1 : Int); omega) (by show _ - (1 : Int) ≤ _; omega)).trans (by rw [x9]; show x8.toInt + 1 - 1 = _; omega)
      · rw [y8, x9]
        omega
      refine q_sr (k := 1) (i := 1) (x := hp2.1) (q := (.astore_n 1, 1, 0, 0, .null)) rfl (fun _ => rfl) (by decide) ?_
      have m0 : zld (zs1 (lv_args 0 [.ref 0]) 1 (.ref hp2.1)) 0 = some (.ref 0) := rfl
      have m1 : zld (zs1 (lv_args 0 [.ref 0]) 1 (.ref hp2.1)) 1 = some (.ref hp2.1) := zs1_ld _ _ _
      generalize zs1 (lv_args 0 [.ref 0]) 1 (.ref hp2.1) = lw at *
      have t5 : ∀ {z : Nat}, z < 88 → z < hp5.1 := fun hz => by omega
      have o13 : (zup hp5.2 13 (.inl (4, 6, .inr (.inr (.inr (.inr (va_up f13 x8.toNatClampNeg (some hp2.1)))))))) 0 = .inr (10, fs1) := (zupo (by decide)).trans g0
      refine q_lr (k := 1) (i := 1) (q := (.aload_n 1, 1, 0, 0, .null)) rfl (fun _ => rfl) m1 ?_
      refine r_s (fr' := (42, lw, [])) (hp' := hp5) (q := (.ifnonnull 14, 3, 42, 0, .null)) rfl (fun _ => rfl) (Nat.le_refl _) ?_
      refine q_lr (k := 1) (i := 0) (q := (.aload_n 0, 1, 0, 0, .null)) rfl (fun _ => rfl) m0 ?_
      refine h_gr H5 (ix := 0) (c := 13) (pc := 43) rfl (by decide) (by decide) ?_
      refine q_lr (k := 1) (i := 0) (q := (.aload_n 0, 1, 0, 0, .null)) rfl (fun _ => rfl) m0 ?_
      refine r_get (pc := 47) (ix := 0) rfl (by decide) ⟨t5 (by decide), by decide⟩ g0 h8 ?_
      refine q_lr (k := 1) (i := 1) (q := (.aload_n 1, 1, 0, 0, .null)) rfl (fun _ => rfl) m1 ?_
      refine r_s (fr' := (52, lw, [])) (hp' := (hp5.1, zup hp5.2 13 (.inl (4, 6, .inr (.inr (.inr (.inr (va_up f13 x8.toNatClampNeg (some hp2.1))))))))) (q := (.aastore, 1, 0, 0, .null)) rfl (fun call => ?_) (Nat.le_refl _) ?_
      · show zAast (51, lw, [.ref hp2.1, .int x8, .ref 13]) hp5 = _
        unfold zAast
        dsimp only
        rw [if_pos (show 13 < hp5.1 ∧ 13 < zSC ∧ hp2.1 < hp5.1 ∧ hp2.1 < zSC from ⟨t5 (by decide), by decide, by rw [w1]; omega, by rw [s1000, N2]; omega⟩), g13, w2]
        show (if ¬ (x8 < 0 ∨ 6 ≤ x8.toNatClampNeg) then _ else _) = _
        rw [if_pos (fun z => by
          rcases z with z | z
          · have z : x8.toInt < (0 : Int) := Int32.lt_iff_toInt_lt.mp z
            omega
          · omega)]
        rfl
      refine q_lr (k := 1) (i := 0) (q := (.aload_n 0, 1, 0, 0, .null)) rfl (fun _ => rfl) m0 ?_
      refine r_s (fr' := (54, lw, [.ref 0, .ref 0])) (hp' := (hp5.1, zup hp5.2 13 (.inl (4, 6, .inr (.inr (.inr (.inr (va_up f13 x8.toNatClampNeg (some hp2.1))))))))) (q := (.dup, 1, 0, 0, .null)) rfl (fun _ => rfl) (Nat.le_refl _) ?_
      refine r_get (pc := 54) (ix := 0) rfl (by decide) ⟨t5 (by decide), by decide⟩ o13 h8 ?_
      refine r_s (fr' := (58, lw, [.int 1, .int x8, .ref 0])) (hp' := (hp5.1, zup hp5.2 13 (.inl (4, 6, .inr (.inr (.inr (.inr (va_up f13 x8.toNatClampNeg (some hp2.1))))))))) (q := (.iconst 1, 1, 0, 0, .null)) rfl (fun _ => rfl) (Nat.le_refl _) ?_
      refine r_s (fr' := (59, lw, [.int (x8 + 1), .ref 0])) (hp' := (hp5.1, zup hp5.2 13 (.inl (4, 6, .inr (.inr (.inr (.inr (va_up f13 x8.toNatClampNeg (some hp2.1))))))))) (q := (.iadd, 1, 0, 0, .null)) rfl (fun _ => rfl) (Nat.le_refl _) ?_
      refine r_put (pc := 59) (ix := 0) rfl ⟨t5 (by decide), by decide, rfl⟩ o13 hl8 ?_
      dsimp only
      rw [hg]
      refine q_lr (k := 1) (i := 0) (q := (.aload_n 0, 1, 0, 0, .null)) rfl (fun _ => rfl) m0 ?_
      refine r_get (pc := 63) (ix := 0) (v := .int (x8 + 1)) rfl (by decide) ⟨by omega, by decide⟩ v0 (by rw [List.getElem?_set, if_pos rfl, if_pos hl8]) ?_
      refine r_s (fr' := (67, lw, [.int 1, .int (x8 + 1)])) (hp' := hp7) (q := (.iconst 1, 1, 0, 0, .null)) rfl (fun _ => rfl) (Nat.le_refl _) ?_
      refine r_s (fr' := (68, lw, [.int (x8 + 1 - 1)])) (hp' := hp7) (q := (.isub, 1, 0, 0, .null)) rfl (fun _ => rfl) (Nat.le_refl _) ?_
      exact q_ri (q := (.ireturn, 1, 0, 0, .null)) rfl (fun _ => rfl) rfl rfl
  · refine ⟨-1, hp, zCan_body (nL := 2) (rt := some .int) (cd := zc126) xg126 ⟨Nat.le_of_ble_eq_true rfl, by decide⟩ (Nat.le_refl _) (head (r_ifc (len := 3) (a := 11) (b := 0) (v0 := .null) (cn := .lt) (off := 5) rfl (fun z => absurd z c) (fun cf => ?_))), Nat.le_refl _, fun _ _ _ h => h, Or.inl ⟨?_, rfl, rfl⟩⟩
    · refine r_s (fr' := (10, lv_args 0 [.ref 0], [.int (-1)])) (hp' := hp) (q := (.iconst (-1), 1, 0, 0, .null)) rfl (fun _ => rfl) (Nat.le_refl _) ?_
      exact q_ri (q := (.ireturn, 1, 0, 0, .null)) rfl (fun _ => rfl) rfl rfl
    · have cf : ¬ ((xof hp).1 0 8).toInt < 6 := fun z => c ((yhl_cmp .lt _ _).mpr z)
      omega
end KRU
end
section
/-! Methods as functions over the memory. -/
set_option maxRecDepth 4000 in
theorem xg122 : zg zms 122 = some (zm122.2.2.1, zm122.2.2.2.1, zc122) := rfl
theorem xr122 : zar 122 = (5, 10) := by decide +kernel
set_option maxRecDepth 4000 in
theorem xg123 : zg zms 123 = some (zm123.2.2.1, zm123.2.2.2.1, zc123) := rfl
theorem xr123 : zar 123 = (1, 10) := by decide +kernel
set_option maxRecDepth 4000 in
theorem xg124 : zg zms 124 = some (zm124.2.2.1, zm124.2.2.2.1, zc124) := rfl
theorem xr124 : zar 124 = (1, 10) := by decide +kernel
set_option maxRecDepth 4000 in
theorem xg160 : zg zms 160 = some (zm160.2.2.1, zm160.2.2.2.1, zc160) := rfl
theorem xr160 : zar 160 = (1, 11) := by decide +kernel
set_option maxRecDepth 4000 in
theorem xg161 : zg zms 161 = some (zm161.2.2.1, zm161.2.2.2.1, zc161) := rfl
theorem xr161 : zar 161 = (5, 11) := by decide +kernel
set_option maxRecDepth 4000 in
theorem xg162 : zg zms 162 = some (zm162.2.2.1, zm162.2.2.2.1, zc162) := rfl
theorem xr162 : zar 162 = (1, 11) := by decide +kernel
/-- LentToolsModel.four -/
def D160_3 (F : Nat) : Nat → Int32 → Int32 → xS → Option (Unit × xS)
  | 0, _, _, _ => none
  | f + 1, v1, v2, m =>
    if zcmp .lt v2 0 = true then
      some ((), m)
    else
      if xib (m.1 70 1) 400 = true then
        D160_3 F f v1 (v2 + Int32.ofInt (-8)) (xu (xu m 71 ((m.1 70 1) : Int32).toNatClampNeg (vp_nar .byte ((v1 >>> (v2 &&& 31)) : Int32).toInt8.toInt32)) 70 1 ((m.1 70 1) + 1))
      else none
set_option maxRecDepth 20000 in
theorem T160_3 {B : zHp} (H : yH0 B) {e : Nat} (he : 1 ≤ e + 1) (F : Nat) : ∀ (f : Nat) {v1 : Int32} {v2 : Int32} {lv : List (Nat × Value)} {m : xS} {x : Unit × xS}, zld lv 0 = some (.ref 70) → zld lv 1 = some (.int v1) → zld lv 2 = some (.int v2) → D160_3 F f v1 v2 m = some x → zR none e 3 none zc160 (3, lv, []) (xW B m) (none, xW B x.2) := by
  intro f
  induction f with
  | zero => intro v1 v2 lv m x l0 l1 l2 h; cases h
  | succ f ih =>
    intro v1 v2 lv m x l0 l1 l2 h
    unfold D160_3 at h
    refine q_li (k := 1) (i := 2) (q := (.iload_n 2, 1, 0, 0, .null)) rfl (fun _ => rfl) l2 ?_
    refine r_if (len := 3) (a := 36) (b := 0) (v0 := .null) (cn := .lt) (off := 32) rfl (fun c => ?_) (fun c => ?_)
    · rw [if_pos c] at h
      obtain rfl := Option.some.inj h
      exact r_ret (q := (.return_, 1, 0, 0, .null)) rfl rfl (fun _ => rfl)
    · rw [if_neg (by rw [c]; decide)] at h
      refine q_lr (k := 1) (i := 0) (q := (.aload_n 0, 1, 0, 0, .null)) rfl (fun _ => rfl) l0 ?_
      refine r_gr (c := 71) H (pc := 8) rfl (by decide) (by decide) ?_
      refine q_lr (k := 1) (i := 0) (q := (.aload_n 0, 1, 0, 0, .null)) rfl (fun _ => rfl) l0 ?_
      refine r_gi (v := (m.1 70 1)) H (pc := 12) (i := _) rfl (by decide) (by decide) rfl ?_
      refine q_li (k := 1) (i := 1) (q := (.iload_n 1, 1, 0, 0, .null)) rfl (fun _ => rfl) l1 ?_
      refine q_li (k := 1) (i := 2) (q := (.iload_n 2, 1, 0, 0, .null)) rfl (fun _ => rfl) l2 ?_
      refine r_s (fr' := (18, lv, [.int (v1 >>> (v2 &&& 31)), .int (m.1 70 1), .ref 71])) (hp' := xW B m) (q := (.ishr, 1, 0, 0, .null)) rfl (fun _ => rfl) (Nat.le_refl _) ?_
      refine r_s (fr' := (19, lv, [.int ((v1 >>> (v2 &&& 31)) : Int32).toInt8.toInt32, .int (m.1 70 1), .ref 71])) (hp' := xW B m) (q := (.i2b, 1, 0, 0, .null)) rfl (fun _ => rfl) (Nat.le_refl _) ?_
      obtain ⟨c1, h⟩ := xif h
      refine q_bs (n := 400) (s2 := (xu m 71 ((m.1 70 1) : Int32).toNatClampNeg (vp_nar .byte ((v1 >>> (v2 &&& 31)) : Int32).toInt8.toInt32))) H (pc := 19) rfl (by decide) c1 rfl ?_
      refine q_lr (k := 1) (i := 0) (q := (.aload_n 0, 1, 0, 0, .null)) rfl (fun _ => rfl) l0 ?_
      refine r_s (fr' := (22, lv, [.ref 70, .ref 70])) (hp' := xW B (xu m 71 ((m.1 70 1) : Int32).toNatClampNeg (vp_nar .byte ((v1 >>> (v2 &&& 31)) : Int32).toInt8.toInt32))) (q := (.dup, 1, 0, 0, .null)) rfl (fun _ => rfl) (Nat.le_refl _) ?_
      refine r_gi (v := (m.1 70 1)) H (pc := 22) (i := _) rfl (by decide) (by decide) rfl ?_
      refine r_s (fr' := (26, lv, [.int 1, .int (m.1 70 1), .ref 70])) (hp' := xW B (xu m 71 ((m.1 70 1) : Int32).toNatClampNeg (vp_nar .byte ((v1 >>> (v2 &&& 31)) : Int32).toInt8.toInt32))) (q := (.iconst 1, 1, 0, 0, .null)) rfl (fun _ => rfl) (Nat.le_refl _) ?_
      refine r_s (fr' := (27, lv, [.int ((m.1 70 1) + 1), .ref 70])) (hp' := xW B (xu m 71 ((m.1 70 1) : Int32).toNatClampNeg (vp_nar .byte ((v1 >>> (v2 &&& 31)) : Int32).toInt8.toInt32))) (q := (.iadd, 1, 0, 0, .null)) rfl (fun _ => rfl) (Nat.le_refl _) ?_
      refine r_pi (s2 := (xu (xu m 71 ((m.1 70 1) : Int32).toNatClampNeg (vp_nar .byte ((v1 >>> (v2 &&& 31)) : Int32).toInt8.toInt32)) 70 1 ((m.1 70 1) + 1))) H (pc := 27) rfl (by decide) rfl rfl ?_
      refine q_inc (i := 2) (n := (-8)) (q := (.iinc 2 (-8), 3, 0, 0, .null)) rfl (fun _ => rfl) l2 (by decide) ?_
      have l0_2 : zld (zs1 lv 2 (.int (v2 + Int32.ofInt (-8)))) 0 = some (.ref 70) := x_o1 l0 rfl rfl
      have l1_2 : zld (zs1 lv 2 (.int (v2 + Int32.ofInt (-8)))) 1 = some (.int v1) := x_o1 l1 rfl rfl
      have l2_2 : zld (zs1 lv 2 (.int (v2 + Int32.ofInt (-8)))) 2 = some (.int (v2 + Int32.ofInt (-8))) := zs1_ld _ _ _
      generalize (zs1 lv 2 (.int (v2 + Int32.ofInt (-8)))) = lv2 at *
      refine r_s (fr' := (3, lv2, [])) (hp' := xW B (xu (xu m 71 ((m.1 70 1) : Int32).toNatClampNeg (vp_nar .byte ((v1 >>> (v2 &&& 31)) : Int32).toInt8.toInt32)) 70 1 ((m.1 70 1) + 1))) (q := (.goto (-30), 3, 3, 0, .null)) rfl (fun _ => rfl) (Nat.le_refl _) ?_
      exact ih l0_2 l1_2 l2_2 h
def D160 (F : Nat) (v1 : Int32) (m : xS) : Option (Unit × xS) :=
  D160_3 F F v1 24 m
set_option maxRecDepth 20000 in
theorem T160 {B : zHp} (H : yH0 B) {e : Nat} (he : 1 ≤ e + 1) (F : Nat) {v1 : Int32} {lv : List (Nat × Value)} {m : xS} {x : Unit × xS} (l0 : zld lv 0 = some (.ref 70)) (l1 : zld lv 1 = some (.int v1)) (h : D160 F v1 m = some x) : zR none e 3 none zc160 (0, lv, []) (xW B m) (none, xW B x.2) := by
  unfold D160 at h
  refine r_s (fr' := (2, lv, [.int 24])) (hp' := xW B m) (q := (.bipush 24, 2, 0, 0, .null)) rfl (fun _ => rfl) (Nat.le_refl _) ?_
  refine q_si (k := 1) (i := 2) (q := (.istore_n 2, 1, 0, 0, .null)) rfl (fun _ => rfl) (by decide) ?_
  have l0_1 : zld (zs1 lv 2 (.int 24)) 0 = some (.ref 70) := x_o1 l0 rfl rfl
  have l1_1 : zld (zs1 lv 2 (.int 24)) 1 = some (.int v1) := x_o1 l1 rfl rfl
  have l2_1 : zld (zs1 lv 2 (.int 24)) 2 = some (.int 24) := zs1_ld _ _ _
  generalize (zs1 lv 2 (.int 24)) = lv1 at *
  exact T160_3 H he F F l0_1 l1_1 l2_1 h
set_option maxRecDepth 20000 in
theorem Z160 {B : zHp} (H : yH0 B) {F : Nat} {a1 : Int32} {m : xS} {x : Unit × xS} (h : D160 F a1 m = some x) {d : Nat} (hd : 1 ≤ d) : zCan d 160 [.ref 70, .int a1] (xW B m) (none, xW B x.2) := by
  obtain ⟨e, rfl⟩ : ∃ e, d = e + 1 := ⟨d - 1, by omega⟩
  refine zCan_body (nL := 3) (rt := none) (cd := zc160) (xg160) ⟨Nat.le_of_ble_eq_true rfl, by decide⟩ (Nat.le_refl _) ?_
  exact T160 H hd F rfl rfl h
/-- LentToolsModel.feed -/
def D161 (F : Nat) (v1 : Int32) (v2 : Int32) (v3 : Int32) (v4 : Int32) (v5 : Int32) (m : xS) : Option (Int32 × xS) :=
  if zcmp .le ((m.1 70 1) + 20) 400 = true then
    (D160 F v1 m).bind fun q17 =>
      (D160 F v2 q17.2).bind fun q22 =>
        (D160 F v3 q22.2).bind fun q27 =>
          (D160 F v4 q27.2).bind fun q33 =>
            (D160 F v5 q33.2).bind fun q39 =>
              some ((q39.2.1 70 1), q39.2)
  else
    some ((-1), m)
set_option maxRecDepth 20000 in
theorem T161 {B : zHp} (H : yH0 B) {e : Nat} (he : 2 ≤ e + 1) (F : Nat) {v1 : Int32} {v2 : Int32} {v3 : Int32} {v4 : Int32} {v5 : Int32} {lv : List (Nat × Value)} {m : xS} {x : Int32 × xS} (l0 : zld lv 0 = some (.ref 70)) (l1 : zld lv 1 = some (.int v1)) (l2 : zld lv 2 = some (.int v2)) (l3 : zld lv 3 = some (.int v3)) (l4 : zld lv 4 = some (.int v4)) (l5 : zld lv 5 = some (.int v5)) (h : D161 F v1 v2 v3 v4 v5 m = some x) : zR none e 6 (some .int) zc161 (0, lv, []) (xW B m) (some (.int x.1), xW B x.2) := by
  unfold D161 at h
  refine q_lr (k := 1) (i := 0) (q := (.aload_n 0, 1, 0, 0, .null)) rfl (fun _ => rfl) l0 ?_
  refine r_gi (v := (m.1 70 1)) H (pc := 1) (i := _) rfl (by decide) (by decide) rfl ?_
  refine r_s (fr' := (6, lv, [.int 20, .int (m.1 70 1)])) (hp' := xW B m) (q := (.bipush 20, 2, 0, 0, .null)) rfl (fun _ => rfl) (Nat.le_refl _) ?_
  refine r_s (fr' := (7, lv, [.int ((m.1 70 1) + 20)])) (hp' := xW B m) (q := (.iadd, 1, 0, 0, .null)) rfl (fun _ => rfl) (Nat.le_refl _) ?_
  refine r_s (fr' := (10, lv, [.int 400, .int ((m.1 70 1) + 20)])) (hp' := xW B m) (q := (.sipush 400, 3, 0, 0, .null)) rfl (fun _ => rfl) (Nat.le_refl _) ?_
  refine r_ifc (len := 3) (a := 15) (b := 0) (v0 := .null) (cn := .le) (off := 5) rfl (fun c => ?_) (fun c => ?_)
  · rw [if_pos c] at h
    refine q_lr (k := 1) (i := 0) (q := (.aload_n 0, 1, 0, 0, .null)) rfl (fun _ => rfl) l0 ?_
    refine q_li (k := 1) (i := 1) (q := (.iload_n 1, 1, 0, 0, .null)) rfl (fun _ => rfl) l1 ?_
    obtain ⟨q17, h17, h⟩ := xbind h
    refine r_call (ix := 70) (as := [.int v1]) (rest := []) (rv := none) (hp' := xW B q17.2) (pc := 17) rfl xr160 rfl rfl rfl (xkd H (by decide)) (Nat.le_of_ble_eq_true rfl) (Z160 H h17 (by omega)) (Nat.le_refl _) ?_
    refine q_lr (k := 1) (i := 0) (q := (.aload_n 0, 1, 0, 0, .null)) rfl (fun _ => rfl) l0 ?_
    refine q_li (k := 1) (i := 2) (q := (.iload_n 2, 1, 0, 0, .null)) rfl (fun _ => rfl) l2 ?_
    obtain ⟨q22, h22, h⟩ := xbind h
    refine r_call (ix := 70) (as := [.int v2]) (rest := []) (rv := none) (hp' := xW B q22.2) (pc := 22) rfl xr160 rfl rfl rfl (xkd H (by decide)) (Nat.le_of_ble_eq_true rfl) (Z160 H h22 (by omega)) (Nat.le_refl _) ?_
    refine q_lr (k := 1) (i := 0) (q := (.aload_n 0, 1, 0, 0, .null)) rfl (fun _ => rfl) l0 ?_
    refine q_li (k := 1) (i := 3) (q := (.iload_n 3, 1, 0, 0, .null)) rfl (fun _ => rfl) l3 ?_
    obtain ⟨q27, h27, h⟩ := xbind h
    refine r_call (ix := 70) (as := [.int v3]) (rest := []) (rv := none) (hp' := xW B q27.2) (pc := 27) rfl xr160 rfl rfl rfl (xkd H (by decide)) (Nat.le_of_ble_eq_true rfl) (Z160 H h27 (by omega)) (Nat.le_refl _) ?_
    refine q_lr (k := 1) (i := 0) (q := (.aload_n 0, 1, 0, 0, .null)) rfl (fun _ => rfl) l0 ?_
    refine q_li (k := 2) (i := 4) (q := (.iload 4, 2, 0, 0, .null)) rfl (fun _ => rfl) l4 ?_
    obtain ⟨q33, h33, h⟩ := xbind h
    refine r_call (ix := 70) (as := [.int v4]) (rest := []) (rv := none) (hp' := xW B q33.2) (pc := 33) rfl xr160 rfl rfl rfl (xkd H (by decide)) (Nat.le_of_ble_eq_true rfl) (Z160 H h33 (by omega)) (Nat.le_refl _) ?_
    refine q_lr (k := 1) (i := 0) (q := (.aload_n 0, 1, 0, 0, .null)) rfl (fun _ => rfl) l0 ?_
    refine q_li (k := 2) (i := 5) (q := (.iload 5, 2, 0, 0, .null)) rfl (fun _ => rfl) l5 ?_
    obtain ⟨q39, h39, h⟩ := xbind h
    refine r_call (ix := 70) (as := [.int v5]) (rest := []) (rv := none) (hp' := xW B q39.2) (pc := 39) rfl xr160 rfl rfl rfl (xkd H (by decide)) (Nat.le_of_ble_eq_true rfl) (Z160 H h39 (by omega)) (Nat.le_refl _) ?_
    refine q_lr (k := 1) (i := 0) (q := (.aload_n 0, 1, 0, 0, .null)) rfl (fun _ => rfl) l0 ?_
    refine r_gi (v := (q39.2.1 70 1)) H (pc := 43) (i := _) rfl (by decide) (by decide) rfl ?_
    obtain rfl := Option.some.inj h
    exact q_ri (q := (.ireturn, 1, 0, 0, .null)) rfl (fun _ => rfl) rfl rfl
  · rw [if_neg (by rw [c]; decide)] at h
    refine r_s (fr' := (14, lv, [.int (-1)])) (hp' := xW B m) (q := (.iconst (-1), 1, 0, 0, .null)) rfl (fun _ => rfl) (Nat.le_refl _) ?_
    obtain rfl := Option.some.inj h
    exact q_ri (q := (.ireturn, 1, 0, 0, .null)) rfl (fun _ => rfl) rfl rfl
set_option maxRecDepth 20000 in
theorem Z161 {B : zHp} (H : yH0 B) {F : Nat} {a1 : Int32} {a2 : Int32} {a3 : Int32} {a4 : Int32} {a5 : Int32} {m : xS} {x : Int32 × xS} (h : D161 F a1 a2 a3 a4 a5 m = some x) {d : Nat} (hd : 2 ≤ d) : zCan d 161 [.ref 70, .int a1, .int a2, .int a3, .int a4, .int a5] (xW B m) (some (.int x.1), xW B x.2) := by
  obtain ⟨e, rfl⟩ : ∃ e, d = e + 1 := ⟨d - 1, by omega⟩
  refine zCan_body (nL := 6) (rt := (some .int)) (cd := zc161) (xg161) ⟨Nat.le_of_ble_eq_true rfl, by decide⟩ (Nat.le_refl _) ?_
  exact T161 H hd F rfl rfl rfl rfl rfl rfl h
/-- LentToolsModel.end -/
def D162_12 (F : Nat) (v1 : Int32) (m : xS) : Option (Int32 × xS) :=
  some ((-1), m)
set_option maxRecDepth 20000 in
theorem T162_12 {B : zHp} (H : yH0 B) {e : Nat} (he : 1 ≤ e + 1) (F : Nat) {v1 : Int32} {lv : List (Nat × Value)} {m : xS} {x : Int32 × xS} (l0 : zld lv 0 = some (.ref 70)) (l1 : zld lv 1 = some (.int v1)) (h : D162_12 F v1 m = some x) : zR none e 2 (some .int) zc162 (12, lv, []) (xW B m) (some (.int x.1), xW B x.2) := by
  unfold D162_12 at h
  refine r_s (fr' := (13, lv, [.int (-1)])) (hp' := xW B m) (q := (.iconst (-1), 1, 0, 0, .null)) rfl (fun _ => rfl) (Nat.le_refl _) ?_
  obtain rfl := Option.some.inj h
  exact q_ri (q := (.ireturn, 1, 0, 0, .null)) rfl (fun _ => rfl) rfl rfl
def D162 (F : Nat) (v1 : Int32) (m : xS) : Option (Int32 × xS) :=
  if zcmp .lt v1 0 = true then
    D162_12 F v1 m
  else
    if zcmp .le v1 (m.1 70 1) = true then
      some (v1, (xu m 70 1 v1))
    else
      D162_12 F v1 m
set_option maxRecDepth 20000 in
theorem T162 {B : zHp} (H : yH0 B) {e : Nat} (he : 1 ≤ e + 1) (F : Nat) {v1 : Int32} {lv : List (Nat × Value)} {m : xS} {x : Int32 × xS} (l0 : zld lv 0 = some (.ref 70)) (l1 : zld lv 1 = some (.int v1)) (h : D162 F v1 m = some x) : zR none e 2 (some .int) zc162 (0, lv, []) (xW B m) (some (.int x.1), xW B x.2) := by
  unfold D162 at h
  refine q_li (k := 1) (i := 1) (q := (.iload_n 1, 1, 0, 0, .null)) rfl (fun _ => rfl) l1 ?_
  refine r_if (len := 3) (a := 12) (b := 0) (v0 := .null) (cn := .lt) (off := 11) rfl (fun c => ?_) (fun c => ?_)
  · rw [if_pos c] at h
    exact T162_12 H he F l0 l1 h
  · rw [if_neg (by rw [c]; decide)] at h
    refine q_li (k := 1) (i := 1) (q := (.iload_n 1, 1, 0, 0, .null)) rfl (fun _ => rfl) l1 ?_
    refine q_lr (k := 1) (i := 0) (q := (.aload_n 0, 1, 0, 0, .null)) rfl (fun _ => rfl) l0 ?_
    refine r_gi (v := (m.1 70 1)) H (pc := 6) (i := _) rfl (by decide) (by decide) rfl ?_
    refine r_ifc (len := 3) (a := 14) (b := 0) (v0 := .null) (cn := .le) (off := 5) rfl (fun c => ?_) (fun c => ?_)
    · rw [if_pos c] at h
      refine q_lr (k := 1) (i := 0) (q := (.aload_n 0, 1, 0, 0, .null)) rfl (fun _ => rfl) l0 ?_
      refine q_li (k := 1) (i := 1) (q := (.iload_n 1, 1, 0, 0, .null)) rfl (fun _ => rfl) l1 ?_
      refine r_pi (s2 := (xu m 70 1 v1)) H (pc := 16) rfl (by decide) rfl rfl ?_
      refine q_li (k := 1) (i := 1) (q := (.iload_n 1, 1, 0, 0, .null)) rfl (fun _ => rfl) l1 ?_
      obtain rfl := Option.some.inj h
      exact q_ri (q := (.ireturn, 1, 0, 0, .null)) rfl (fun _ => rfl) rfl rfl
    · rw [if_neg (by rw [c]; decide)] at h
      exact T162_12 H he F l0 l1 h
set_option maxRecDepth 20000 in
theorem Z162 {B : zHp} (H : yH0 B) {F : Nat} {a1 : Int32} {m : xS} {x : Int32 × xS} (h : D162 F a1 m = some x) {d : Nat} (hd : 1 ≤ d) : zCan d 162 [.ref 70, .int a1] (xW B m) (some (.int x.1), xW B x.2) := by
  obtain ⟨e, rfl⟩ : ∃ e, d = e + 1 := ⟨d - 1, by omega⟩
  refine zCan_body (nL := 2) (rt := (some .int)) (cd := zc162) (xg162) ⟨Nat.le_of_ble_eq_true rfl, by decide⟩ (Nat.le_refl _) ?_
  exact T162 H hd F rfl rfl h
/-- LentTools.putBytes -/
def D123_0_43 (F : Nat) (g3 : Int32 → Int32 → xS → Option (Unit × xS)) (v1 : Int32) (v2 : Int32) (m : xS) : Option (Unit × xS) :=
  g3 v1 (v2 + Int32.ofInt (-8)) m
set_option maxRecDepth 20000 in
theorem T123_0_43 {B : zHp} (H : yH0 B) {e : Nat} (he : 1 ≤ e + 1) (F : Nat) (g3 : Int32 → Int32 → xS → Option (Unit × xS)) (k3 : ∀ {v1 : Int32} {v2 : Int32} {lv : List (Nat × Value)} {m : xS} {x : Unit × xS}, zld lv 0 = some (.ref 0) → zld lv 1 = some (.int v1) → zld lv 2 = some (.int v2) → g3 v1 v2 m = some x → zR none e 3 none zc123 (3, lv, []) (xW B m) (none, xW B x.2)) {v1 : Int32} {v2 : Int32} {lv : List (Nat × Value)} {m : xS} {x : Unit × xS} (l0 : zld lv 0 = some (.ref 0)) (l1 : zld lv 1 = some (.int v1)) (l2 : zld lv 2 = some (.int v2)) (h : D123_0_43 F g3 v1 v2 m = some x) : zR none e 3 none zc123 (43, lv, []) (xW B m) (none, xW B x.2) := by
  unfold D123_0_43 at h
  refine q_inc (i := 2) (n := (-8)) (q := (.iinc 2 (-8), 3, 0, 0, .null)) rfl (fun _ => rfl) l2 (by decide) ?_
  have l0_1 : zld (zs1 lv 2 (.int (v2 + Int32.ofInt (-8)))) 0 = some (.ref 0) := x_o1 l0 rfl rfl
  have l1_1 : zld (zs1 lv 2 (.int (v2 + Int32.ofInt (-8)))) 1 = some (.int v1) := x_o1 l1 rfl rfl
  have l2_1 : zld (zs1 lv 2 (.int (v2 + Int32.ofInt (-8)))) 2 = some (.int (v2 + Int32.ofInt (-8))) := zs1_ld _ _ _
  generalize (zs1 lv 2 (.int (v2 + Int32.ofInt (-8)))) = lv1 at *
  refine r_s (fr' := (3, lv1, [])) (hp' := xW B m) (q := (.goto (-43), 3, 3, 0, .null)) rfl (fun _ => rfl) (Nat.le_refl _) ?_
  exact k3 l0_1 l1_1 l2_1 h
def D123_0_3 (F : Nat) : Nat → Int32 → Int32 → xS → Option (Unit × xS)
  | 0, _, _, _ => none
  | f + 1, v1, v2, m =>
    if zcmp .lt v2 0 = true then
      some ((), m)
    else
      if zcmp .ge (m.1 0 1) 400 = true then
        D123_0_43 F (D123_0_3 F f) v1 v2 m
      else
        if xib (m.1 0 1) 400 = true then
          D123_0_43 F (D123_0_3 F f) v1 v2 (xu (xu m 1 ((m.1 0 1) : Int32).toNatClampNeg (((v1).toUInt32 >>> ((v2 : Int32).toUInt32 &&& Int32.toUInt32 31)).toInt32 &&& 255)) 0 1 ((m.1 0 1) + 1))
        else none
set_option maxRecDepth 20000 in
theorem T123_0_3 {B : zHp} (H : yH0 B) {e : Nat} (he : 1 ≤ e + 1) (F : Nat) : ∀ (f : Nat) {v1 : Int32} {v2 : Int32} {lv : List (Nat × Value)} {m : xS} {x : Unit × xS}, zld lv 0 = some (.ref 0) → zld lv 1 = some (.int v1) → zld lv 2 = some (.int v2) → D123_0_3 F f v1 v2 m = some x → zR none e 3 none zc123 (3, lv, []) (xW B m) (none, xW B x.2) := by
  intro f
  induction f with
  | zero => intro v1 v2 lv m x l0 l1 l2 h; cases h
  | succ f ih =>
    intro v1 v2 lv m x l0 l1 l2 h
    unfold D123_0_3 at h
    refine q_li (k := 1) (i := 2) (q := (.iload_n 2, 1, 0, 0, .null)) rfl (fun _ => rfl) l2 ?_
    refine r_if (len := 3) (a := 49) (b := 0) (v0 := .null) (cn := .lt) (off := 45) rfl (fun c => ?_) (fun c => ?_)
    · rw [if_pos c] at h
      obtain rfl := Option.some.inj h
      exact r_ret (q := (.return_, 1, 0, 0, .null)) rfl rfl (fun _ => rfl)
    · rw [if_neg (by rw [c]; decide)] at h
      refine q_lr (k := 1) (i := 0) (q := (.aload_n 0, 1, 0, 0, .null)) rfl (fun _ => rfl) l0 ?_
      refine r_gi (v := (m.1 0 1)) H (pc := 8) (i := _) rfl (by decide) (by decide) rfl ?_
      refine r_s (fr' := (14, lv, [.int 400, .int (m.1 0 1)])) (hp' := xW B m) (q := (.sipush 400, 3, 0, 0, .null)) rfl (fun _ => rfl) (Nat.le_refl _) ?_
      refine r_ifc (len := 3) (a := 43) (b := 0) (v0 := .null) (cn := .ge) (off := 29) rfl (fun c => ?_) (fun c => ?_)
      · rw [if_pos c] at h
        exact T123_0_43 H he F _ ih l0 l1 l2 h
      · rw [if_neg (by rw [c]; decide)] at h
        refine q_lr (k := 1) (i := 0) (q := (.aload_n 0, 1, 0, 0, .null)) rfl (fun _ => rfl) l0 ?_
        refine r_gr (c := 1) H (pc := 18) rfl (by decide) (by decide) ?_
        refine q_lr (k := 1) (i := 0) (q := (.aload_n 0, 1, 0, 0, .null)) rfl (fun _ => rfl) l0 ?_
        refine r_gi (v := (m.1 0 1)) H (pc := 22) (i := _) rfl (by decide) (by decide) rfl ?_
        refine q_li (k := 1) (i := 1) (q := (.iload_n 1, 1, 0, 0, .null)) rfl (fun _ => rfl) l1 ?_
        refine q_li (k := 1) (i := 2) (q := (.iload_n 2, 1, 0, 0, .null)) rfl (fun _ => rfl) l2 ?_
        refine r_s (fr' := (28, lv, [.int ((v1).toUInt32 >>> ((v2 : Int32).toUInt32 &&& Int32.toUInt32 31)).toInt32, .int (m.1 0 1), .ref 1])) (hp' := xW B m) (q := (.iushr, 1, 0, 0, .null)) rfl (fun _ => rfl) (Nat.le_refl _) ?_
        refine r_s (fr' := (31, lv, [.int 255, .int ((v1).toUInt32 >>> ((v2 : Int32).toUInt32 &&& Int32.toUInt32 31)).toInt32, .int (m.1 0 1), .ref 1])) (hp' := xW B m) (q := (.sipush 255, 3, 0, 0, .null)) rfl (fun _ => rfl) (Nat.le_refl _) ?_
        refine r_s (fr' := (32, lv, [.int (((v1).toUInt32 >>> ((v2 : Int32).toUInt32 &&& Int32.toUInt32 31)).toInt32 &&& 255), .int (m.1 0 1), .ref 1])) (hp' := xW B m) (q := (.iand, 1, 0, 0, .null)) rfl (fun _ => rfl) (Nat.le_refl _) ?_
        obtain ⟨c1, h⟩ := xif h
        refine q_as (n := 400) (s2 := (xu m 1 ((m.1 0 1) : Int32).toNatClampNeg (((v1).toUInt32 >>> ((v2 : Int32).toUInt32 &&& Int32.toUInt32 31)).toInt32 &&& 255))) H (pc := 32) rfl (by decide) c1 rfl ?_
        refine q_lr (k := 1) (i := 0) (q := (.aload_n 0, 1, 0, 0, .null)) rfl (fun _ => rfl) l0 ?_
        refine r_s (fr' := (35, lv, [.ref 0, .ref 0])) (hp' := xW B (xu m 1 ((m.1 0 1) : Int32).toNatClampNeg (((v1).toUInt32 >>> ((v2 : Int32).toUInt32 &&& Int32.toUInt32 31)).toInt32 &&& 255))) (q := (.dup, 1, 0, 0, .null)) rfl (fun _ => rfl) (Nat.le_refl _) ?_
        refine r_gi (v := (m.1 0 1)) H (pc := 35) (i := _) rfl (by decide) (by decide) rfl ?_
        refine r_s (fr' := (39, lv, [.int 1, .int (m.1 0 1), .ref 0])) (hp' := xW B (xu m 1 ((m.1 0 1) : Int32).toNatClampNeg (((v1).toUInt32 >>> ((v2 : Int32).toUInt32 &&& Int32.toUInt32 31)).toInt32 &&& 255))) (q := (.iconst 1, 1, 0, 0, .null)) rfl (fun _ => rfl) (Nat.le_refl _) ?_
        refine r_s (fr' := (40, lv, [.int ((m.1 0 1) + 1), .ref 0])) (hp' := xW B (xu m 1 ((m.1 0 1) : Int32).toNatClampNeg (((v1).toUInt32 >>> ((v2 : Int32).toUInt32 &&& Int32.toUInt32 31)).toInt32 &&& 255))) (q := (.iadd, 1, 0, 0, .null)) rfl (fun _ => rfl) (Nat.le_refl _) ?_
        refine r_pi (s2 := (xu (xu m 1 ((m.1 0 1) : Int32).toNatClampNeg (((v1).toUInt32 >>> ((v2 : Int32).toUInt32 &&& Int32.toUInt32 31)).toInt32 &&& 255)) 0 1 ((m.1 0 1) + 1))) H (pc := 40) rfl (by decide) rfl rfl ?_
        exact T123_0_43 H he F _ ih l0 l1 l2 h
def D123_0 (F : Nat) (v1 : Int32) (m : xS) : Option (Unit × xS) :=
  D123_0_3 F F v1 24 m
set_option maxRecDepth 20000 in
theorem T123_0 {B : zHp} (H : yH0 B) {e : Nat} (he : 1 ≤ e + 1) (F : Nat) {v1 : Int32} {lv : List (Nat × Value)} {m : xS} {x : Unit × xS} (l0 : zld lv 0 = some (.ref 0)) (l1 : zld lv 1 = some (.int v1)) (h : D123_0 F v1 m = some x) : zR none e 3 none zc123 (0, lv, []) (xW B m) (none, xW B x.2) := by
  unfold D123_0 at h
  refine r_s (fr' := (2, lv, [.int 24])) (hp' := xW B m) (q := (.bipush 24, 2, 0, 0, .null)) rfl (fun _ => rfl) (Nat.le_refl _) ?_
  refine q_si (k := 1) (i := 2) (q := (.istore_n 2, 1, 0, 0, .null)) rfl (fun _ => rfl) (by decide) ?_
  have l0_1 : zld (zs1 lv 2 (.int 24)) 0 = some (.ref 0) := x_o1 l0 rfl rfl
  have l1_1 : zld (zs1 lv 2 (.int 24)) 1 = some (.int v1) := x_o1 l1 rfl rfl
  have l2_1 : zld (zs1 lv 2 (.int 24)) 2 = some (.int 24) := zs1_ld _ _ _
  generalize (zs1 lv 2 (.int 24)) = lv1 at *
  exact T123_0_3 H he F F l0_1 l1_1 l2_1 h
set_option maxRecDepth 20000 in
theorem Z123_0 {B : zHp} (H : yH0 B) {F : Nat} {a1 : Int32} {m : xS} {x : Unit × xS} (h : D123_0 F a1 m = some x) {d : Nat} (hd : 1 ≤ d) : zCan d 123 [.ref 0, .int a1] (xW B m) (none, xW B x.2) := by
  obtain ⟨e, rfl⟩ : ∃ e, d = e + 1 := ⟨d - 1, by omega⟩
  refine zCan_body (nL := 3) (rt := none) (cd := zc123) (xg123) ⟨Nat.le_of_ble_eq_true rfl, by decide⟩ (Nat.le_refl _) ?_
  exact T123_0 H hd F rfl rfl h
/-- LentTools.feed -/
def D122_0 (F : Nat) (v1 : Int32) (v2 : Int32) (v3 : Int32) (v4 : Int32) (v5 : Int32) (m : xS) : Option (Int32 × xS) :=
  if zcmp .le ((m.1 0 1) + 20) 400 = true then
    (D123_0 F v1 m).bind fun q17 =>
      (D123_0 F v2 q17.2).bind fun q22 =>
        (D123_0 F v3 q22.2).bind fun q27 =>
          (D123_0 F v4 q27.2).bind fun q33 =>
            (D123_0 F v5 q33.2).bind fun q39 =>
              some ((q39.2.1 0 1), q39.2)
  else
    some ((-1), m)
set_option maxRecDepth 20000 in
theorem T122_0 {B : zHp} (H : yH0 B) {e : Nat} (he : 2 ≤ e + 1) (F : Nat) {v1 : Int32} {v2 : Int32} {v3 : Int32} {v4 : Int32} {v5 : Int32} {lv : List (Nat × Value)} {m : xS} {x : Int32 × xS} (l0 : zld lv 0 = some (.ref 0)) (l1 : zld lv 1 = some (.int v1)) (l2 : zld lv 2 = some (.int v2)) (l3 : zld lv 3 = some (.int v3)) (l4 : zld lv 4 = some (.int v4)) (l5 : zld lv 5 = some (.int v5)) (h : D122_0 F v1 v2 v3 v4 v5 m = some x) : zR none e 6 (some .int) zc122 (0, lv, []) (xW B m) (some (.int x.1), xW B x.2) := by
  unfold D122_0 at h
  refine q_lr (k := 1) (i := 0) (q := (.aload_n 0, 1, 0, 0, .null)) rfl (fun _ => rfl) l0 ?_
  refine r_gi (v := (m.1 0 1)) H (pc := 1) (i := _) rfl (by decide) (by decide) rfl ?_
  refine r_s (fr' := (6, lv, [.int 20, .int (m.1 0 1)])) (hp' := xW B m) (q := (.bipush 20, 2, 0, 0, .null)) rfl (fun _ => rfl) (Nat.le_refl _) ?_
  refine r_s (fr' := (7, lv, [.int ((m.1 0 1) + 20)])) (hp' := xW B m) (q := (.iadd, 1, 0, 0, .null)) rfl (fun _ => rfl) (Nat.le_refl _) ?_
  refine r_s (fr' := (10, lv, [.int 400, .int ((m.1 0 1) + 20)])) (hp' := xW B m) (q := (.sipush 400, 3, 0, 0, .null)) rfl (fun _ => rfl) (Nat.le_refl _) ?_
  refine r_ifc (len := 3) (a := 15) (b := 0) (v0 := .null) (cn := .le) (off := 5) rfl (fun c => ?_) (fun c => ?_)
  · rw [if_pos c] at h
    refine q_lr (k := 1) (i := 0) (q := (.aload_n 0, 1, 0, 0, .null)) rfl (fun _ => rfl) l0 ?_
    refine q_li (k := 1) (i := 1) (q := (.iload_n 1, 1, 0, 0, .null)) rfl (fun _ => rfl) l1 ?_
    obtain ⟨q17, h17, h⟩ := xbind h
    refine r_call (ix := 0) (as := [.int v1]) (rest := []) (rv := none) (hp' := xW B q17.2) (pc := 17) rfl xr123 rfl rfl rfl (xkd H (by decide)) (Nat.le_of_ble_eq_true rfl) (Z123_0 H h17 (by omega)) (Nat.le_refl _) ?_
    refine q_lr (k := 1) (i := 0) (q := (.aload_n 0, 1, 0, 0, .null)) rfl (fun _ => rfl) l0 ?_
    refine q_li (k := 1) (i := 2) (q := (.iload_n 2, 1, 0, 0, .null)) rfl (fun _ => rfl) l2 ?_
    obtain ⟨q22, h22, h⟩ := xbind h
    refine r_call (ix := 0) (as := [.int v2]) (rest := []) (rv := none) (hp' := xW B q22.2) (pc := 22) rfl xr123 rfl rfl rfl (xkd H (by decide)) (Nat.le_of_ble_eq_true rfl) (Z123_0 H h22 (by omega)) (Nat.le_refl _) ?_
    refine q_lr (k := 1) (i := 0) (q := (.aload_n 0, 1, 0, 0, .null)) rfl (fun _ => rfl) l0 ?_
    refine q_li (k := 1) (i := 3) (q := (.iload_n 3, 1, 0, 0, .null)) rfl (fun _ => rfl) l3 ?_
    obtain ⟨q27, h27, h⟩ := xbind h
    refine r_call (ix := 0) (as := [.int v3]) (rest := []) (rv := none) (hp' := xW B q27.2) (pc := 27) rfl xr123 rfl rfl rfl (xkd H (by decide)) (Nat.le_of_ble_eq_true rfl) (Z123_0 H h27 (by omega)) (Nat.le_refl _) ?_
    refine q_lr (k := 1) (i := 0) (q := (.aload_n 0, 1, 0, 0, .null)) rfl (fun _ => rfl) l0 ?_
    refine q_li (k := 2) (i := 4) (q := (.iload 4, 2, 0, 0, .null)) rfl (fun _ => rfl) l4 ?_
    obtain ⟨q33, h33, h⟩ := xbind h
    refine r_call (ix := 0) (as := [.int v4]) (rest := []) (rv := none) (hp' := xW B q33.2) (pc := 33) rfl xr123 rfl rfl rfl (xkd H (by decide)) (Nat.le_of_ble_eq_true rfl) (Z123_0 H h33 (by omega)) (Nat.le_refl _) ?_
    refine q_lr (k := 1) (i := 0) (q := (.aload_n 0, 1, 0, 0, .null)) rfl (fun _ => rfl) l0 ?_
    refine q_li (k := 2) (i := 5) (q := (.iload 5, 2, 0, 0, .null)) rfl (fun _ => rfl) l5 ?_
    obtain ⟨q39, h39, h⟩ := xbind h
    refine r_call (ix := 0) (as := [.int v5]) (rest := []) (rv := none) (hp' := xW B q39.2) (pc := 39) rfl xr123 rfl rfl rfl (xkd H (by decide)) (Nat.le_of_ble_eq_true rfl) (Z123_0 H h39 (by omega)) (Nat.le_refl _) ?_
    refine q_lr (k := 1) (i := 0) (q := (.aload_n 0, 1, 0, 0, .null)) rfl (fun _ => rfl) l0 ?_
    refine r_gi (v := (q39.2.1 0 1)) H (pc := 43) (i := _) rfl (by decide) (by decide) rfl ?_
    obtain rfl := Option.some.inj h
    exact q_ri (q := (.ireturn, 1, 0, 0, .null)) rfl (fun _ => rfl) rfl rfl
  · rw [if_neg (by rw [c]; decide)] at h
    refine r_s (fr' := (14, lv, [.int (-1)])) (hp' := xW B m) (q := (.iconst (-1), 1, 0, 0, .null)) rfl (fun _ => rfl) (Nat.le_refl _) ?_
    obtain rfl := Option.some.inj h
    exact q_ri (q := (.ireturn, 1, 0, 0, .null)) rfl (fun _ => rfl) rfl rfl
set_option maxRecDepth 20000 in
theorem Z122_0 {B : zHp} (H : yH0 B) {F : Nat} {a1 : Int32} {a2 : Int32} {a3 : Int32} {a4 : Int32} {a5 : Int32} {m : xS} {x : Int32 × xS} (h : D122_0 F a1 a2 a3 a4 a5 m = some x) {d : Nat} (hd : 2 ≤ d) : zCan d 122 [.ref 0, .int a1, .int a2, .int a3, .int a4, .int a5] (xW B m) (some (.int x.1), xW B x.2) := by
  obtain ⟨e, rfl⟩ : ∃ e, d = e + 1 := ⟨d - 1, by omega⟩
  refine zCan_body (nL := 6) (rt := (some .int)) (cd := zc122) (xg122) ⟨Nat.le_of_ble_eq_true rfl, by decide⟩ (Nat.le_refl _) ?_
  exact T122_0 H hd F rfl rfl rfl rfl rfl rfl h
/-- LentTools.end -/
def D124_0_12 (F : Nat) (v1 : Int32) (m : xS) : Option (Int32 × xS) :=
  some ((-1), m)
set_option maxRecDepth 20000 in
theorem T124_0_12 {B : zHp} (H : yH0 B) {e : Nat} (he : 1 ≤ e + 1) (F : Nat) {v1 : Int32} {lv : List (Nat × Value)} {m : xS} {x : Int32 × xS} (l0 : zld lv 0 = some (.ref 0)) (l1 : zld lv 1 = some (.int v1)) (h : D124_0_12 F v1 m = some x) : zR none e 2 (some .int) zc124 (12, lv, []) (xW B m) (some (.int x.1), xW B x.2) := by
  unfold D124_0_12 at h
  refine r_s (fr' := (13, lv, [.int (-1)])) (hp' := xW B m) (q := (.iconst (-1), 1, 0, 0, .null)) rfl (fun _ => rfl) (Nat.le_refl _) ?_
  obtain rfl := Option.some.inj h
  exact q_ri (q := (.ireturn, 1, 0, 0, .null)) rfl (fun _ => rfl) rfl rfl
def D124_0 (F : Nat) (v1 : Int32) (m : xS) : Option (Int32 × xS) :=
  if zcmp .lt v1 0 = true then
    D124_0_12 F v1 m
  else
    if zcmp .le v1 (m.1 0 1) = true then
      some (v1, (xu m 0 1 v1))
    else
      D124_0_12 F v1 m
set_option maxRecDepth 20000 in
theorem T124_0 {B : zHp} (H : yH0 B) {e : Nat} (he : 1 ≤ e + 1) (F : Nat) {v1 : Int32} {lv : List (Nat × Value)} {m : xS} {x : Int32 × xS} (l0 : zld lv 0 = some (.ref 0)) (l1 : zld lv 1 = some (.int v1)) (h : D124_0 F v1 m = some x) : zR none e 2 (some .int) zc124 (0, lv, []) (xW B m) (some (.int x.1), xW B x.2) := by
  unfold D124_0 at h
  refine q_li (k := 1) (i := 1) (q := (.iload_n 1, 1, 0, 0, .null)) rfl (fun _ => rfl) l1 ?_
  refine r_if (len := 3) (a := 12) (b := 0) (v0 := .null) (cn := .lt) (off := 11) rfl (fun c => ?_) (fun c => ?_)
  · rw [if_pos c] at h
    exact T124_0_12 H he F l0 l1 h
  · rw [if_neg (by rw [c]; decide)] at h
    refine q_li (k := 1) (i := 1) (q := (.iload_n 1, 1, 0, 0, .null)) rfl (fun _ => rfl) l1 ?_
    refine q_lr (k := 1) (i := 0) (q := (.aload_n 0, 1, 0, 0, .null)) rfl (fun _ => rfl) l0 ?_
    refine r_gi (v := (m.1 0 1)) H (pc := 6) (i := _) rfl (by decide) (by decide) rfl ?_
    refine r_ifc (len := 3) (a := 14) (b := 0) (v0 := .null) (cn := .le) (off := 5) rfl (fun c => ?_) (fun c => ?_)
    · rw [if_pos c] at h
      refine q_lr (k := 1) (i := 0) (q := (.aload_n 0, 1, 0, 0, .null)) rfl (fun _ => rfl) l0 ?_
      refine q_li (k := 1) (i := 1) (q := (.iload_n 1, 1, 0, 0, .null)) rfl (fun _ => rfl) l1 ?_
      refine r_pi (s2 := (xu m 0 1 v1)) H (pc := 16) rfl (by decide) rfl rfl ?_
      refine q_li (k := 1) (i := 1) (q := (.iload_n 1, 1, 0, 0, .null)) rfl (fun _ => rfl) l1 ?_
      obtain rfl := Option.some.inj h
      exact q_ri (q := (.ireturn, 1, 0, 0, .null)) rfl (fun _ => rfl) rfl rfl
    · rw [if_neg (by rw [c]; decide)] at h
      exact T124_0_12 H he F l0 l1 h
set_option maxRecDepth 20000 in
theorem Z124_0 {B : zHp} (H : yH0 B) {F : Nat} {a1 : Int32} {m : xS} {x : Int32 × xS} (h : D124_0 F a1 m = some x) {d : Nat} (hd : 1 ≤ d) : zCan d 124 [.ref 0, .int a1] (xW B m) (some (.int x.1), xW B x.2) := by
  obtain ⟨e, rfl⟩ : ∃ e, d = e + 1 := ⟨d - 1, by omega⟩
  refine zCan_body (nL := 2) (rt := (some .int)) (cd := zc124) (xg124) ⟨Nat.le_of_ble_eq_true rfl, by decide⟩ (Nat.le_refl _) ?_
  exact T124_0 H hd F rfl rfl h
end
section
/-! feed and end, both sides. -/
def cB (x s : Int32) : Int32 := ((x.toUInt32 >>> ((s : Int32).toUInt32 &&& Int32.toUInt32 31)).toInt32 &&& 255)
def rB8 (x s : Int32) : Int32 := vp_nar .byte ((x >>> (s &&& 31)) : Int32).toInt8.toInt32
theorem cr_k {x y : Int32} {k : Nat} {c : Int32} (hk : k ≤ 24) (e1 : y.toBitVec = x.toBitVec.sshiftRight k) (e2 : c.toBitVec = (x.toBitVec >>> k) &&& 255#32) : (0 ≤ c.toInt ∧ c.toInt ≤ 255) ∧ (y.toInt8.toInt32).toInt = (if c.toInt < 128 then c.toInt else c.toInt - 256) := by
  have l := x.toBitVec.isLt
  have c1 : c.toInt = c.toBitVec.toInt := rfl
  have c2 : c.toBitVec.toNat = (x.toBitVec.toNat / 2 ^ k) % 256 := by
    rw [e2, BitVec.toNat_and, BitVec.toNat_ushiftRight, Nat.shiftRight_eq_div_pow]
    exact Nat.and_two_pow_sub_one_eq_mod _ 8
  have c3 : c.toInt = (((x.toBitVec.toNat / 2 ^ k) % 256 : Nat) : Int) := by
    rw [c1, BitVec.toInt_eq_toNat_of_lt (by rw [c2]; omega), c2]
  have y1 : y.toInt = x.toBitVec.toInt / (2 ^ k : Nat) := by
    show y.toBitVec.toInt = _
    rw [e1, BitVec.toInt_sshiftRight, Int.shiftRight_eq_div_pow]
  have y2 : (y.toInt8.toInt32).toInt = y.toInt.bmod 256 := by
    rw [Int8.toInt_toInt32]
    exact Int32.toInt_toInt8 y
  refine ⟨⟨by rw [c3]; omega, by rw [c3]; omega⟩, ?_⟩
  rw [y2, y1, c3, Int.bmod_def]
  have xt := BitVec.toInt_eq_toNat_cond x.toBitVec
  have key : (x.toBitVec.toInt / ((2 ^ k : Nat) : Int)) % 256 = (((x.toBitVec.toNat / 2 ^ k) % 256 : Nat) : Int) := by
    split at xt
    · rw [xt]
      omega
    · rw [xt]
      have p : ((2 ^ 32 : Nat) : Int) = ((2 ^ (24 - k) : Nat) : Int) * 256 * ((2 ^ k : Nat) : Int) := by
        have : (2 ^ 32 : Nat) = 2 ^ (24 - k) * 256 * 2 ^ k := by
          rw [show (256 : Nat) = 2 ^ 8 from rfl, ← Nat.pow_add, ← Nat.pow_add]
          congr 1
          omega
        rw [this]
        simp
      have pk : (0 : Int) < ((2 ^ k : Nat) : Int) := by
        have := Nat.two_pow_pos k
        omega
      rw [p, show ((x.toBitVec.toNat : Nat) : Int) - ((2 ^ (24 - k) : Nat) : Int) * 256 * ((2 ^ k : Nat) : Int) = ((x.toBitVec.toNat : Nat) : Int) + (-(((2 ^ (24 - k) : Nat) : Int) * 256)) * ((2 ^ k : Nat) : Int) by rw [Int.neg_mul]; rfl, Int.add_mul_ediv_right _ _ (by omega)]
      generalize ((2 ^ (24 - k) : Nat) : Int) = A
      have e : ((x.toBitVec.toNat : Nat) : Int) / ((2 ^ k : Nat) : Int) = ((x.toBitVec.toNat / 2 ^ k : Nat) : Int) := (Int.natCast_ediv _ _).symm
      rw [e]
      generalize x.toBitVec.toNat / 2 ^ k = Q
      omega
  rw [show ((256 : Nat) : Int) = 256 from rfl]
  rw [key]
  generalize (x.toBitVec.toNat / 2 ^ k) % 256 = Q
  split <;> split <;> omega
theorem cr_ok (x : Int32) {s : Int32} (hs : s = 24 ∨ s = 16 ∨ s = 8 ∨ s = 0) : (0 ≤ (cB x s).toInt ∧ (cB x s).toInt ≤ 255) ∧ (rB8 x s).toInt = (if (cB x s).toInt < 128 then (cB x s).toInt else (cB x s).toInt - 256) := by
  have v : ∀ y : Int32, vp_nar .byte (y.toInt8.toInt32) = y.toInt8.toInt32 := fun y => by
    rw [vp_nar_byte]
    apply Int32.toInt_inj.mp
    rw [Int8.toInt_toInt32, Int8.toInt_toInt32, Int32.toInt_toInt8, Int8.toInt_toInt32]
    have h := Int32.toInt_toInt8 y
    rw [h]
    exact Int.bmod_bmod ..
  unfold rB8
  rw [v]
  rcases hs with rfl | rfl | rfl | rfl
  · exact cr_k (k := 24) (by decide) rfl rfl
  · exact cr_k (k := 16) (by decide) rfl rfl
  · exact cr_k (k := 8) (by decide) rfl rfl
  · exact cr_k (k := 0) (by decide) rfl rfl
end
section
/-! feed and end: what they come to. -/
def tsh (r : Nat) : Int32 := if r = 0 then 24 else if r = 1 then 16 else if r = 2 then 8 else 0
theorem tsh_ok (r : Nat) : tsh r = 24 ∨ tsh r = 16 ∨ tsh r = 8 ∨ tsh r = 0 := by
  unfold tsh
  split
  · exact Or.inl rfl
  · split
    · exact Or.inr (Or.inl rfl)
    · split
      · exact Or.inr (Or.inr (Or.inl rfl))
      · exact Or.inr (Or.inr (Or.inr rfl))
abbrev fcFM : yM := [(0, 0, 1), (1, 1, 1000)]
def fcG (m0 : xS) (by_ : Nat → Int32) (L r : Nat) (m : xS) : Prop := xT m ∧ xfr fcFM m0 m ∧ (m.1 0 1).toInt = ((L + r : Nat) : Int) ∧ (∀ j, j < L → m.1 1 j = m0.1 1 j) ∧ (∀ i, i < r → m.1 1 (L + i) = by_ i)
section FEfc
variable {m0 m : xS} {by_ : Nat → Int32} {L r F : Nat} {a : Int32}
theorem fcG_1 {v : Int32} (h : fcG m0 by_ L r m) (l : L + r < 400) (hb : 0 ≤ (by_ r).toInt ∧ (by_ r).toInt ≤ 255) (e : v.toInt = ((L + r + 1 : Nat) : Int)) : fcG m0 by_ L (r + 1) (xu (xu m 1 (L + r) (by_ r)) 0 1 v) := by
  obtain ⟨h1, h2, h3, h4, h5⟩ := h
  have b0 : xbn 1 (L + r) = some (0, 255) := xbn_a (k := 0) (n := 400) (ec := 5) (by decide) rfl (by decide) l
  have q : ∀ {j : Nat}, j ≠ L + r → (xu (xu m 1 (L + r) (by_ r)) 0 1 v).1 1 j = m.1 1 j := fun z => (xu_o (fun y => absurd y.1 (by decide))).trans (xu_o (fun y => z y.2))
  refine ⟨xT_c (xT_c h1 b0 hb.1 hb.2) (i := 0) (j := 1) rfl (by omega) (by omega), xfr_t h2 (xfr_t (xfr_u (by unfold yinM; rfl)) (xfr_u rfl)), (congrArg Int32.toInt (xu_s _ _ _ _)).trans e, fun j hj => (q (by omega)).trans (h4 j hj), fun i hi => ?_⟩
  by_cases z : i = r
  · subst z
    exact (xu_o (fun y => absurd y.1 (by decide))).trans (xu_s _ _ _ _)
  · exact (q (by omega)).trans (h5 i (by omega))
theorem fcP4 {f : Nat} {s s' : Int32} (h : fcG m0 by_ L r m) (l : L + r < 400) (hs : 0 ≤ s.toInt) (e2 : s + Int32.ofInt (-8) = s') (hb : by_ r = cB a s) (hbb : 0 ≤ (by_ r).toInt ∧ (by_ r).toInt ≤ 255) {Q : Unit → xS → Prop} (K : ∀ m', fcG m0 by_ L (r + 1) m' → xP (D123_0_3 F f a s' m') Q) : xP (D123_0_3 F (f + 1) a s m) Q := by
  have h3 := h.2.2.1
  have ei : (m.1 0 1).toNatClampNeg = L + r := by show (m.1 0 1).toInt.toNat = _; omega
  unfold D123_0_3
  refine xP_i (fun c => ?_) (fun _ => ?_)
  · have c : s.toInt < 0 := zt c
    omega
  refine xP_i (fun c => ?_) (fun _ => ?_)
  · have c : (400 : Int) ≤ (m.1 0 1).toInt := zt c
    omega
  refine xP_g (xib_t (by omega) (by omega)) ?_
  have z := fcG_1 (v := m.1 0 1 + 1) h l hbb ((xa1 (by show _ ≤ _ + (1 : Int); omega) (by show _ + (1 : Int) ≤ _; omega)).trans (by rw [h3]; rfl))
  rw [hb] at z
  rw [ei]
  unfold D123_0_43
  rw [e2]
  exact K _ z
theorem fcP5 (hF : 500 ≤ F) (h : fcG m0 by_ L r m) (l : L + r + 4 ≤ 400) (hb : ∀ i, i < 4 → by_ (r + i) = cB a (tsh i)) (hbb : ∀ i, 0 ≤ (by_ i).toInt ∧ (by_ i).toInt ≤ 255) : xP (D123_0 F a m) (fun _ m' => fcG m0 by_ L (r + 4) m') := by
  obtain ⟨f, rfl⟩ : ∃ f, F = f + 1 + 1 + 1 + 1 + 1 := ⟨F - 5, by omega⟩
  unfold D123_0
  refine fcP4 (s := 24) (s' := 16) h (by omega) (by decide) (by decide) (hb 0 (by decide)) (hbb _) (fun m1 h1 => ?_)
  refine fcP4 (s := 16) (s' := 8) h1 (by omega) (by decide) (by decide) (hb 1 (by decide)) (hbb _) (fun m2 h2 => ?_)
  refine fcP4 (s := 8) (s' := 0) h2 (by omega) (by decide) (by decide) (hb 2 (by decide)) (hbb _) (fun m3 h3 => ?_)
  refine fcP4 (s := 0) (s' := (-8)) h3 (by omega) (by decide) (by decide) (hb 3 (by decide)) (hbb _) (fun m4 h4 => ?_)
  unfold D123_0_3
  exact xP_i (fun _ => xP_r h4) (fun c => absurd c (by decide))
/-- feed -/
theorem fcPF {a1 a2 a3 a4 a5 : Int32} (hF : 500 ≤ F) (hX : xT m) (hL : (m.1 0 1).toInt = (L : Int)) (hb : ∀ i, i < 20 → by_ i = cB (if i / 4 = 0 then a1 else if i / 4 = 1 then a2 else if i / 4 = 2 then a3 else if i / 4 = 3 then a4 else a5) (tsh (i % 4))) (hbb : ∀ i, 0 ≤ (by_ i).toInt ∧ (by_ i).toInt ≤ 255) : xP (D122_0 F a1 a2 a3 a4 a5 m) (fun v m' => (400 < L + 20 ∧ v = -1 ∧ m' = m) ∨ (L + 20 ≤ 400 ∧ v.toInt = ((L + 20 : Nat) : Int) ∧ fcG m by_ L 20 m')) := by
  have b1 : (m.1 0 1).toInt ≤ 400 := (hX 0 1 (0, 400) rfl).2
  have e20 : (m.1 0 1 + 20).toInt = (L : Int) + 20 := (xa1 (by show _ ≤ _ + (20 : Int); omega) (by show _ + (20 : Int) ≤ _; omega)).trans (by rw [hL]; rfl)
  have h0 : fcG m by_ L 0 m := ⟨hX, xfr_r _ _, hL, fun _ _ => rfl, fun i hi => absurd hi (Nat.not_lt_zero _)⟩
  unfold D122_0
  refine xP_i (fun c => ?_) (fun c => xP_r (Or.inl ⟨?_, rfl, rfl⟩))
  · have c : (m.1 0 1 + 20).toInt ≤ 400 := zt c
    refine xP_b (fcP5 hF h0 (by omega) (fun i hi => (hb (0 + i) (by omega)).trans (by rw [if_pos (by omega), show (0 + i) % 4 = i by omega])) hbb) (fun _ m1 h1 => ?_)
    refine xP_b (fcP5 hF h1 (by omega) (fun i hi => (hb (0 + 4 + i) (by omega)).trans (by rw [if_neg (by omega), if_pos (by omega), show (0 + 4 + i) % 4 = i by omega])) hbb) (fun _ m2 h2 => ?_)
    refine xP_b (fcP5 hF h2 (by omega) (fun i hi => (hb (0 + 4 + 4 + i) (by omega)).trans (by rw [if_neg (by omega), if_neg (by omega), if_pos (by omega), show (0 + 4 + 4 + i) % 4 = i by omega])) hbb) (fun _ m3 h3 => ?_)
    refine xP_b (fcP5 hF h3 (by omega) (fun i hi => (hb (0 + 4 + 4 + 4 + i) (by omega)).trans (by rw [if_neg (by omega), if_neg (by omega), if_neg (by omega), if_pos (by omega), show (0 + 4 + 4 + 4 + i) % 4 = i by omega])) hbb) (fun _ m4 h4 => ?_)
    refine xP_b (fcP5 hF h4 (by omega) (fun i hi => (hb (0 + 4 + 4 + 4 + 4 + i) (by omega)).trans (by rw [if_neg (by omega), if_neg (by omega), if_neg (by omega), if_neg (by omega), show (0 + 4 + 4 + 4 + 4 + i) % 4 = i by omega])) hbb) (fun _ m5 h5 => xP_r (Or.inr ⟨by omega, h5.2.2.1, h5⟩))
  · have c : ¬ (m.1 0 1 + 20).toInt ≤ 400 := zf c
    omega
end FEfc
abbrev frFM : yM := [(70, 70, 1), (71, 71, 1000)]
def frG (m0 : xS) (by_ : Nat → Int32) (L r : Nat) (m : xS) : Prop := xT m ∧ xfr frFM m0 m ∧ (m.1 70 1).toInt = ((L + r : Nat) : Int) ∧ (∀ j, j < L → m.1 71 j = m0.1 71 j) ∧ (∀ i, i < r → m.1 71 (L + i) = by_ i)
section FEfr
variable {m0 m : xS} {by_ : Nat → Int32} {L r F : Nat} {a : Int32}
theorem frG_1 {v : Int32} (h : frG m0 by_ L r m) (l : L + r < 400) (hb : -128 ≤ (by_ r).toInt ∧ (by_ r).toInt ≤ 127) (e : v.toInt = ((L + r + 1 : Nat) : Int)) : frG m0 by_ L (r + 1) (xu (xu m 71 (L + r) (by_ r)) 70 1 v) := by
  obtain ⟨h1, h2, h3, h4, h5⟩ := h
  have b0 : xbn 71 (L + r) = some (-128, 127) := xbn_a (k := 1) (n := 400) (ec := 6) (by decide) rfl (by decide) l
  have q : ∀ {j : Nat}, j ≠ L + r → (xu (xu m 71 (L + r) (by_ r)) 70 1 v).1 71 j = m.1 71 j := fun z => (xu_o (fun y => absurd y.1 (by decide))).trans (xu_o (fun y => z y.2))
  refine ⟨xT_c (xT_c h1 b0 hb.1 hb.2) (i := 70) (j := 1) rfl (by omega) (by omega), xfr_t h2 (xfr_t (xfr_u (by unfold yinM; rfl)) (xfr_u rfl)), (congrArg Int32.toInt (xu_s _ _ _ _)).trans e, fun j hj => (q (by omega)).trans (h4 j hj), fun i hi => ?_⟩
  by_cases z : i = r
  · subst z
    exact (xu_o (fun y => absurd y.1 (by decide))).trans (xu_s _ _ _ _)
  · exact (q (by omega)).trans (h5 i (by omega))
theorem frP4 {f : Nat} {s s' : Int32} (h : frG m0 by_ L r m) (l : L + r < 400) (hs : 0 ≤ s.toInt) (e2 : s + Int32.ofInt (-8) = s') (hb : by_ r = rB8 a s) (hbb : -128 ≤ (by_ r).toInt ∧ (by_ r).toInt ≤ 127) {Q : Unit → xS → Prop} (K : ∀ m', frG m0 by_ L (r + 1) m' → xP (D160_3 F f a s' m') Q) : xP (D160_3 F (f + 1) a s m) Q := by
  have h3 := h.2.2.1
  have ei : (m.1 70 1).toNatClampNeg = L + r := by show (m.1 70 1).toInt.toNat = _; omega
  unfold D160_3
  refine xP_i (fun c => ?_) (fun _ => ?_)
  · have c : s.toInt < 0 := zt c
    omega
  refine xP_g (xib_t (by omega) (by omega)) ?_
  have z := frG_1 (v := m.1 70 1 + 1) h l hbb ((xa1 (by show _ ≤ _ + (1 : Int); omega) (by show _ + (1 : Int) ≤ _; omega)).trans (by rw [h3]; rfl))
  rw [hb] at z
  rw [ei]
  rw [e2]
  exact K _ z
theorem frP5 (hF : 500 ≤ F) (h : frG m0 by_ L r m) (l : L + r + 4 ≤ 400) (hb : ∀ i, i < 4 → by_ (r + i) = rB8 a (tsh i)) (hbb : ∀ i, -128 ≤ (by_ i).toInt ∧ (by_ i).toInt ≤ 127) : xP (D160 F a m) (fun _ m' => frG m0 by_ L (r + 4) m') := by
  obtain ⟨f, rfl⟩ : ∃ f, F = f + 1 + 1 + 1 + 1 + 1 := ⟨F - 5, by omega⟩
  unfold D160
  refine frP4 (s := 24) (s' := 16) h (by omega) (by decide) (by decide) (hb 0 (by decide)) (hbb _) (fun m1 h1 => ?_)
  refine frP4 (s := 16) (s' := 8) h1 (by omega) (by decide) (by decide) (hb 1 (by decide)) (hbb _) (fun m2 h2 => ?_)
  refine frP4 (s := 8) (s' := 0) h2 (by omega) (by decide) (by decide) (hb 2 (by decide)) (hbb _) (fun m3 h3 => ?_)
  refine frP4 (s := 0) (s' := (-8)) h3 (by omega) (by decide) (by decide) (hb 3 (by decide)) (hbb _) (fun m4 h4 => ?_)
  unfold D160_3
  exact xP_i (fun _ => xP_r h4) (fun c => absurd c (by decide))
/-- feed -/
theorem frPF {a1 a2 a3 a4 a5 : Int32} (hF : 500 ≤ F) (hX : xT m) (hL : (m.1 70 1).toInt = (L : Int)) (hb : ∀ i, i < 20 → by_ i = rB8 (if i / 4 = 0 then a1 else if i / 4 = 1 then a2 else if i / 4 = 2 then a3 else if i / 4 = 3 then a4 else a5) (tsh (i % 4))) (hbb : ∀ i, -128 ≤ (by_ i).toInt ∧ (by_ i).toInt ≤ 127) : xP (D161 F a1 a2 a3 a4 a5 m) (fun v m' => (400 < L + 20 ∧ v = -1 ∧ m' = m) ∨ (L + 20 ≤ 400 ∧ v.toInt = ((L + 20 : Nat) : Int) ∧ frG m by_ L 20 m')) := by
  have b1 : (m.1 70 1).toInt ≤ 400 := (hX 70 1 (0, 400) rfl).2
  have e20 : (m.1 70 1 + 20).toInt = (L : Int) + 20 := (xa1 (by show _ ≤ _ + (20 : Int); omega) (by show _ + (20 : Int) ≤ _; omega)).trans (by rw [hL]; rfl)
  have h0 : frG m by_ L 0 m := ⟨hX, xfr_r _ _, hL, fun _ _ => rfl, fun i hi => absurd hi (Nat.not_lt_zero _)⟩
  unfold D161
  refine xP_i (fun c => ?_) (fun c => xP_r (Or.inl ⟨?_, rfl, rfl⟩))
  · have c : (m.1 70 1 + 20).toInt ≤ 400 := zt c
    refine xP_b (frP5 hF h0 (by omega) (fun i hi => (hb (0 + i) (by omega)).trans (by rw [if_pos (by omega), show (0 + i) % 4 = i by omega])) hbb) (fun _ m1 h1 => ?_)
    refine xP_b (frP5 hF h1 (by omega) (fun i hi => (hb (0 + 4 + i) (by omega)).trans (by rw [if_neg (by omega), if_pos (by omega), show (0 + 4 + i) % 4 = i by omega])) hbb) (fun _ m2 h2 => ?_)
    refine xP_b (frP5 hF h2 (by omega) (fun i hi => (hb (0 + 4 + 4 + i) (by omega)).trans (by rw [if_neg (by omega), if_neg (by omega), if_pos (by omega), show (0 + 4 + 4 + i) % 4 = i by omega])) hbb) (fun _ m3 h3 => ?_)
    refine xP_b (frP5 hF h3 (by omega) (fun i hi => (hb (0 + 4 + 4 + 4 + i) (by omega)).trans (by rw [if_neg (by omega), if_neg (by omega), if_neg (by omega), if_pos (by omega), show (0 + 4 + 4 + 4 + i) % 4 = i by omega])) hbb) (fun _ m4 h4 => ?_)
    refine xP_b (frP5 hF h4 (by omega) (fun i hi => (hb (0 + 4 + 4 + 4 + 4 + i) (by omega)).trans (by rw [if_neg (by omega), if_neg (by omega), if_neg (by omega), if_neg (by omega), show (0 + 4 + 4 + 4 + 4 + i) % 4 = i by omega])) hbb) (fun _ m5 h5 => xP_r (Or.inr ⟨by omega, h5.2.2.1, h5⟩))
  · have c : ¬ (m.1 70 1 + 20).toInt ≤ 400 := zf c
    omega
end FEfr
/-- end -/
theorem fcPE {m : xS} {a : Int32} {L F : Nat} (hX : xT m) (hL : (m.1 0 1).toInt = (L : Int)) : xP (D124_0 F a m) (fun v m' => ((a.toInt < 0 ∨ (L : Int) < a.toInt) ∧ v = -1 ∧ m' = m) ∨ (0 ≤ a.toInt ∧ a.toInt ≤ (L : Int) ∧ v = a ∧ m' = xu m 0 1 a)) := by
  unfold D124_0 D124_0_12
  refine xP_i (fun c => xP_r (Or.inl ⟨Or.inl (zt c), rfl, rfl⟩)) (fun c => xP_i (fun d => xP_r (Or.inr ⟨?_, ?_, rfl, rfl⟩)) (fun d => xP_r (Or.inl ⟨Or.inr ?_, rfl, rfl⟩)))
  · have c : ¬ a.toInt < 0 := zf c
    omega
  · have d : a.toInt ≤ (m.1 0 1).toInt := zt d
    omega
  · have d : ¬ a.toInt ≤ (m.1 0 1).toInt := zf d
    omega
/-- end -/
theorem frPE {m : xS} {a : Int32} {L F : Nat} (hX : xT m) (hL : (m.1 70 1).toInt = (L : Int)) : xP (D162 F a m) (fun v m' => ((a.toInt < 0 ∨ (L : Int) < a.toInt) ∧ v = -1 ∧ m' = m) ∨ (0 ≤ a.toInt ∧ a.toInt ≤ (L : Int) ∧ v = a ∧ m' = xu m 70 1 a)) := by
  unfold D162 D162_12
  refine xP_i (fun c => xP_r (Or.inl ⟨Or.inl (zt c), rfl, rfl⟩)) (fun c => xP_i (fun d => xP_r (Or.inr ⟨?_, ?_, rfl, rfl⟩)) (fun d => xP_r (Or.inl ⟨Or.inr ?_, rfl, rfl⟩)))
  · have c : ¬ a.toInt < 0 := zf c
    omega
  · have d : a.toInt ≤ (m.1 70 1).toInt := zt d
    omega
  · have d : ¬ a.toInt ≤ (m.1 70 1).toInt := zf d
    omega
end
section
/-! The class's village: the tape is empty behind it. -/
def ys645b : ySp := (127, 1, (0, [], [], [], [(0, (2, yc 0, yc 0))], []), [(1, [(0, 0, 400)], [], [(yc 2, yc 0, (2, yc 1, yc 0)), (yc 2, yc 1, (0, (1, 0, 0), yc 0)), (yc 2, yc 2, (0, yc 0, yc 0)), (yc 2, yc 4, (0, yc 0, yc 0)), (yc 0, yc 1, (0, yc 0, yc 0))], [], [])], [(0, 0, 1), (2, 2, 0), (2, 2, 1), (2, 2, 2), (2, 2, 4)])
def yx645b : yCx := ([ys644], ys645b.2.2.2.2, yFP, zm127.2.2.1, zm127.2.2.2.1, zc127, 0, ys645b.2.2.2.1, [], [])
theorem yw645b : ywf ys645b.2.2.1 = true := by decide +kernel
theorem yk645b : yver yx645b ys645b.2.2.1 4000 = true := by decide +kernel
theorem yt645b {E : zHp → Prop} (h : yEF E yFP) : yTs E 2 ys645b := yver_s (x := yx645b) h (yal_c (yt644 h) (by decide) yw644 (yal_n)) yg127 yk645b
def ys1537b : ySp := (125, 1, (0, [], [], [], [(0, (2, yc 0, yc 0))], []), [(5, [(0, (-2147483648), 2147483647), (1, (-2147483648), 2147483647), (2, 0, 400), (3, 0, 400), (4, 0, 2147483647)], [], [(yc 5, yc 0, (0, (1, 1, 0), yc 0)), (yc 2, yc 0, (2, yc 1, yc 0)), (yc 2, yc 2, (0, (1, 2, 0), yc 0)), (yc 2, yc 1, (0, (1, 3, 0), yc 0)), (yc 2, yc 4, (0, (1, 4, 0), yc 0)), (yc 0, yc 1, (0, yc 0, yc 0))], [], [(0, (1, 0, 0), yc 0)])], [(0, 0, 1), (2, 2, 0), (2, 2, 1), (2, 2, 2), (2, 2, 3), (2, 2, 4), (5, 5, 0), (5, 5, 1), (5, 5, 2), (5, 5, 3), (10, 10, 1000), (12, 12, 1000), (14, 14, 2)])
def yx1537b : yCx := ([ys1292, ys614, ys1536, ys663, ys1535, ys645b], ys1537b.2.2.2.2, yFP, zm125.2.2.1, zm125.2.2.2.1, zc125, 0, ys1537b.2.2.2.1, [], [])
theorem yw1537b : ywf ys1537b.2.2.1 = true := by decide +kernel
theorem yk1537b : yver yx1537b ys1537b.2.2.1 4000 = true := by decide +kernel
theorem yt1537b {E : zHp → Prop} (h : yEF E yFP) : yTs E 9 ys1537b := yver_s (x := yx1537b) h (yal_c (yt1292 h) (by decide) yw1292 (yal_c (yt614 h) (by decide) yw614 (yal_c (yt1536 h) (by decide) yw1536 (yal_c (yt663 h) (by decide) yw663 (yal_c (yt1535 h) (by decide) yw1535 (yal_c (yt645b h) (by decide) yw645b (yal_n))))))) yg125 yk1537b
end
section
/-! Calls by their specs, in pairs. -/
/-- what holds a symbol's value -/
def ekf (K : List yK) (s : Nat) : Option yK := K.find? (fun t => t.2.2.2.1.2.1 == s)
def er (hp : zHp) (K : List yK) (ys : List Int32) (s : Nat) : Int := match ys[s]? with
  | some y => y.toInt
  | none => match ekf K s with
    | some t => ((xof hp).1 t.1.2.2.toNat t.2.1.2.2.toNat).toInt
    | none => 0
def easl : Nat → Nat → List yV
  | _, 0 => []
  | k, n + 1 => yI (1, k, 0) :: easl (k + 1) n
def eas (c na : Nat) : List yV := (2, yc c, yc 0) :: easl 0 na
def eBok (na n : Nat) (bl : List Nat) (K : List yK) (e : Nat × Int × Int) : Bool := decide (e.1 < n) && (if e.1 < na then (decide (e.2.1 ≤ -2147483648) && decide (2147483647 ≤ e.2.2)) || (bl.any (fun b => b == e.1) && (decide (e.2.1 ≤ 0) && decide (1 ≤ e.2.2))) else match ekf K e.1 with
  | some t => (match xbn t.1.2.2.toNat t.2.1.2.2.toNat with
    | some p => decide (e.2.1 ≤ p.1) && decide (p.2 ≤ e.2.2)
    | none => false)
  | none => decide (e.2.1 ≤ 0) && decide (0 ≤ e.2.2))
def eKok (na n : Nat) (K : List yK) (t : yK) : Bool := t.1.1 == 0 && (decide (0 ≤ t.1.2.2) && (t.2.1.1 == 0 && (decide (0 ≤ t.2.1.2.2) && (t.2.2.1 == 0 && (t.2.2.2.1.1 == 1 && (t.2.2.2.1.2.2 == 0 && (t.2.2.2.2.1 == 0 && (decide (na ≤ t.2.2.2.1.2.1) && (decide (t.2.2.2.1.2.1 < n) && ((xbn t.1.2.2.toNat t.2.1.2.2.toNat).isSome && (match ekf K t.2.2.2.1.2.1 with
  | some u => u.1.2.2 == t.1.2.2 && u.2.1.2.2 == t.2.1.2.2
  | none => false)))))))))))
def eOk (c na : Nat) (bl : List Nat) (P : yS) : Bool := P.2.1.all (eBok na P.1 bl P.2.2.2.1) && (P.2.2.1.isEmpty && (P.2.2.2.1.all (eKok na P.1 P.2.2.2.1) && (decide (P.2.2.2.2.1 = yargs 0 (eas c na)) && (P.2.2.2.2.2.isEmpty && decide (na ≤ P.1)))))
def eQok (q : yS) : Bool := match q.2.2.2.2.2 with
  | [a] => a.1 == 0
  | _ => false
section EPAIR
theorem erd {B : zHp} (H : yH0 B) {i j : Nat} {p : Int × Int} (hp : xbn i j = some p) : yrd B i (j : Int) = some (.int ((xof B).1 i j)) := by
  unfold xbn at hp
  split at hp
  · next h88 =>
    have c := H.2.2 i (Nat.lt_of_lt_of_le h88 H.1)
    split at hp
    · next e0 =>
      unfold yokc at c
      rw [e0] at c
      obtain ⟨fs, e1, -, e3⟩ := c
      split at hp
      · next t ht =>
        obtain ⟨v, v1, v2⟩ := e3 j t ht
        split at hp
        · next t0 =>
          unfold yft at v2
          rw [t0] at v2
          obtain ⟨x, rfl, b⟩ := v2
          unfold yrd xof
          dsimp only
          rw [e1]
          dsimp only
          rw [if_neg (by omega), Int.toNat_natCast, v1]
        · cases hp
      · cases hp
    · next e1 =>
      split at hp
      · next hk =>
        obtain ⟨f, e, b⟩ := xok_a c e1 hk.1
        unfold yrd xof
        dsimp only
        rw [e]
        dsimp only
        rw [if_neg (by omega), Int.toNat_natCast]
      · cases hp
    · cases hp
  · cases hp
theorem easl_ok {h : Nat} {r : Nat → Int} {n : Nat} : ∀ (zs : List Int32) (k : Nat), (∀ i, ∀ z, zs[i]? = some z → r (k + i) = z.toInt ∧ k + i < n) → ystk h r n (easl k zs.length) (zs.map .int)
  | [], k, _ => trivial
  | z :: zs, k, g => by
    have g0 := g 0 z rfl
    refine ⟨⟨⟨Or.inr g0.2, Or.inl rfl⟩, yvI ?_⟩, easl_ok zs (k + 1) (fun i y hy => ?_)⟩
    · show z.toInt = 1 * r k + 0
      have := g0.1
      rw [Nat.add_zero] at this
      omega
    · have := g (i + 1) y hy
      rw [show k + 1 + i = k + (i + 1) by omega]
      exact this
theorem eG {hp : zHp} {c na : Nat} {bl : List Nat} {P : yS} {ys : List Int32} (H : yH0 hp) (h : eOk c na bl P = true) (hl : ys.length = na) (hb : ∀ s ∈ bl, ∀ y, ys[s]? = some y → 0 ≤ y.toInt ∧ y.toInt ≤ 1) : yG hp (er hp P.2.2.2.1 ys) P (lv_args 0 (.ref c :: ys.map .int)) [] := by
  unfold eOk at h
  simp only [Bool.and_eq_true, decide_eq_true_eq] at h
  obtain ⟨h1, h2, h3, h4, h5, h6⟩ := h
  have ein : ∀ s, s < na → ∃ y, ys[s]? = some y ∧ er hp P.2.2.2.1 ys s = y.toInt := fun s hs => by
    refine ⟨ys[s], List.getElem?_eq_getElem (by omega), ?_⟩
    unfold er
    rw [List.getElem?_eq_getElem (by omega)]
  have eout : ∀ s, ¬ s < na → er hp P.2.2.2.1 ys s = (match ekf P.2.2.2.1 s with
    | some t => ((xof hp).1 t.1.2.2.toNat t.2.1.2.2.toNat).toInt
    | none => 0) := fun s hs => by
    unfold er
    rw [List.getElem?_eq_none (by omega)]
  refine ⟨fun e he => ?_, fun x hx => ?_, fun t ht => ?_, ?_, ?_⟩
  · have k := List.all_eq_true.mp h1 e he
    unfold eBok at k
    rw [Bool.and_eq_true] at k
    refine ⟨of_decide_eq_true k.1, ?_⟩
    have k := k.2
    by_cases l : e.1 < na
    · rw [if_pos l] at k
      obtain ⟨y, y1, y2⟩ := ein e.1 l
      rw [y2]
      simp only [Bool.or_eq_true, Bool.and_eq_true, decide_eq_true_eq] at k
      rcases k with k | k
      · have := y32 y
        omega
      · obtain ⟨b, b1, b2⟩ := List.any_eq_true.mp k.1
        have b2 : b = e.1 := by simpa using b2
        subst b2
        have := hb _ b1 y y1
        omega
    · rw [if_neg l] at k
      rw [eout e.1 l]
      cases ek : ekf P.2.2.2.1 e.1 with
      | none =>
        rw [ek] at k
        simp only [Bool.and_eq_true, decide_eq_true_eq] at k
        exact k
      | some t =>
        rw [ek] at k
        dsimp only at k ⊢
        cases ep : xbn t.1.2.2.toNat t.2.1.2.2.toNat with
        | none => rw [ep] at k; cases k
        | some p =>
          rw [ep] at k
          simp only [Bool.and_eq_true, decide_eq_true_eq] at k
          have b := xT_of H _ _ p ep
          omega
  · have h2 : P.2.2.1 = [] := List.isEmpty_iff.mp h2
    rw [h2] at hx
    cases hx
  · have k := List.all_eq_true.mp h3 t ht
    unfold eKok at k
    simp only [Bool.and_eq_true, decide_eq_true_eq, beq_iff_eq] at k
    obtain ⟨k1, k2, k3, k4, k5, k6, k7, k8, k9, k10, k11, k12⟩ := k
    have e1 : ∀ r, yev r t.1 = t.1.2.2 := fun r => by unfold yev; rw [k1]; omega
    have e2 : ∀ r, yev r t.2.1 = t.2.1.2.2 := fun r => by unfold yev; rw [k3]; omega
    obtain ⟨p, hp1⟩ := Option.isSome_iff_exists.mp k11
    refine ⟨⟨Or.inl k1, Or.inl k3, Or.inr k10, Or.inl k8⟩, by rw [e1]; exact k2, .int ((xof hp).1 t.1.2.2.toNat t.2.1.2.2.toNat), ?_, ?_⟩
    · rw [e1, e2]
      have := erd H hp1
      rw [show ((t.2.1.2.2.toNat : Nat) : Int) = t.2.1.2.2 by omega] at this
      exact this
    · unfold yv
      rw [k5]
      refine ⟨_, rfl, ?_⟩
      unfold yev
      rw [k6, k7, eout _ (by omega)]
      cases ek : ekf P.2.2.2.1 t.2.2.2.1.2.1 with
      | none => rw [ek] at k12; cases k12
      | some u =>
        rw [ek] at k12
        simp only [Bool.and_eq_true, beq_iff_eq] at k12
        dsimp only
        rw [k12.1, k12.2]
        omega
  · rw [h4]
    refine yargs_ok (l := eas c na) (as := .ref c :: ys.map .int) (k := 0) ⟨⟨⟨Or.inl rfl, Or.inl rfl⟩, yv_ref (yev_c _ _)⟩, ?_⟩
    rw [← hl]
    refine easl_ok ys 0 (fun i z hz => ?_)
    have hi : i < ys.length := (List.getElem?_eq_some_iff.mp hz).1
    rw [Nat.zero_add]
    obtain ⟨y, y1, y2⟩ := ein i (by omega)
    rw [hz] at y1
    cases y1
    exact ⟨y2, by omega⟩
  · have h5 : P.2.2.2.2.2 = [] := List.isEmpty_iff.mp h5
    rw [h5]
    trivial
theorem ecat : ∀ ys : List Int32, ((ys.map Value.int).map fun v => v.category).sum = ys.length
  | [] => rfl
  | y :: ys => by
    have := ecat ys
    show (Value.int y).category + ((ys.map Value.int).map fun v => v.category).sum = ys.length + 1
    rw [this]
    show 1 + ys.length = _
    omega
theorem eargl : ∀ (l : List yV) (i : Nat), (yargs i l).length = l.length
  | [], _ => rfl
  | a :: l, i => by
    show (yargs _ l).length + 1 = l.length + 1
    rw [eargl l]
theorem easll : ∀ (n k : Nat), (easl k n).length = n
  | 0, _ => rfl
  | n + 1, k => by
    show (easl (k + 1) n).length + 1 = n + 1
    rw [easll n]
/-- a spec used -/
theorem eSp {E : zHp → Prop} {n : Nat} {sp : ySp} (T : yTs E n sp) {c na : Nat} {bl : List Nat} (ck : (eOk c na bl sp.2.2.1 && (decide (n ≤ 20) && (decide (na + 1 ≤ sp.2.1) && sp.2.2.2.1.all eQok))) = true) {hp : zHp} (H : yH0 hp ∧ E hp) {ys : List Int32} (hl : ys.length = na) (hb : ∀ s ∈ bl, ∀ y, ys[s]? = some y → 0 ≤ y.toInt ∧ y.toInt ≤ 1) : ∃ (x : Int32) (z : zHp), zCan 20 sp.1 (.ref c :: ys.map .int) hp (some (.int x), z) ∧ (yH0 z ∧ E z) ∧ yF sp.2.2.2.2 hp z ∧ ∃ q ∈ sp.2.2.2.1, ∃ r2, yag sp.2.2.1.1 (er hp sp.2.2.1.2.2.2.1 ys) r2 ∧ yG z r2 q [] [.int x] := by
  simp only [Bool.and_eq_true, decide_eq_true_eq] at ck
  obtain ⟨c1, c2, c3, c4⟩ := ck
  have h4 : sp.2.2.1.2.2.2.2.1 = yargs 0 (eas c na) := by
    have c1 := c1
    unfold eOk at c1
    simp only [Bool.and_eq_true, decide_eq_true_eq] at c1
    exact c1.2.2.2.1
  obtain ⟨⟨x1, z⟩, hz, hH, hF, q, hq, r2, ag, -, g⟩ := T 20 c2 hp _ (.ref c :: ys.map .int) H (eG H.1 c1 hl hb) (by
    have := ecat ys
    show (Value.ref c).category + ((ys.map Value.int).map fun v => v.category).sum ≤ _
    rw [this]
    show 1 + ys.length ≤ _
    omega) (by
    rw [h4, eargl]
    show (ys.map Value.int).length + 1 = (easl 0 na).length + 1
    rw [easll, List.length_map, hl])
  have k := List.all_eq_true.mp c4 q hq
  have g5 := g.2.2.2.2
  unfold eQok at k
  split at k
  · next a ea =>
    rw [ea] at g5
    obtain ⟨v, m, e1, ⟨-, hv⟩, gm⟩ := ystk_cons g5
    have e2 := ystk_nil gm
    subst e2
    obtain ⟨x, rfl, -⟩ := yvI' (by simpa using k) hv
    have ex : x1 = some (.int x) := by
      cases x1 with
      | none => cases e1
      | some w => cases e1; rfl
    subst ex
    exact ⟨x, z, hz, hH, hF, q, hq, r2, ag, g⟩
  · cases k
theorem eF {M : yM} {a b : zHp} (f : yF M a b) {i j : Nat} (h : yinM M i (j : Int) = false) : (xof b).1 i j = (xof a).1 i j := by
  rw [xof_rd, xof_rd, f.2.2 i j (Or.inr h)]
theorem eK0 {hp : zHp} (H : yH0 hp) : zKd 0 hp = some 10 := by
  have := xkd H (s := xof hp) (ix := 0) (a := 10) (by decide)
  rw [xW_of] at this
  exact this
theorem eK70 {hp : zHp} (H : yH0 hp) : zKd 70 hp = some 11 := by
  have := xkd H (s := xof hp) (ix := 70) (a := 11) (by decide)
  rw [xW_of] at this
  exact this
end EPAIR
/-- a pair of calls: the class first -/
def lP (Iv : zHp → Prop) (kc kr : Nat) (as : List Value) (cm : Bool) : Prop := ∀ hp, Iv hp → ∃ (x1 x2 : Int32) (hp1 hp2 : zHp), zKd 0 hp = some 10 ∧ zKd 70 hp1 = some 11 ∧ zCan 20 kc (.ref 0 :: as) hp (some (.int x1), hp1) ∧ hp.1 ≤ hp1.1 ∧ zCan 20 kr (.ref 70 :: as) hp1 (some (.int x2), hp2) ∧ hp1.1 ≤ hp2.1 ∧ Iv hp2 ∧ (cm = true → x1 = x2)
theorem lP_w {Iv : zHp → Prop} {kc kr : Nat} {as : List Value} {b : Bool} (h : lP Iv kc kr as true) : lP Iv kc kr as b := fun hp hI => by
  obtain ⟨x1, x2, hp1, hp2, a1, a2, a3, a4, a5, a6, a7, a8⟩ := h hp hI
  exact ⟨x1, x2, hp1, hp2, a1, a2, a3, a4, a5, a6, a7, fun _ => a8 rfl⟩
end
section
/-! Tapes and numbers of rules alike, through every pair of calls. -/
abbrev r0M : yM := [(0, 0, 1), (0, 0, 8), (1, 1, 1000), (70, 70, 1), (70, 70, 2), (71, 71, 1000)]
def r0 (hp : zHp) : Prop := ((xof hp).1 70 1).toInt = ((xof hp).1 0 1).toInt ∧ ((xof hp).1 70 2).toInt = ((xof hp).1 0 8).toInt ∧ ∀ j : Nat, (j : Int) < ((xof hp).1 0 1).toInt → ((xof hp).1 71 j).toInt = (if ((xof hp).1 1 j).toInt < 128 then ((xof hp).1 1 j).toInt else ((xof hp).1 1 j).toInt - 256)
abbrev rI (hp : zHp) : Prop := (yH0 hp ∧ yEA yAr hp) ∧ r0 hp
section ETAPE
theorem r0_F {M : yM} {hp z : zHp} (f : yF M hp z) (h : ydj M r0M = true) (k : r0 hp) : r0 z := by
  have q : ∀ i j : Nat, yinM r0M i (j : Int) = true → (xof z).1 i j = (xof hp).1 i j := fun i j hj => eF f (ydj_ok h i j hj)
  unfold r0 at k ⊢
  rw [q 70 1 rfl, q 0 1 rfl, q 70 2 rfl, q 0 8 rfl]
  refine ⟨k.1, k.2.1, fun j hj => ?_⟩
  rw [q 71 j (by unfold yinM; rfl), q 1 j (by unfold yinM; rfl)]
  exact k.2.2 j hj
/-- a pair that leaves tapes and numbers of rules alone -/
theorem eP {n1 n2 : Nat} {sp1 sp2 : ySp} (T1 : yTs (yEA yAr) n1 sp1) (T2 : yTs (yEA yAr) n2 sp2) {na : Nat} {bl : List Nat} (c1 : (eOk 0 na bl sp1.2.2.1 && (decide (n1 ≤ 20) && (decide (na + 1 ≤ sp1.2.1) && sp1.2.2.2.1.all eQok))) = true) (c2 : (eOk 70 na bl sp2.2.2.1 && (decide (n2 ≤ 20) && (decide (na + 1 ≤ sp2.2.1) && sp2.2.2.2.1.all eQok))) = true) (hM : (ydj sp1.2.2.2.2 r0M && ydj sp2.2.2.2.2 r0M) = true) (ys : List Int32) (hl : ys.length = na) (hb : ∀ s ∈ bl, ∀ y, ys[s]? = some y → 0 ≤ y.toInt ∧ y.toInt ≤ 1) : lP rI sp1.1 sp2.1 (ys.map .int) false := fun hp hI => by
  rw [Bool.and_eq_true] at hM
  obtain ⟨x1, z1, a1, a2, a3, -⟩ := eSp T1 c1 hI.1 hl hb
  obtain ⟨x2, z2, b1, b2, b3, -⟩ := eSp T2 c2 a2 hl hb
  exact ⟨x1, x2, z1, z2, eK0 hI.1.1, eK70 a2.1, a1, a3.1, b1, b3.1, ⟨b2, r0_F b3 hM.2 (r0_F a3 hM.1 hI.2)⟩, fun h => by cases h⟩
theorem exo {B : zHp} {m : xS} {i j : Nat} {p : Int × Int} (H : yH0 (xW B m)) (h : xbn i j = some p) : (xof (xW B m)).1 i j = m.1 i j := xof_W B m i j ⟨_, erd H h⟩
theorem eb1 {j : Nat} (h : j < 400) : xbn 1 j = some (0, 255) := xbn_a (k := 0) (n := 400) (ec := 5) (by decide) rfl (by decide) h
theorem eb71 {j : Nat} (h : j < 400) : xbn 71 j = some (-128, 127) := xbn_a (k := 1) (n := 400) (ec := 6) (by decide) rfl (by decide) h
/-- a place that a spec's end knows -/
theorem eKq {z : zHp} {r2 : Nat → Int} {q : yS} {lv : List (Nat × Value)} {st : List Value} (g : yG z r2 q lv st) {i j : Nat} {c : Int} (h : (((yc (i : Int)), (yc (j : Int)), ((0, yc c, yc 0) : yV)) : yK) ∈ q.2.2.2.1) : ((xof z).1 i j).toInt = c := by
  obtain ⟨-, -, w, w1, w2⟩ := g.2.2.1 _ h
  have w1 : yrd z (yev r2 (yc (i : Int))).toNat (yev r2 (yc (j : Int))) = some w := w1
  rw [yev_c, yev_c, Int.toNat_natCast] at w1
  obtain ⟨x, rfl, hx⟩ := yvI' (a := (0, yc c, yc 0)) rfl w2
  rw [xof_rd, w1]
  exact hx.trans (yev_c _ _)
theorem eFeed {a1 a2 a3 a4 a5 : Int32} : lP rI 122 161 [.int a1, .int a2, .int a3, .int a4, .int a5] true := fun hp hI => by
  obtain ⟨x1, z1, p1, p2, p3, -⟩ := eSp (yt1542 yXx.1) (c := 0) (na := 5) (bl := []) (by decide +kernel) hI.1 (ys := [a1, a2, a3, a4, a5]) rfl (fun s hs => by cases hs)
  obtain ⟨x2, z2, q1, q2, q3, -⟩ := eSp (yt1548 yXx.1) (c := 70) (na := 5) (bl := []) (by decide +kernel) p2 (ys := [a1, a2, a3, a4, a5]) rfl (fun s hs => by cases hs)
  have hT := xT_of hI.1.1
  have b1 : (0 : Int) ≤ ((xof hp).1 0 1).toInt ∧ ((xof hp).1 0 1).toInt ≤ 400 := hT 0 1 (0, 400) rfl
  obtain ⟨L, hL⟩ : ∃ L : Nat, ((xof hp).1 0 1).toInt = (L : Int) := ⟨((xof hp).1 0 1).toInt.toNat, by omega⟩
  obtain ⟨y, hy, hQ⟩ := fcPF (F := 500) (m := xof hp) (L := L) (by_ := fun i => cB (if i / 4 = 0 then a1 else if i / 4 = 1 then a2 else if i / 4 = 2 then a3 else if i / 4 = 3 then a4 else a5) (tsh (i % 4))) (a1 := a1) (a2 := a2) (a3 := a3) (a4 := a4) (a5 := a5) (Nat.le_refl _) hT hL (fun i _ => rfl) (fun i => (cr_ok _ (tsh_ok _)).1)
  have u := Z122_0 hI.1.1 hy (d := 20) (by decide)
  rw [xW_of] at u
  have u := zCan_u p1 u
  cases u
  have f70 : ∀ j, (xof (xW hp y.2)).1 70 j = (xof hp).1 70 j := fun j => eF p3 (by unfold yinM; rfl)
  have f71 : ∀ j, (xof (xW hp y.2)).1 71 j = (xof hp).1 71 j := fun j => eF p3 (by unfold yinM; rfl)
  obtain ⟨y2, hy2, hQ2⟩ := frPF (F := 500) (m := xof (xW hp y.2)) (L := L) (by_ := fun i => rB8 (if i / 4 = 0 then a1 else if i / 4 = 1 then a2 else if i / 4 = 2 then a3 else if i / 4 = 3 then a4 else a5) (tsh (i % 4))) (a1 := a1) (a2 := a2) (a3 := a3) (a4 := a4) (a5 := a5) (Nat.le_refl _) (xT_of p2.1) (by rw [f70]; exact hI.2.1.trans hL) (fun i _ => rfl) (fun i => by
    have := cr_ok (if i / 4 = 0 then a1 else if i / 4 = 1 then a2 else if i / 4 = 2 then a3 else if i / 4 = 3 then a4 else a5) (tsh_ok (i % 4))
    rw [this.2]
    exact (show ∀ q : Int, (0 ≤ q ∧ q ≤ 255) → -128 ≤ (if q < 128 then q else q - 256) ∧ (if q < 128 then q else q - 256) ≤ 127 from fun q hq => by split <;> omega) _ this.1)
  have u2 := Z161 p2.1 hy2 (d := 20) (by decide)
  rw [xW_of] at u2
  have u2 := zCan_u q1 u2
  cases u2
  refine ⟨y.1, y2.1, _, _, eK0 hI.1.1, eK70 p2.1, p1, p3.1, q1, q3.1, ⟨q2, ?_⟩, fun _ => ?_⟩
  · rcases hQ with ⟨l1, v1, m1⟩ | ⟨l1, v1, g1⟩
    · rcases hQ2 with ⟨l2, v2, m2⟩ | ⟨l2, v2, g2⟩
      · rw [m2, xW_of, m1, xW_of]
        exact hI.2
      · omega
    · rcases hQ2 with ⟨l2, v2, m2⟩ | ⟨l2, v2, g2⟩
      · omega
      · obtain ⟨-, -, g13, g14, g15⟩ := g1
        obtain ⟨-, -, g23, g24, g25⟩ := g2
        have c01 : (xof (xW (xW hp y.2) y2.2)).1 0 1 = y.2.1 0 1 := (eF q3 rfl).trans (exo p2.1 rfl)
        have c08 : (xof (xW (xW hp y.2) y2.2)).1 0 8 = (xof hp).1 0 8 := (eF q3 rfl).trans (eF p3 rfl)
        have c1j : ∀ j, j < 400 → (xof (xW (xW hp y.2) y2.2)).1 1 j = y.2.1 1 j := fun j hj => (eF q3 (by unfold yinM; rfl)).trans (exo p2.1 (eb1 hj))
        have d1 : (xof (xW (xW hp y.2) y2.2)).1 70 1 = y2.2.1 70 1 := exo q2.1 rfl
        have d2 : (xof (xW (xW hp y.2) y2.2)).1 70 2 = (xof hp).1 70 2 := (eF q3 rfl).trans (f70 2)
        have d71 : ∀ j, j < 400 → (xof (xW (xW hp y.2) y2.2)).1 71 j = y2.2.1 71 j := fun j hj => exo q2.1 (eb71 hj)
        refine ⟨by rw [c01, d1, g13, g23], by rw [d2, c08]; exact hI.2.2.1, fun j hj => ?_⟩
        rw [c01, g13] at hj
        rw [c1j j (by omega), d71 j (by omega)]
        by_cases hh : j < L
        · rw [g14 j hh, g24 j hh, f71]
          exact hI.2.2.2 j (by omega)
        · obtain ⟨i, rfl⟩ : ∃ i, j = L + i := ⟨j - L, by omega⟩
          rw [g15 i (by omega), g25 i (by omega)]
          exact (cr_ok _ (tsh_ok _)).2
  · apply Int32.toInt_inj.mp
    rcases hQ with ⟨l1, v1, m1⟩ | ⟨l1, v1, g1⟩
    · rcases hQ2 with ⟨l2, v2, m2⟩ | ⟨l2, v2, g2⟩
      · rw [v1, v2]
      · omega
    · rcases hQ2 with ⟨l2, v2, m2⟩ | ⟨l2, v2, g2⟩
      · omega
      · rw [v1, v2]
theorem eEnd {a : Int32} : lP rI 124 162 [.int a] true := fun hp hI => by
  obtain ⟨x1, z1, p1, p2, p3, -⟩ := eSp (yt1538 yXx.1) (c := 0) (na := 1) (bl := []) (by decide +kernel) hI.1 (ys := [a]) rfl (fun s hs => by cases hs)
  obtain ⟨x2, z2, q1, q2, q3, -⟩ := eSp (yt1540 yXx.1) (c := 70) (na := 1) (bl := []) (by decide +kernel) p2 (ys := [a]) rfl (fun s hs => by cases hs)
  have hT := xT_of hI.1.1
  have b1 : (0 : Int) ≤ ((xof hp).1 0 1).toInt ∧ ((xof hp).1 0 1).toInt ≤ 400 := hT 0 1 (0, 400) rfl
  obtain ⟨L, hL⟩ : ∃ L : Nat, ((xof hp).1 0 1).toInt = (L : Int) := ⟨((xof hp).1 0 1).toInt.toNat, by omega⟩
  obtain ⟨y, hy, hQ⟩ := fcPE (F := 500) (m := xof hp) (L := L) (a := a) hT hL
  have u := Z124_0 hI.1.1 hy (d := 20) (by decide)
  rw [xW_of] at u
  have u := zCan_u p1 u
  cases u
  have f70 : ∀ j, (xof (xW hp y.2)).1 70 j = (xof hp).1 70 j := fun j => eF p3 (by unfold yinM; rfl)
  have f71 : ∀ j, (xof (xW hp y.2)).1 71 j = (xof hp).1 71 j := fun j => eF p3 (by unfold yinM; rfl)
  have f1 : ∀ j, (xof (xW hp y.2)).1 1 j = (xof hp).1 1 j := fun j => eF p3 (by unfold yinM; rfl)
  obtain ⟨y2, hy2, hQ2⟩ := frPE (F := 500) (m := xof (xW hp y.2)) (L := L) (a := a) (xT_of p2.1) (by rw [f70]; exact hI.2.1.trans hL)
  have u2 := Z162 p2.1 hy2 (d := 20) (by decide)
  rw [xW_of] at u2
  have u2 := zCan_u q1 u2
  cases u2
  refine ⟨y.1, y2.1, _, _, eK0 hI.1.1, eK70 p2.1, p1, p3.1, q1, q3.1, ⟨q2, ?_⟩, fun _ => ?_⟩
  · rcases hQ with ⟨l1, v1, m1⟩ | ⟨l1, l1', v1, g1⟩
    · rcases hQ2 with ⟨l2, v2, m2⟩ | ⟨l2, l2', v2, g2⟩
      · rw [m2, xW_of, m1, xW_of]
        exact hI.2
      · omega
    · rcases hQ2 with ⟨l2, v2, m2⟩ | ⟨l2, l2', v2, g2⟩
      · omega
      · have c01 : (xof (xW (xW hp y.2) y2.2)).1 0 1 = a := (eF q3 rfl).trans ((exo p2.1 rfl).trans (by rw [g1, xu_s]))
        have c08 : (xof (xW (xW hp y.2) y2.2)).1 0 8 = (xof hp).1 0 8 := (eF q3 rfl).trans (eF p3 rfl)
        have d1 : (xof (xW (xW hp y.2) y2.2)).1 70 1 = a := (exo q2.1 rfl).trans (by rw [g2, xu_s])
        have d2 : (xof (xW (xW hp y.2) y2.2)).1 70 2 = (xof hp).1 70 2 := (eF q3 rfl).trans (f70 2)
        refine ⟨by rw [c01, d1], by rw [d2, c08]; exact hI.2.2.1, fun j hj => ?_⟩
        rw [c01] at hj
        rw [show (xof (xW (xW hp y.2) y2.2)).1 1 j = (xof hp).1 1 j from (eF q3 (by unfold yinM; rfl)).trans (f1 j), show (xof (xW (xW hp y.2) y2.2)).1 71 j = (xof hp).1 71 j from (eF q3 (by unfold yinM; rfl)).trans (f71 j)]
        exact hI.2.2.2 j (by omega)
  · rcases hQ with ⟨l1, v1, m1⟩ | ⟨l1, l1', v1, g1⟩
    · rcases hQ2 with ⟨l2, v2, m2⟩ | ⟨l2, l2', v2, g2⟩
      · rw [v1, v2]
      · omega
    · rcases hQ2 with ⟨l2, v2, m2⟩ | ⟨l2, l2', v2, g2⟩
      · omega
      · rw [v1, v2]
theorem eVill : lP rI 125 198 [] false := fun hp hI => by
  obtain ⟨x1, z1, p1, p2, p3, k1, hk1, r1, -, gk1⟩ := eSp (yt1537b yXx.1) (c := 0) (na := 0) (bl := []) (by decide +kernel) hI.1 (ys := []) rfl (fun s hs => by cases hs)
  obtain ⟨x2, z2, q1, q2, q3, k2, hk2, r2, -, gk2⟩ := eSp (yl243 yXx) (c := 70) (na := 0) (bl := []) (by decide +kernel) p2 (ys := []) rfl (fun s hs => by cases hs)
  have t1 : ys1537b.2.2.2.1.all (fun q => decide ((((yc ((0 : Nat) : Int)), (yc ((1 : Nat) : Int)), ((0, yc 0, yc 0) : yV)) : yK) ∈ q.2.2.2.1)) = true := by decide +kernel
  have t2 : ys243.2.2.2.1.all (fun q => decide ((((yc ((70 : Nat) : Int)), (yc ((1 : Nat) : Int)), ((0, yc 0, yc 0) : yV)) : yK) ∈ q.2.2.2.1)) = true := by decide +kernel
  have c01 : ((xof z1).1 0 1).toInt = 0 := eKq gk1 (of_decide_eq_true (List.all_eq_true.mp t1 k1 hk1))
  have d1 : ((xof z2).1 70 1).toInt = 0 := eKq gk2 (of_decide_eq_true (List.all_eq_true.mp t2 k2 hk2))
  have e01 : (xof z2).1 0 1 = (xof z1).1 0 1 := eF q3 rfl
  have e08 : (xof z2).1 0 8 = (xof hp).1 0 8 := (eF q3 rfl).trans (eF p3 rfl)
  have e2 : (xof z2).1 70 2 = (xof hp).1 70 2 := (eF q3 rfl).trans (eF p3 rfl)
  refine ⟨x1, x2, z1, z2, eK0 hI.1.1, eK70 p2.1, p1, p3.1, q1, q3.1, ⟨q2, ?_, ?_, fun j hj => ?_⟩, fun h => by cases h⟩
  · rw [d1, e01, c01]
  · rw [e2, e08]
    exact hI.2.2.1
  · rw [e01, c01] at hj
    omega
theorem eRule : lP rI 126 197 [] true := fun hp hI => by
  obtain ⟨x1, z1, p1, p2, p3, -⟩ := eSp (yl646 yXx) (c := 0) (na := 0) (bl := []) (by decide +kernel) hI.1 (ys := []) rfl (fun s hs => by cases hs)
  obtain ⟨x2, z2, q1, q2, q3, -⟩ := eSp (yl3 yXx) (c := 70) (na := 0) (bl := []) (by decide +kernel) p2 (ys := []) rfl (fun s hs => by cases hs)
  have hT := xT_of hI.1.1
  have b1 : (0 : Int) ≤ ((xof hp).1 0 1).toInt ∧ ((xof hp).1 0 1).toInt ≤ 400 := hT 0 1 (0, 400) rfl
  have b8 : (0 : Int) ≤ ((xof hp).1 0 8).toInt ∧ ((xof hp).1 0 8).toInt ≤ 6 := hT 0 8 (0, 6) rfl
  obtain ⟨n, hn⟩ : ∃ n : Nat, ((xof hp).1 0 1).toInt = (n : Int) := ⟨((xof hp).1 0 1).toInt.toNat, by omega⟩
  obtain ⟨r, hr⟩ : ∃ r : Nat, ((xof hp).1 0 8).toInt = (r : Int) := ⟨((xof hp).1 0 8).toInt.toNat, by omega⟩
  obtain ⟨v, x, k1, -, -, hQ⟩ := kRul (b := fun j => ((xof hp).1 1 j).toInt) (d := 20) hI.1.1 hI.1.2.2.2 (by decide) hn (fun _ _ => rfl)
  have u := zCan_u p1 k1
  cases u
  have f70 : ∀ j, (xof z1).1 70 j = (xof hp).1 70 j := fun j => eF p3 (by unfold yinM; rfl)
  have f71 : ∀ j, (xof z1).1 71 j = (xof hp).1 71 j := fun j => eF p3 (by unfold yinM; rfl)
  have f1 : ∀ j, (xof z1).1 1 j = (xof hp).1 1 j := fun j => eF p3 (by unfold yinM; rfl)
  have N : rN (xof z1) (fun j => ((xof hp).1 1 j).toInt) n := ⟨by rw [f70]; exact hI.2.1.trans hn, by omega, fun j hj => ⟨hT 1 j (0, 255) (eb1 (by omega)), by rw [f71]; exact hI.2.2.2 j (by omega)⟩⟩
  obtain ⟨y, hy, -, hQ2⟩ := R197 (F := 500) (r := r) (Nat.le_refl _) N (xT_of p2.1) (by rw [f70]; exact hI.2.2.1.trans hr) (by omega)
  have u2 := Z197 p2.1 hy (d := 20) (by decide)
  rw [xW_of] at u2
  have u2 := zCan_u q1 u2
  cases u2
  have e01 : (xof (xW z1 y.2)).1 0 1 = (xof z1).1 0 1 := eF q3 rfl
  have e08 : (xof (xW z1 y.2)).1 0 8 = (xof z1).1 0 8 := eF q3 rfl
  have d1 : (xof (xW z1 y.2)).1 70 1 = y.2.1 70 1 := exo q2.1 rfl
  have d2 : (xof (xW z1 y.2)).1 70 2 = y.2.1 70 2 := exo q2.1 rfl
  refine ⟨x1, y.1, _, _, eK0 hI.1.1, eK70 p2.1, p1, p3.1, q1, q3.1, ⟨q2, ?_⟩, fun _ => ?_⟩
  · rcases hQ with ⟨c6, -, c2⟩ | ⟨c6, c1, c2⟩
    · subst c2
      rcases hQ2 with ⟨-, -, m2⟩ | ⟨l2, -⟩
      · rw [m2, xW_of]
        exact hI.2
      · omega
    · rcases hQ2 with ⟨l2, -, -⟩ | ⟨l2, t0, t⟩
      · omega
      · refine ⟨?_, ?_, fun j hj => ?_⟩
        · rw [d1, t0, e01, c1]
          rfl
        · rw [d2, e08]
          rcases c2 with ⟨g, g1, g2, -, g4⟩ | ⟨s, s1, -, s3, -⟩
          · rcases t with ⟨J, g', j1, j2, j3, -, j5⟩ | ⟨J, s', j1, j2, j3, -, j5⟩
            · rw [j5, g4, hr]
            · rw [trun_r j3 J 401 j2 j1] at g1
              cases g1
          · rcases t with ⟨J, g', j1, j2, j3, -, j5⟩ | ⟨J, s', j1, j2, j3, -, j5⟩
            · rw [trun_l J 401 j3 j2 j1] at s1
              cases s1
            · rw [j5, s3, hr]
        · rw [e01, c1] at hj
          have hj : (j : Int) < 0 := hj
          omega
  · rcases hQ with ⟨c6, c1, c2⟩ | ⟨c6, c1, c2⟩
    · rcases hQ2 with ⟨-, m1, m2⟩ | ⟨l2, -⟩
      · rw [c1]
        exact Int32.toInt_inj.mp m1.symm
      · omega
    · rcases hQ2 with ⟨l2, -, -⟩ | ⟨l2, t0, t⟩
      · omega
      · apply Int32.toInt_inj.mp
        rcases c2 with ⟨g, g1, g2, g3, g4⟩ | ⟨s, s1, s2, s3⟩
        · rcases t with ⟨J, g', j1, j2, j3, j4, j5⟩ | ⟨J, s', j1, j2, j3, -, j5⟩
          · rw [trun_l J 401 j3 j2 j1] at g1
            have g1 : g' = g := Sum.inl.inj g1
            rw [g3, j4, g1]
          · rw [trun_r j3 J 401 j2 j1] at g1
            cases g1
        · rcases t with ⟨J, g', j1, j2, j3, -, j5⟩ | ⟨J, s', j1, j2, j3, j4, j5⟩
          · rw [trun_l J 401 j3 j2 j1] at s1
            cases s1
          · rw [s2, j4, hr]
end ETAPE
section EPAIRS
theorem e0_4 {y1 y2 : Int32} : lP rI ys1339.1 ys1342.1 [.int y1, .int y2] false := eP (yt1339 yXx.1) (yt1342 yXx.1) (na := 2) (bl := []) (by decide +kernel) (by decide +kernel) (by decide +kernel) [y1, y2] rfl (fun s hs => by cases hs)
theorem e0_5 {y1 y2 : Int32} : lP rI ys1334.1 ys1337.1 [.int y1, .int y2] false := eP (yt1334 yXx.1) (yt1337 yXx.1) (na := 2) (bl := []) (by decide +kernel) (by decide +kernel) (by decide +kernel) [y1, y2] rfl (fun s hs => by cases hs)
theorem e0_6 {y1 y2 y3 : Int32} : lP rI ys1330.1 ys1332.1 [.int y1, .int y2, .int y3] false := eP (yt1330 yXx.1) (yt1332 yXx.1) (na := 3) (bl := []) (by decide +kernel) (by decide +kernel) (by decide +kernel) [y1, y2, y3] rfl (fun s hs => by cases hs)
theorem e0_7 {y1 y2 : Int32} : lP rI ys1327.1 ys1329.1 [.int y1, .int y2] false := eP (yt1327 yXx.1) (yt1329 yXx) (na := 2) (bl := []) (by decide +kernel) (by decide +kernel) (by decide +kernel) [y1, y2] rfl (fun s hs => by cases hs)
theorem e0_8 {y1 : Int32} : lP rI ys1324.1 ys1326.1 [.int y1] false := eP (yt1324 yXx.1) (yt1326 yXx) (na := 1) (bl := []) (by decide +kernel) (by decide +kernel) (by decide +kernel) [y1] rfl (fun s hs => by cases hs)
theorem e0_9 {y1 : Int32} : lP rI ys1318.1 ys1322.1 [.int y1] false := eP (yt1318 yXx.1) (yt1322 yXx) (na := 1) (bl := []) (by decide +kernel) (by decide +kernel) (by decide +kernel) [y1] rfl (fun s hs => by cases hs)
theorem e0_10 {y1 y2 : Int32} : lP rI ys1314.1 ys1316.1 [.int y1, .int y2] false := eP (yt1314 yXx.1) (yt1316 yXx) (na := 2) (bl := []) (by decide +kernel) (by decide +kernel) (by decide +kernel) [y1, y2] rfl (fun s hs => by cases hs)
theorem e0_11 : lP rI ys1310.1 ys1311.1 [] false := eP (yt1310 yXx.1) (yt1311 yXx) (na := 0) (bl := []) (by decide +kernel) (by decide +kernel) (by decide +kernel) [] rfl (fun s hs => by cases hs)
theorem e0_12 {y1 y2 : Int32} : lP rI ys1306.1 ys1308.1 [.int y1, .int y2] false := eP (yt1306 yXx.1) (yt1308 yXx) (na := 2) (bl := []) (by decide +kernel) (by decide +kernel) (by decide +kernel) [y1, y2] rfl (fun s hs => by cases hs)
theorem e0_13 : lP rI ys1302.1 ys1303.1 [] false := eP (yt1302 yXx.1) (yt1303 yXx) (na := 0) (bl := []) (by decide +kernel) (by decide +kernel) (by decide +kernel) [] rfl (fun s hs => by cases hs)
theorem e0_14 : lP rI ys1298.1 ys246.1 [] false := eP (yt1298 yXx.1) (yl246 yXx) (na := 0) (bl := []) (by decide +kernel) (by decide +kernel) (by decide +kernel) [] rfl (fun s hs => by cases hs)
theorem e0_15 {y1 y2 : Int32} : lP rI ys1293.1 ys1295.1 [.int y1, .int y2] false := eP (yt1293 yXx.1) (yt1295 yXx) (na := 2) (bl := []) (by decide +kernel) (by decide +kernel) (by decide +kernel) [y1, y2] rfl (fun s hs => by cases hs)
theorem e0_16 {y1 y2 y3 y4 : Int32} : lP rI ys1247.1 ys1248.1 [.int y1, .int y2, .int (if y3 = 0 then 0 else 1), .int y4] false := eP (yt1247 yXx.1) (yt1248 yXx.1) (na := 4) (bl := [2]) (by decide +kernel) (by decide +kernel) (by decide +kernel) [y1, y2, (if y3 = 0 then 0 else 1), y4] rfl (fun s hs z hz => by
    have hs : s = 2 := by simpa using hs
    subst hs
    cases hz
    split <;> decide)
theorem e0_17 {y1 : Int32} : lP rI ys1241.1 ys1243.1 [.int y1] false := eP (yt1241 yXx.1) (yt1243 yXx.1) (na := 1) (bl := []) (by decide +kernel) (by decide +kernel) (by decide +kernel) [y1] rfl (fun s hs => by cases hs)
theorem e0_18 {y1 : Int32} : lP rI ys1233.1 ys1235.1 [.int y1] false := eP (yt1233 yXx.1) (yt1235 yXx.1) (na := 1) (bl := []) (by decide +kernel) (by decide +kernel) (by decide +kernel) [y1] rfl (fun s hs => by cases hs)
theorem e0_19 {y1 y2 : Int32} : lP rI ys1225.1 ys1232.1 [.int y1, .int y2] false := eP (yt1225 yXx.1) (yt1232 yXx) (na := 2) (bl := []) (by decide +kernel) (by decide +kernel) (by decide +kernel) [y1, y2] rfl (fun s hs => by cases hs)
theorem e0_20 {y1 : Int32} : lP rI ys1193.1 ys1224.1 [.int y1] false := eP (yt1193 yXx.1) (yt1224 yXx) (na := 1) (bl := []) (by decide +kernel) (by decide +kernel) (by decide +kernel) [y1] rfl (fun s hs => by cases hs)
theorem e0_21 {y1 : Int32} : lP rI ys1089.1 ys1140.1 [.int y1] false := eP (yt1089 yXx.1) (yt1140 yXx.1) (na := 1) (bl := []) (by decide +kernel) (by decide +kernel) (by decide +kernel) [y1] rfl (fun s hs => by cases hs)
theorem e0_22 {y1 : Int32} : lP rI ys1075.1 ys1077.1 [.int y1] false := eP (yt1075 yXx.1) (yt1077 yXx.1) (na := 1) (bl := []) (by decide +kernel) (by decide +kernel) (by decide +kernel) [y1] rfl (fun s hs => by cases hs)
theorem e0_23 {y1 y2 : Int32} : lP rI ys1067.1 ys1.1 [.int y1, .int y2] false := eP (yt1067 yXx.1) (yl1 yXx) (na := 2) (bl := []) (by decide +kernel) (by decide +kernel) (by decide +kernel) [y1, y2] rfl (fun s hs => by cases hs)
theorem e0_24 {y1 : Int32} : lP rI ys1013.1 ys1033.1 [.int y1] false := eP (yt1013 yXx.1) (yt1033 yXx) (na := 1) (bl := []) (by decide +kernel) (by decide +kernel) (by decide +kernel) [y1] rfl (fun s hs => by cases hs)
theorem e0_25 {y1 : Int32} : lP rI ys861.1 ys994.1 [.int y1] false := eP (yt861 yXx.1) (yt994 yXx) (na := 1) (bl := []) (by decide +kernel) (by decide +kernel) (by decide +kernel) [y1] rfl (fun s hs => by cases hs)
theorem e0_26 {y1 : Int32} : lP rI ys1556.1 ys1558.1 [.int y1] false := eP (yt1556 yXx.1) (yt1558 yXx.1) (na := 1) (bl := []) (by decide +kernel) (by decide +kernel) (by decide +kernel) [y1] rfl (fun s hs => by cases hs)
theorem e0_27 {y1 y2 y3 : Int32} : lP rI ys1555.1 ys837.1 [.int y1, .int y2, .int y3] false := eP (yt1555 yXx.1) (yt837 yXx) (na := 3) (bl := []) (by decide +kernel) (by decide +kernel) (by decide +kernel) [y1, y2, y3] rfl (fun s hs => by cases hs)
theorem e0_28 {y1 : Int32} : lP rI ys666.1 ys670.1 [.int y1] false := eP (yt666 yXx.1) (yt670 yXx.1) (na := 1) (bl := []) (by decide +kernel) (by decide +kernel) (by decide +kernel) [y1] rfl (fun s hs => by cases hs)
theorem e0_29 {y1 : Int32} : lP rI ys1560.1 ys7.1 [.int y1] false := eP (yt1560 yXx.1) (yl7 yXx) (na := 1) (bl := []) (by decide +kernel) (by decide +kernel) (by decide +kernel) [y1] rfl (fun s hs => by cases hs)
theorem e0_30 {y1 : Int32} : lP rI ys1559.1 ys8.1 [.int y1] false := eP (yt1559 yXx.1) (yl8 yXx) (na := 1) (bl := []) (by decide +kernel) (by decide +kernel) (by decide +kernel) [y1] rfl (fun s hs => by cases hs)
end EPAIRS
end
