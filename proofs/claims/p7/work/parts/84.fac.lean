/-! The reference's stack of a test, its facts. -/
def teo (v : Int) : Int := if v = 91 then 0 else tenc v
abbrev okop (op : List Int) : Prop := ∀ x ∈ op, x = 91 ∨ x = 11 ∨ x = 12 ∨ x = 13
theorem teo_le {x : Int} (h : x = 91 ∨ x = 11 ∨ x = 12 ∨ x = 13) : tcl (teo x) = teo x ∧ 0 ≤ teo x ∧ teo x ≤ 3 ∧ (teo x = 0 ↔ x = 91) ∧ (teo x = 3 ↔ x = 11) ∧ (if x = 13 then 1 else if x = 12 then 2 else if x = 11 then 3 else 0) = teo x := by
  rcases h with rfl | rfl | rfl | rfl <;> decide
theorem tk_mem {f : Nat → Int32} {x : Int} : ∀ n, x ∈ tk f n ↔ ∃ j, j < n ∧ (f j).toInt = x := by
  intro n
  induction n with
  | zero => exact ⟨fun h => (by cases h), fun h => (by obtain ⟨j, hj, -⟩ := h; omega)⟩
  | succ n ih =>
    constructor
    · intro h
      rcases List.mem_cons.mp h with h | h
      · exact ⟨n, by omega, h.symm⟩
      · obtain ⟨j, hj, e⟩ := ih.mp h
        exact ⟨j, by omega, e⟩
    · intro h
      obtain ⟨j, hj, e⟩ := h
      by_cases z : j = n
      · subst z
        exact List.mem_cons.mpr (Or.inl e.symm)
      · exact List.mem_cons.mpr (Or.inr (ih.mpr ⟨j, by omega, e⟩))
theorem tbr_0 : ∀ ws : List Int, tbr ws = 0 ↔ ∀ w ∈ ws, w ≠ 0 := by
  intro ws
  induction ws with
  | nil => exact ⟨fun _ w h => (by cases h), fun _ => rfl⟩
  | cons w ws ih =>
    show (if w = 0 then 1 else 0) + tbr ws = 0 ↔ _
    constructor
    · intro h v hv
      rcases List.mem_cons.mp hv with rfl | hv
      · intro z
        rw [if_pos z] at h
        omega
      · exact ih.mp (by omega) v hv
    · intro h
      rw [if_neg (h w List.mem_cons_self), ih.mpr (fun v hv => h v (List.mem_cons_of_mem _ hv))]
theorem x160 (v : Int32) : (v + 16 * 0 : Int32).toInt = v.toInt := by
  have e : (16 * 0 : Int32) = 0 := by decide
  rw [e]
  have h := y32 v
  exact (xa1 (by show _ ≤ _ + (0 : Int); omega) (by show _ + (0 : Int) ≤ _; omega)).trans (Int.add_zero _)
section RFA
variable {m0 m : xS} {b : Nat → Int} {n t p : Nat} {nu k : Int} {rc : List Int} {cs : List (Int × Int × Int × Int)} {op : List Int} {dp ln : Int} {F : Nat} {s0 : tSt} {pm0 : Nat} {cl : Nat} {rp ou : List Int}
/-- settles -/
theorem R176_0 {o : Int} {v1 : Int32} (ht : t < 6) (hT : (m0.1 70 11).toInt = (t : Int)) (hv : v1.toInt = tcl o) (h1 : 1 ≤ tcl o) : ∀ (f : Nat) {rc op : List Int} {dp : Int} {m : xS}, rC m0 n t p 0 nu k (rc ++ rp) cs op dp ln m → okop op → op.length < f → rc.length + rp.length + op.length ≤ 400 → (op.length : Int) ≤ dp + 1000 → dp ≤ 1000 → xP (D176_0 F f v1 m) (fun _ m' => ∃ rc' op', rC m0 n t p 0 nu k (rc' ++ rp) cs op' (dp - ((tSe o (op.map teo) (rc.map tenc)).2.2 : Nat)) ln m' ∧ rc'.map tenc = (tSe o (op.map teo) (rc.map tenc)).1 ∧ op'.map teo = (tSe o (op.map teo) (rc.map tenc)).2.1 ∧ (∀ x ∈ op', x ∈ op)) := by
  intro f
  induction f with
  | zero => intro rc op dp m _ _ l; omega
  | succ f ih =>
    intro rc op dp m h ok l1 l2 l3 l4
    have h9 := h.2.2.2.2.2.2.2.2.1.1
    unfold D176_0
    cases op with
    | nil =>
      refine xP_i (fun c => xP_r ⟨rc, [], ?_, rfl, rfl, fun x hx => hx⟩) (fun c => ?_)
      · show rC m0 n t p 0 nu k (rc ++ rp) cs [] (dp - ((0 : Nat) : Int)) ln m
        rw [show dp - ((0 : Nat) : Int) = dp from Int.sub_zero dp]
        exact h
      · have c : ¬ (m.1 70 16).toInt ≤ 0 := zf c
        have : (m.1 70 16).toInt = 0 := h9
        omega
    | cons o0 os =>
      rw [List.length_cons] at l1 l2 l3 h9
      have ok0 := ok o0 List.mem_cons_self
      obtain ⟨t1, t2, t3, t4, t5, t6⟩ := teo_le ok0
      have s1 : ((m.1 70 16) - 1).toInt = (os.length : Int) := (xs1 (by show _ ≤ _ - (1 : Int); omega) (by show _ - (1 : Int) ≤ _; omega)).trans (by show _ - (1 : Int) = _; omega)
      have ei : ((m.1 70 16) - 1).toNatClampNeg = os.length := by show ((m.1 70 16) - 1).toInt.toNat = _; omega
      obtain ⟨hp, hw⟩ := rC_pop (v := (m.1 70 16) - 1) h s1
      refine xP_i (fun c => ?_) (fun c => ?_)
      · have c : (m.1 70 16).toInt ≤ 0 := zt c
        omega
      · refine xP_g (xib_t (by omega) (by omega)) ?_
        refine xP_b R175 (fun r1 m1 q1 => ?_)
        obtain ⟨rfl, q1⟩ := q1
        dsimp only at q1 ⊢
        rw [ei] at q1 ⊢
        rw [hw, t6] at q1
        refine xP_i (fun d => xP_r ⟨rc, o0 :: os, ?_, ?_, ?_, fun x hx => hx⟩) (fun d => ?_)
        · have d : r1.toInt < v1.toInt := zt d
          have un : tSe o (teo o0 :: os.map teo) (rc.map tenc) = (rc.map tenc, teo o0 :: os.map teo, 0) := if_neg (by omega)
          rw [List.map_cons, un]
          show rC m0 n t p 0 nu k (rc ++ rp) cs (o0 :: os) (dp - ((0 : Nat) : Int)) ln m1
          rw [show dp - ((0 : Nat) : Int) = dp from Int.sub_zero dp]
          exact h
        · have d : r1.toInt < v1.toInt := zt d
          have un : tSe o (teo o0 :: os.map teo) (rc.map tenc) = (rc.map tenc, teo o0 :: os.map teo, 0) := if_neg (by omega)
          rw [List.map_cons, un]
        · have d : r1.toInt < v1.toInt := zt d
          have un : tSe o (teo o0 :: os.map teo) (rc.map tenc) = (rc.map tenc, teo o0 :: os.map teo, 0) := if_neg (by omega)
          rw [List.map_cons, un]
        · have d : ¬ r1.toInt < v1.toInt := zf d
          have n91 : o0 ≠ 91 := fun z => by have := t4.mpr z; omega
          have te : tenc o0 = teo o0 := (if_neg n91).symm
          refine xP_g (xib_t (by omega) (by omega)) ?_
          refine xP_b (R172 (s := m1.1 77 os.length) (v := 0) (c := o0) ht hT hp (by rw [List.length_append]; omega) ((x160 _).trans hw)) (fun _ m3 q3 => ?_)
          obtain ⟨q3, q4⟩ := q3
          have h9b := q3.2.2.2.2.2.2.2.2.1.1
          have e3 : (m3.1 70 16).toNatClampNeg = os.length := by show (m3.1 70 16).toInt.toNat = _; omega
          have e4 : m3.1 77 os.length = m1.1 77 os.length := by rw [q4, xu_row (by decide)]
          dsimp only
          refine xP_g (xib_t (by omega) (by omega)) ?_
          rw [e3, e4]
          have un : tSe o (teo o0 :: os.map teo) (rc.map tenc) = ((tSe o (os.map teo) (teo o0 :: rc.map tenc)).1, (tSe o (os.map teo) (teo o0 :: rc.map tenc)).2.1, (tSe o (os.map teo) (teo o0 :: rc.map tenc)).2.2 + (if teo o0 = 3 then 1 else 0)) := if_pos (by omega)
          have mc : (o0 :: rc).map tenc = teo o0 :: rc.map tenc := by rw [List.map_cons, te]
          have okt : okop os := fun x hx => ok x (List.mem_cons_of_mem _ hx)
          rw [List.map_cons, un]
          refine xP_i (fun g => ?_) (fun g => ?_)
          · have g : (m1.1 77 os.length).toInt ≠ 11 := zt g
            rw [if_neg (fun z => by have := t5.mp z; omega)]
            have z := ih (rc := o0 :: rc) q3 okt (by omega) (by rw [List.length_cons]; omega) (by omega) l4
            rw [mc] at z
            refine xP_m z (fun _ m4 q => ?_)
            obtain ⟨rc', op', b1, b2, b3, b4⟩ := q
            exact ⟨rc', op', b1, b2, b3, fun x hx => List.mem_cons_of_mem _ (b4 x hx)⟩
          · have g : (m1.1 77 os.length).toInt = 11 := Decidable.not_not.mp (zf g)
            rw [if_pos (t5.mpr (by omega))]
            have h10b := q3.2.2.2.2.2.2.2.2.2.1
            have z := ih (rc := o0 :: rc) (rC_dp (v := m3.1 70 13 - 1) (x := dp - 1) q3 ((xs1 (by show _ ≤ _ - (1 : Int); omega) (by show _ - (1 : Int) ≤ _; omega)).trans (by rw [h10b]; rfl))) okt (by omega) (by rw [List.length_cons]; omega) (by omega) (by omega)
            rw [mc] at z
            refine xP_m z (fun _ m4 q => ?_)
            obtain ⟨rc', op', b1, b2, b3, b4⟩ := q
            rw [show dp - 1 - (((tSe o (os.map teo) (teo o0 :: rc.map tenc)).2.2 : Nat) : Int) = dp - (((tSe o (os.map teo) (teo o0 :: rc.map tenc)).2.2 + 1 : Nat) : Int) by omega] at b1
            exact ⟨rc', op', b1, b2, b3, fun x hx => List.mem_cons_of_mem _ (b4 x hx)⟩
theorem R176 {o : Int} {v1 : Int32} (hF : 500 ≤ F) (ht : t < 6) (hT : (m0.1 70 11).toInt = (t : Int)) (hv : v1.toInt = tcl o) (h1 : 1 ≤ tcl o) (h : rC m0 n t p 0 nu k (rc ++ rp) cs op (tdp (op.map teo) : Int) ln m) (ok : okop op) (l2 : rc.length + rp.length + op.length ≤ 400) : xP (D176 F v1 m) (fun _ m' => ∃ rc' op', rC m0 n t p 0 nu k (rc' ++ rp) cs op' (tdp (op'.map teo) : Int) ln m' ∧ rc'.map tenc = (tSe o (op.map teo) (rc.map tenc)).1 ∧ op'.map teo = (tSe o (op.map teo) (rc.map tenc)).2.1 ∧ okop op') := by
  have d1 := tdp_len (op.map teo)
  rw [List.length_map] at d1
  refine xP_m (R176_0 ht hT hv h1 F h ok (by omega) l2 (by omega) (by omega)) (fun _ m' q => ?_)
  obtain ⟨rc', op', b1, b2, b3, b4⟩ := q
  refine ⟨rc', op', ?_, b2, b3, fun x hx => ok x (b4 x hx)⟩
  have sd := (tSe_dp h1 (op.map teo) (rc.map tenc)).1
  rw [b3]
  rw [show ((tdp (op.map teo) : Nat) : Int) - (((tSe o (op.map teo) (rc.map tenc)).2.2 : Nat) : Int) = ((tdp (tSe o (op.map teo) (rc.map tenc)).2.1 : Nat) : Int) by omega] at b1
  exact b1
/-- isInside -/
theorem R182_2 (h : rC m0 n t p 0 nu k rc cs op dp ln m) (ok : okop op) : ∀ (f : Nat) {i : Nat} {v : Int32}, v.toInt = (i : Int) → i ≤ op.length → (∀ j, j < i → (m.1 77 j).toInt ≠ 91) → op.length - i < f → xP (D182_2 F f v m) (fun r m' => m' = m ∧ ((r = 1 ∧ tbr (op.map teo) ≠ 0) ∨ (r = 0 ∧ tbr (op.map teo) = 0))) := by
  have h9 := h.2.2.2.2.2.2.2.2.1
  have b2 : (m.1 70 16).toInt ≤ 400 := (h.1 70 16 (0, 400) rfl).2
  have no : (∀ j, j < op.length → (m.1 77 j).toInt ≠ 91) → tbr (op.map teo) = 0 := fun z => (tbr_0 _).mpr (fun w hw => by
    obtain ⟨x, hx, rfl⟩ := List.mem_map.mp hw
    intro y
    have e := (teo_le (ok x hx)).2.2.2.1.mp y
    rw [← h9.2] at hx
    obtain ⟨j, hj, ej⟩ := (tk_mem _).mp hx
    exact z j hj (ej.trans e))
  intro f
  induction f with
  | zero => intro i v _ _ _ l; omega
  | succ f ih =>
    intro i v hv l1 hz l
    have ei : v.toNatClampNeg = i := by show v.toInt.toNat = i; omega
    unfold D182_2
    refine xP_i (fun c => xP_r ⟨rfl, Or.inr ⟨rfl, no (fun j hj => hz j ?_)⟩⟩) (fun c => ?_)
    · have c : (m.1 70 16).toInt ≤ v.toInt := zt c
      omega
    · have c : ¬ (m.1 70 16).toInt ≤ v.toInt := zf c
      refine xP_g (xib_t (by omega) (by omega)) ?_
      rw [ei]
      refine xP_i (fun d => ?_) (fun d => xP_r ⟨rfl, Or.inl ⟨rfl, fun z => ?_⟩⟩)
      · have d : (m.1 77 i).toInt ≠ 91 := zt d
        refine ih (xinc hv (by omega)) (by omega) (fun j hj => ?_) (by omega)
        by_cases e : j = i
        · rw [e]
          exact d
        · exact hz j (by omega)
      · have d : (m.1 77 i).toInt = 91 := Decidable.not_not.mp (zf d)
        have hx : (91 : Int) ∈ op := by
          rw [← h9.2]
          exact (tk_mem _).mpr ⟨i, by omega, d⟩
        exact (tbr_0 _).mp z (teo 91) (List.mem_map.mpr ⟨91, hx, rfl⟩) (by decide)
theorem R182 (hF : 500 ≤ F) (h : rC m0 n t p 0 nu k rc cs op dp ln m) (ok : okop op) : xP (D182 F m) (fun r m' => m' = m ∧ ((r = 1 ∧ tbr (op.map teo) ≠ 0) ∨ (r = 0 ∧ tbr (op.map teo) = 0))) := by
  have h9 := h.2.2.2.2.2.2.2.2.1.1
  have b2 : (m.1 70 16).toInt ≤ 400 := (h.1 70 16 (0, 400) rfl).2
  exact R182_2 h ok F (i := 0) rfl (Nat.zero_le _) (fun j hj => by omega) (by omega)
end RFA
