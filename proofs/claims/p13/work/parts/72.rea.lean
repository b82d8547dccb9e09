section
/-! The class's reader of rules: each method does a step of the machine. -/
def kF (m0 : xS) (n : Nat) (f : Int) (m : xS) : Prop := ∃ (p bg : Nat) (out wait : List Int) (cl k dp br ex wh : Int), kC m0 n p bg f out wait cl k dp br ex wh m
def kI (s : tSt) : Prop := s.2.2.1.length + s.2.2.2.1.length + (if s.2.2.2.2.2.1 = 0 ∨ s.2.2.2.2.2.1 = 4 then 0 else 1) ≤ s.1 ∧ s.2.1 ≤ 60 ∧ s.2.2.2.2.1 ≤ 12 ∧ ∀ w ∈ s.2.2.2.1, 0 ≤ w ∧ w ≤ (13 : Int)
def kS (m0 : xS) (n : Nat) (s : tSt) (m : xS) : Prop := (∃ bg : Nat, kC m0 n s.1 bg 0 s.2.2.1 s.2.2.2.1 (s.2.2.2.2.1 : Int) (s.2.1 : Int) (tdp s.2.2.2.1 : Int) (tbr s.2.2.2.1 : Int) (s.2.2.2.2.2.1 : Int) (s.2.2.2.2.2.2 : Int) m) ∧ kI s
def kR (m0 : xS) (n : Nat) (r : Int ⊕ tSt) (m : xS) : Prop := match r with
  | .inl f => f ≠ 0 ∧ kF m0 n f m
  | .inr s => kS m0 n s m
section KRD
variable {m0 m : xS} {b : Nat → Int} {n p bg : Nat} {ft : Int} {out wait : List Int} {cl k dp br ex wh : Int} {F : Nat}
theorem P48 {v : Int32} (h : kC m0 n p bg ft out wait cl k dp br ex wh m) (l : out.length < 400) : xP (D48_6 F v m) (fun _ m' => kC m0 n p bg ft (v.toInt :: out) wait cl k dp br ex wh m' ∧ m'.1 8 = m.1 8) := by
  have h6 := h.2.2.2.2.2.1.1
  have ei : (m.1 6 1).toNatClampNeg = out.length := by show (m.1 6 1).toInt.toNat = _; omega
  unfold D48_6
  refine xP_i (fun c => ?_) (fun c => xP_g (xib_t (by omega) (by omega)) (xP_r ?_))
  · have c : (400 : Int) ≤ (m.1 6 1).toInt := zt c
    omega
  · rw [ei]
    exact ⟨kC_out h l ((xa1 (by show _ ≤ _ + (1 : Int); omega) (by show _ + (1 : Int) ≤ _; omega)).trans (by rw [h6]; rfl)), (xu_row (by decide)).trans (xu_row (by decide))⟩
theorem P47 {v : Int32} (h : kC m0 n p bg ft out wait cl k dp br ex wh m) (l : wait.length < 400) : xP (D47_6 F v m) (fun _ m' => kC m0 n p bg ft out (v.toInt :: wait) cl k dp br ex wh m') := by
  have h7 := h.2.2.2.2.2.2.1.1
  have ei : (m.1 6 3).toNatClampNeg = wait.length := by show (m.1 6 3).toInt.toNat = _; omega
  unfold D47_6
  refine xP_i (fun c => ?_) (fun c => xP_g (xib_t (by omega) (by omega)) (xP_r ?_))
  · have c : (400 : Int) ≤ (m.1 6 3).toInt := zt c
    omega
  · rw [ei]
    exact kC_wait h l ((xa1 (by show _ ≤ _ + (1 : Int); omega) (by show _ + (1 : Int) ≤ _; omega)).trans (by rw [h7]; rfl))
theorem P26 {v : Int32} : xP (D26 F v m) (fun r m' => m' = m ∧ r.toInt = tcl v.toInt) := by
  unfold D26 tcl
  refine xP_i (fun c => xP_i (fun d => xP_i (fun e => xP_r ⟨rfl, ?_⟩) (fun e => xP_r ⟨rfl, ?_⟩)) (fun d => xP_r ⟨rfl, ?_⟩)) (fun c => xP_r ⟨rfl, ?_⟩)
  · have c : (3 : Int) < v.toInt := zt c
    have d : (8 : Int) < v.toInt := zt d
    have e : (10 : Int) < v.toInt := zt e
    rw [if_neg (by omega), if_neg (by omega), if_neg (by omega)]
    rfl
  · have c : (3 : Int) < v.toInt := zt c
    have d : (8 : Int) < v.toInt := zt d
    have e : ¬ (10 : Int) < v.toInt := zf e
    rw [if_neg (by omega), if_neg (by omega), if_pos (by omega)]
    rfl
  · have c : (3 : Int) < v.toInt := zt c
    have d : ¬ (8 : Int) < v.toInt := zf d
    rw [if_neg (by omega), if_pos (by omega)]
    rfl
  · have c : ¬ (3 : Int) < v.toInt := zf c
    rw [if_pos (by omega)]
theorem P46_0 {o : Int32} : ∀ (f : Nat) {out wait : List Int} {dp : Int} {m : xS}, kC m0 n p bg ft out wait cl k dp br ex wh m → out.length + wait.length ≤ 400 → wait.length < f → (wait.length : Int) ≤ dp + 1000 → dp ≤ 1000 → xP (D46_6_0 F f o m) (fun _ m' => kC m0 n p bg ft (tSe o.toInt wait out).1 (tSe o.toInt wait out).2.1 cl k (dp - ((tSe o.toInt wait out).2.2 : Nat)) br ex wh m') := by
  intro f
  induction f with
  | zero => intro out wait dp m _ _ l; omega
  | succ f ih =>
    intro out wait dp m h l1 l2 l3 l4
    have h7 := h.2.2.2.2.2.2.1.1
    have h10 := h.2.2.2.2.2.2.2.2.2.1
    unfold D46_6_0
    cases wait with
    | nil =>
      refine xP_i (fun c => xP_r ?_) (fun c => ?_)
      · show kC m0 n p bg ft out [] cl k (dp - ((0 : Nat) : Int)) br ex wh m
        rw [show dp - ((0 : Nat) : Int) = dp from Int.sub_zero dp]
        exact h
      · have c : ¬ (m.1 6 3).toInt ≤ 0 := zf c
        have : (m.1 6 3).toInt = 0 := h7
        omega
    | cons w ws =>
      rw [List.length_cons] at l1 l2 l3 h7
      have s1 : ((m.1 6 3) - 1).toInt = (ws.length : Int) := (xs1 (by show _ ≤ _ - (1 : Int); omega) (by show _ - (1 : Int) ≤ _; omega)).trans (by show _ - (1 : Int) = _; omega)
      have ei : ((m.1 6 3) - 1).toNatClampNeg = ws.length := by show ((m.1 6 3) - 1).toInt.toNat = _; omega
      obtain ⟨hp, hw⟩ := kC_pop (v := (m.1 6 3) - 1) h s1
      refine xP_i (fun c => ?_) (fun c => ?_)
      · have c : (m.1 6 3).toInt ≤ 0 := zt c
        omega
      · refine xP_g (xib_t (by omega) (by omega)) ?_
        refine xP_b P26 (fun r1 m1 q1 => ?_)
        obtain ⟨rfl, q1⟩ := q1
        refine xP_b P26 (fun r2 m2 q2 => ?_)
        obtain ⟨rfl, q2⟩ := q2
        dsimp only at q1 q2 ⊢
        rw [ei] at q1 ⊢
        rw [hw] at q1
        refine xP_i (fun d => xP_r ?_) (fun d => ?_)
        · have d : r1.toInt < r2.toInt := zt d
          unfold tSe
          rw [if_neg (by omega)]
          show kC m0 n p bg ft out (w :: ws) cl k (dp - ((0 : Nat) : Int)) br ex wh m2
          rw [show dp - ((0 : Nat) : Int) = dp from Int.sub_zero dp]
          exact h
        · have d : ¬ r1.toInt < r2.toInt := zf d
          refine xP_g (xib_t (by omega) (by omega)) ?_
          refine xP_b (P48 (v := m2.1 8 ws.length) hp (by omega)) (fun _ m3 q3 => ?_)
          obtain ⟨q3, q4⟩ := q3
          rw [hw] at q3
          have h7b := q3.2.2.2.2.2.2.1.1
          have e3 : (m3.1 6 3).toNatClampNeg = ws.length := by show (m3.1 6 3).toInt.toNat = _; omega
          have e4 : m3.1 8 ws.length = m2.1 8 ws.length := by rw [q4, xu_row (by decide)]
          dsimp only
          refine xP_g (xib_t (by omega) (by omega)) ?_
          rw [e3, e4]
          have un : tSe o.toInt (w :: ws) out = ((tSe o.toInt ws (w :: out)).1, (tSe o.toInt ws (w :: out)).2.1, (tSe o.toInt ws (w :: out)).2.2 + (if w = 3 then 1 else 0)) := if_pos (by omega)
          rw [un]
          refine xP_i (fun g => ?_) (fun g => ?_)
          · have g : (m2.1 8 ws.length).toInt ≠ 3 := zt g
            rw [if_neg (by omega)]
            exact ih q3 (by rw [List.length_cons]; omega) (by omega) (by omega) l4
          · have g : (m2.1 8 ws.length).toInt = 3 := Decidable.not_not.mp (zf g)
            rw [if_pos (by omega)]
            have h10b := q3.2.2.2.2.2.2.2.2.2.1
            have z := ih (kC_dp (v := m3.1 6 6 - 1) (x := dp - 1) q3 ((xs1 (by show _ ≤ _ - (1 : Int); omega) (by show _ - (1 : Int) ≤ _; omega)).trans (by rw [h10b]; rfl))) (by rw [List.length_cons]; omega) (by omega) (by omega) (by omega)
            rw [show dp - 1 - (((tSe o.toInt ws (w :: out)).2.2 : Nat) : Int) = dp - (((tSe o.toInt ws (w :: out)).2.2 + 1 : Nat) : Int) by omega] at z
            exact z
theorem P46 {o : Int32} (hF : 500 ≤ F) (h : kC m0 n p bg ft out wait cl k dp br ex wh m) (l : out.length + wait.length ≤ 400) (l3 : (wait.length : Int) ≤ dp + 1000) (l4 : dp ≤ 1000) : xP (D46_6 F o m) (fun _ m' => kC m0 n p bg ft (tSe o.toInt wait out).1 (tSe o.toInt wait out).2.1 cl k (dp - ((tSe o.toInt wait out).2.2 : Nat)) br ex wh m') := P46_0 F h l (by omega) l3 l4
theorem P45 {o : Int32} (hF : 500 ≤ F) (h : kC m0 n p bg ft out wait cl k dp br ex wh m) (l : out.length + wait.length < 400) (l3 : (wait.length : Int) ≤ dp + 1000) (l4 : dp ≤ 1000) : xP (D45_6 F o m) (fun _ m' => kC m0 n p bg ft (tSe o.toInt wait out).1 (o.toInt :: (tSe o.toInt wait out).2.1) cl k (dp - ((tSe o.toInt wait out).2.2 : Nat)) br ex wh m') := by
  unfold D45_6
  refine xP_b (P46 hF h (by omega) l3 l4) (fun _ m1 q => ?_)
  have := tSe_len o.toInt wait out
  refine xP_b (P47 q (by omega)) (fun _ m2 q2 => xP_r q2)
/-- countOne -/
theorem P37 {a : Int32} (h : kC m0 n p bg ft out wait cl k dp br ex wh m) (a1 : 0 ≤ a.toInt) (a2 : a.toInt ≤ 400) (k1 : 0 ≤ k) (k2 : k ≤ 1000) : xP (D37_6_2 F a m) (fun _ m' => kC m0 n p bg (if 60 ≤ k then trf ft (1 + 8 * a.toInt + 3) else ft) out wait cl (k + 1) dp br ex wh m') := by
  have h9 := h.2.2.2.2.2.2.2.2.1
  have inc : ∀ {ft : Int} {m : xS}, kC m0 n p bg ft out wait cl k dp br ex wh m → kC m0 n p bg ft out wait cl (k + 1) dp br ex wh (xu m 6 5 ((m.1 6 5) + 1)) := fun {ft m} h => kC_k h (by
    have h9 := h.2.2.2.2.2.2.2.2.1
    exact (xa1 (by show _ ≤ _ + (1 : Int); omega) (by show _ + (1 : Int) ≤ _; omega)).trans (by rw [h9]; rfl))
  unfold D37_6_2 D37_6_2_15
  refine xP_i (fun c => xP_r ?_) (fun c => ?_)
  · have c : (m.1 6 5).toInt < 60 := zt c
    rw [if_neg (by omega)]
    exact inc h
  · have c : ¬ (m.1 6 5).toInt < 60 := zf c
    rw [if_pos (by omega)]
    exact xP_b (P52 h a1 a2 (by decide) (by decide)) (fun _ m1 q => xP_r (inc q))
/-- readValue -/
theorem P36 {kk : Nat} (hF : 500 ≤ F) (N : kN m0 b n) (h : kC m0 n p bg 0 out wait cl (kk : Int) dp br ex wh m) (l : out.length < 400) (hk : kk ≤ 60) : xP (D36_6_2 F m) (fun _ m' => (∃ f, tval b n p kk = .inl f ∧ f ≠ 0 ∧ kF m0 n f m') ∨ (∃ x bg', tval b n p kk = .inr x ∧ kC m0 n x.1 bg' 0 (x.2 :: out) wait cl ((kk + 1 : Nat) : Int) dp br 3 wh m')) := by
  have n4 := N.2.1
  have pn : p ≤ n := h.2.2.1.2
  have fin : ∀ {p' : Nat} {ft : Int} {c : Int} {m : xS}, kC m0 n p' (tS tbl b n p) ft (c :: out) wait cl (kk : Int) dp br ex wh m → xP (D36_6_2_40 F m) (fun _ m' => kC m0 n p' (tS tbl b n p) (if (60 : Int) ≤ (kk : Int) then trf ft (1 + 8 * (tS tbl b n p : Int) + 3) else ft) (c :: out) wait cl ((kk : Int) + 1) dp br 3 wh m') := by
    intro p' ft c m h
    have h4 := h.2.2.2.1
    have l4 : tS tbl b n p ≤ n := tS_le p pn
    unfold D36_6_2_40
    refine xP_b (P37 h (by omega) (by omega) (by omega) (by omega)) (fun _ m1 q => xP_r ?_)
    rw [h4] at q
    exact kC_ex q rfl
  unfold D36_6_2
  refine xP_b (P53 hF N h) (fun v m1 q => ?_)
  obtain ⟨q, qv⟩ := q
  have lp : tS tbl b n p ≤ n := q.2.2.1.2
  refine xP_b P56 (fun r mx q1 => ?_)
  obtain ⟨rfl, q1⟩ := q1
  dsimp only at q1 ⊢
  rw [qv] at q1
  refine xP_i (fun c => ?_) (fun c => ?_)
  · have dg : tdg (tsg b n (tsk b n p)) = false := by
      rcases q1 with q1 | q1
      · rw [q1.1] at c
        cases c
      · exact q1.2
    have tv0 : tval b n p kk = (match tix (twd b n p) tw1004 with
      | none => .inl (1 + 8 * (tsk b n p : Int))
      | some u => if 60 ≤ kk then .inl (1 + 8 * (tsk b n p : Int) + 3) else .inr (tle b n p, 20 + (u : Int))) := by
      unfold tval
      rw [if_neg (by rw [dg]; decide)]
      cases tix (twd b n p) tw1004 <;> rfl
    refine xP_b (P60_1004 hF N q) (fun r2 m2 q2 => ?_)
    rw [tS_id] at q2
    rcases q2 with ⟨u, a1, a2, a3⟩ | ⟨a1, a2, a3⟩
    · have ub : u < 13 := by
        have : ∀ (ws : List (List Int)) (w : List Int) (u : Nat), tix w ws = some u → u < ws.length := by
          intro ws
          induction ws with
          | nil => intro w u z; cases z
          | cons y ys ih =>
            intro w u z
            unfold tix at z
            split at z
            · cases z
              exact Nat.succ_pos _
            · cases t : tix w ys with
              | none => rw [t] at z; cases z
              | some t2 =>
                rw [t] at z
                have := ih w t2 t
                have z : t2 + 1 = u := Option.some.inj z
                rw [List.length_cons]
                omega
        exact this _ _ _ a1
      have ev : (20 + r2).toInt = 20 + (u : Int) := (xa1 (by show _ ≤ (20 : Int) + _; omega) (by show (20 : Int) + _ ≤ _; omega)).trans (by rw [a2]; rfl)
      refine xP_b (P48 (v := 20 + r2) a3 l) (fun _ m3 q3 => ?_)
      obtain ⟨q3, -⟩ := q3
      rw [ev] at q3
      refine xP_m (fin q3) (fun _ m4 q4 => ?_)
      rw [tv0]
      have a1 : tix (twd b n p) tw1004 = some u := a1
      rw [a1]
      by_cases z : 60 ≤ kk
      · rw [if_pos (by omega)] at q4
        refine Or.inl ⟨_, if_pos z, ?_, _, _, _, _, _, _, _, _, _, _, q4⟩
        show (1 + 8 * (tS tbl b n p : Int) + 3) ≠ 0
        omega
      · rw [if_neg (by omega)] at q4
        exact Or.inr ⟨_, _, if_neg z, q4⟩
    · refine xP_b (P48 (v := 20 + r2) a3 l) (fun _ m3 q3 => ?_)
      obtain ⟨q3, -⟩ := q3
      refine xP_m (fin q3) (fun _ m4 q4 => ?_)
      rw [tv0]
      have a1 : tix (twd b n p) tw1004 = none := a1
      rw [a1]
      have e5 : trf 0 (1 + 8 * (tS tbl b n p : Int)) = 1 + 8 * (tS tbl b n p : Int) := if_pos rfl
      have e6 : trf (1 + 8 * (tS tbl b n p : Int)) (1 + 8 * (tS tbl b n p : Int) + 3) = 1 + 8 * (tS tbl b n p : Int) := if_neg (by omega)
      rw [e5, e6, ite_self] at q4
      refine Or.inl ⟨_, rfl, ?_, _, _, _, _, _, _, _, _, _, _, q4⟩
      show (1 + 8 * (tS tbl b n p : Int)) ≠ 0
      omega
  · have dg : tdg (tsg b n (tsk b n p)) = true := by
      rcases q1 with q1 | q1
      · exact q1.2
      · rw [q1.1] at c
        cases c
    have ln : tS tbl b n p < n := by
      by_cases z : tS tbl b n p < n
      · exact z
      · unfold tsg tsk at dg
        rw [if_neg z] at dg
        cases dg
    have dg2 : tdg (b (tS tbl b n p)) = true := by
      unfold tsg tsk at dg
      rw [if_pos ln] at dg
      exact dg
    have ld : tS tbl b n p < tS tdg b n (tS tbl b n p) := tS_lt ln dg2
    have tv0 : tval b n p kk = (if 5 < tde b n p - tsk b n p then .inl (1 + 8 * (tsk b n p : Int) + 1) else if 60 ≤ kk then .inl (1 + 8 * (tsk b n p : Int) + 3) else .inr (tde b n p, 40 + tv b (tsk b n p) (tde b n p - tsk b n p))) := by
      unfold tval
      rw [if_pos dg]
    refine xP_b (P58 hF N q) (fun r2 m2 q2 => ?_)
    rw [tS_id] at q2
    obtain ⟨a2, a3⟩ := q2
    have tb := tv_b (b := b) (p := tS tbl b n p) (n := tS tdg b n (tS tbl b n p) - tS tbl b n p) (fun j j1 j2 j3 => by
      have := (tS_in (P := tdg) (b := b) (n := n) (tS tbl b n p) j j1 (by omega)).2
      unfold tdg at this
      simp only [Bool.and_eq_true, decide_eq_true_eq] at this
      exact this) (min (tS tdg b n (tS tbl b n p) - tS tbl b n p) 5) (Nat.min_le_right _ _) (Nat.min_le_left _ _)
    have tb2 : r2.toInt < 100000 := by
      rw [a2]
      refine Int.lt_of_lt_of_le tb.2 ?_
      have : min (tS tdg b n (tS tbl b n p) - tS tbl b n p) 5 = 0 ∨ min (tS tdg b n (tS tbl b n p) - tS tbl b n p) 5 = 1 ∨ min (tS tdg b n (tS tbl b n p) - tS tbl b n p) 5 = 2 ∨ min (tS tdg b n (tS tbl b n p) - tS tbl b n p) 5 = 3 ∨ min (tS tdg b n (tS tbl b n p) - tS tbl b n p) 5 = 4 ∨ min (tS tdg b n (tS tbl b n p) - tS tbl b n p) 5 = 5 := by omega
      rcases this with z | z | z | z | z | z <;> (rw [z]; decide)
    have tb1 : 0 ≤ r2.toInt := by rw [a2]; exact tb.1
    have ev : (40 + r2).toInt = 40 + r2.toInt := (xa1 (by show _ ≤ (40 : Int) + _; omega) (by show (40 : Int) + _ ≤ _; omega)).trans rfl
    refine xP_b (P48 (v := 40 + r2) a3 l) (fun _ m3 q3 => ?_)
    obtain ⟨q3, -⟩ := q3
    rw [ev] at q3
    refine xP_m (fin q3) (fun _ m4 q4 => ?_)
    rw [tv0]
    have lo0 : (0 : Int32).toInt = 0 := rfl
    have hi0 : (99999 : Int32).toInt = 99999 := rfl
    rw [lo0, hi0] at q4
    by_cases z : 5 < tS tdg b n (tS tbl b n p) - tS tbl b n p
    · have e5 : tnf 0 99999 (tS tbl b n p) (tS tdg b n (tS tbl b n p)) r2.toInt 0 = 1 + 8 * (tS tbl b n p : Int) + 1 := by
        unfold tnf
        rw [if_neg (by omega), if_pos (Or.inl z)]
        exact if_pos rfl
      have e6 : trf (1 + 8 * (tS tbl b n p : Int) + 1) (1 + 8 * (tS tbl b n p : Int) + 3) = 1 + 8 * (tS tbl b n p : Int) + 1 := if_neg (by omega)
      rw [e5, e6, ite_self] at q4
      refine Or.inl ⟨_, if_pos z, ?_, _, _, _, _, _, _, _, _, _, _, q4⟩
      show (1 + 8 * (tS tbl b n p : Int) + 1) ≠ 0
      omega
    · have e5 : tnf 0 99999 (tS tbl b n p) (tS tdg b n (tS tbl b n p)) r2.toInt 0 = 0 := by
        unfold tnf
        rw [if_neg (by omega), if_neg (by omega)]
      have e7 : r2.toInt = tv b (tS tbl b n p) (tS tdg b n (tS tbl b n p) - tS tbl b n p) := by rw [a2, show min (tS tdg b n (tS tbl b n p) - tS tbl b n p) 5 = tS tdg b n (tS tbl b n p) - tS tbl b n p by omega]
      rw [e5] at q4
      by_cases z2 : 60 ≤ kk
      · rw [if_pos (by omega)] at q4
        refine Or.inl ⟨_, (if_neg z).trans (if_pos z2), ?_, _, _, _, _, _, _, _, _, _, _, q4⟩
        show (1 + 8 * (tS tbl b n p : Int) + 3) ≠ 0
        omega
      · rw [if_neg (by omega), e7] at q4
        exact Or.inr ⟨_, _, (if_neg z).trans (if_neg z2), q4⟩
end KRD
end
section
/-! The class's reader of rules, second half: a turn of its loop is a step of the machine. -/
theorem tix1 {w v : List Int} {u : Nat} (h : tix w [v] = some u) : w = v ∧ u = 0 := by
  unfold tix at h
  split at h
  · next e => exact ⟨e.symm, (Option.some.inj h).symm⟩
  · cases h
theorem tix2 {w v1 v2 : List Int} {u : Nat} (h : tix w [v1, v2] = some u) : (w = v1 ∧ u = 0) ∨ (w = v2 ∧ u = 1) := by
  unfold tix at h
  split at h
  · next e => exact Or.inl ⟨e.symm, (Option.some.inj h).symm⟩
  · cases t : tix w [v2] with
    | none => rw [t] at h; cases h
    | some t2 =>
      obtain ⟨e, z⟩ := tix1 t
      rw [t, z] at h
      exact Or.inr ⟨e, (Option.some.inj h).symm⟩
theorem tw_eq {b : Nat → Int} {p e : Nat} {v : List Int} (h : tw b p e = v) : e - p = v.length := by
  rw [← h, tw_len]
theorem tendc_id (b : Nat → Int) (n : Nat) (a : Int) (p k : Nat) (out wait : List Int) (cl wh : Nat) : tendc b n a (tS tbl b n p) k out wait cl wh = tendc b n a p k out wait cl wh := by
  unfold tendc tsk
  rw [tS_id]
theorem tsg_lt {b : Nat → Int} {n p : Nat} {c : Int} (h : tsg b n p = c) (hc : c ≠ -1) : p < n ∧ b p = c := by
  unfold tsg at h
  split at h
  · next l => exact ⟨l, h⟩
  · exact absurd h.symm hc
section KST
variable {m0 m : xS} {b : Nat → Int} {n p bg k cl wh : Nat} {out wait : List Int} {F : Nat}
/-- readLend -/
theorem P34 {ww : Int} (hF : 500 ≤ F) (N : kN m0 b n) (h : kC m0 n p bg 0 out wait (cl : Int) (k : Int) (tdp wait : Int) (tbr wait : Int) ((0 : Nat) : Int) ww m) (I : kI (p, k, out, wait, cl, 0, wh)) : xP (D34_6_2 F m) (fun _ m' => kR m0 n (tlnd b n p k out wait cl) m') := by
  obtain ⟨i1, i2, i3, i4⟩ := I
  have i1 : out.length + wait.length + 0 ≤ p := i1
  have i2 : k ≤ 60 := i2
  have i3 : cl ≤ 12 := i3
  have n4 := N.2.1
  have pn : p ≤ n := h.2.2.1.2
  have g1 : p ≤ tS tbl b n p := tS_ge p
  have g2 : tS tbl b n p ≤ n := tS_le p pn
  have fin : ∀ {p' bg' : Nat} {ft : Int} {m : xS}, kC m0 n p' bg' ft out wait (cl : Int) (k : Int) (tdp wait : Int) (tbr wait : Int) ((0 : Nat) : Int) ww m → kC m0 n p' bg' ft out wait ((cl + 1 : Nat) : Int) (k : Int) (tdp wait : Int) (tbr wait : Int) ((2 : Nat) : Int) ((0 : Nat) : Int) (xu (xu (xu m 6 4 ((m.1 6 4) + 1)) 6 9 0) 6 8 2) := fun {p' bg' ft m} h => by
    have h8 := h.2.2.2.2.2.2.2.1
    exact kC_ex (kC_wh (kC_cl h ((xa1 (by show _ ≤ _ + (1 : Int); omega) (by show _ + (1 : Int) ≤ _; omega)).trans (by rw [h8]; rfl))) rfl) rfl
  unfold D34_6_2 D34_6_2_25
  refine xP_b (P60_1002 hF N h) (fun v m1 q => ?_)
  rcases q with ⟨u, a1, a2, a3⟩ | ⟨a1, a2, a3⟩
  · have h8 := a3.2.2.2.2.2.2.2.1
    have h4 := a3.2.2.2.1
    have tl : tlnd b n p k out wait cl = if 12 ≤ cl then .inl (1 + 8 * (tsk b n p : Int) + 4) else .inr (tle b n p, k, out, wait, cl + 1, 2, 0) := by
      unfold tlnd
      have a1 : tix (twd b n p) tw1002 = some u := a1
      rw [a1]
    have e4 : tS tlt b n (tS tbl b n p) - tS tbl b n p = 4 := tw_eq (tix1 a1).1
    rw [tl]
    dsimp only
    refine xP_i (fun c => xP_r ?_) (fun c => ?_)
    · have c : (m1.1 6 4).toInt < 12 := zt c
      rw [if_neg (by omega)]
      exact ⟨⟨_, fin a3⟩, by show out.length + wait.length + 1 ≤ tS tlt b n (tS tbl b n p); omega, i2, by show cl + 1 ≤ 12; omega, i4⟩
    · have c : ¬ (m1.1 6 4).toInt < 12 := zf c
      rw [if_pos (by omega)]
      refine xP_b (P52 a3 (by omega) (by omega) (by decide) (by decide)) (fun _ m2 q2 => xP_r ?_)
      rw [h4, show trf 0 (1 + 8 * ((tS tbl b n p : Nat) : Int) + (4 : Int32).toInt) = 1 + 8 * ((tS tbl b n p : Nat) : Int) + 4 from if_pos rfl] at q2
      exact ⟨by show 1 + 8 * ((tS tbl b n p : Nat) : Int) + 4 ≠ 0; omega, _, _, _, _, _, _, _, _, _, _, fin q2⟩
  · have h4 := a3.2.2.2.1
    have tl : tlnd b n p k out wait cl = .inl (1 + 8 * (tsk b n p : Int)) := by
      unfold tlnd
      have a1 : tix (twd b n p) tw1002 = none := a1
      rw [a1]
    have e5 : trf 0 (1 + 8 * (tS tbl b n p : Int)) = 1 + 8 * (tS tbl b n p : Int) := if_pos rfl
    rw [e5] at a3
    have ne : 1 + 8 * ((tS tbl b n p : Nat) : Int) ≠ 0 := by omega
    rw [tl]
    dsimp only
    refine xP_i (fun c => xP_r ⟨ne, _, _, _, _, _, _, _, _, _, _, fin a3⟩) (fun c => ?_)
    refine xP_b (P52 a3 (by omega) (by omega) (by decide) (by decide)) (fun _ m2 q2 => xP_r ?_)
    rw [show ∀ x, trf (1 + 8 * ((tS tbl b n p : Nat) : Int)) x = 1 + 8 * ((tS tbl b n p : Nat) : Int) from fun x => if_neg ne] at q2
    exact ⟨ne, _, _, _, _, _, _, _, _, _, _, fin q2⟩
/-- readValue, as a step -/
theorem P36s {ex : Int} (hF : 500 ≤ F) (N : kN m0 b n) (h : kC m0 n p bg 0 out wait (cl : Int) (k : Int) (tdp wait : Int) (tbr wait : Int) ex (wh : Int) m) (i1 : out.length + wait.length + 1 ≤ p) (i2 : k ≤ 60) (i3 : cl ≤ 12) (i4 : ∀ w ∈ wait, 0 ≤ w ∧ w ≤ (13 : Int)) : xP (D36_6_2 F m) (fun _ m' => kR m0 n (tvs b n p k out wait cl wh) m') := by
  have n4 := N.2.1
  have pn : p ≤ n := h.2.2.1.2
  have g1 : p ≤ tS tbl b n p := tS_ge p
  refine xP_m (P36 hF N h (by omega) i2) (fun _ m' q => ?_)
  rcases q with ⟨f, a1, a2, a3⟩ | ⟨x, bg', a1, a2⟩
  · unfold tvs
    rw [a1]
    exact ⟨a2, a3⟩
  · unfold tvs
    rw [a1]
    have lx : p < x.1 ∧ k < 60 := by
      unfold tval at a1
      split at a1
      · next dg =>
        split at a1
        · cases a1
        · split at a1
          · cases a1
          · next z1 z2 =>
            have ln := tsg_lt (b := b) (n := n) (p := tsk b n p) rfl (fun z => by rw [z] at dg; cases dg)
            have ld : tS tbl b n p < tS tdg b n (tS tbl b n p) := tS_lt ln.1 (by rw [ln.2]; exact dg)
            have a1 := Sum.inr.inj a1
            rw [← a1]
            exact ⟨by show p < tS tdg b n (tS tbl b n p); omega, by omega⟩
      · split at a1
        · cases a1
        · next u hu =>
          split at a1
          · cases a1
          · next z2 =>
            have a1 := Sum.inr.inj a1
            rw [← a1]
            refine ⟨?_, by omega⟩
            show p < tS tlt b n (tS tbl b n p)
            have ne : twd b n p ≠ [] := fun z => by
              rw [z] at hu
              have : tix ([] : List Int) tw1004 = none := by decide
              rw [this] at hu
              cases hu
            have g3 : tS tbl b n p ≤ tS tlt b n (tS tbl b n p) := tS_ge _
            by_cases e : tS tlt b n (tS tbl b n p) = tS tbl b n p
            · exact absurd (show twd b n p = [] by show tw b (tS tbl b n p) (tS tlt b n (tS tbl b n p)) = []; rw [e, tw_nil]) ne
            · omega
    exact ⟨⟨_, a2⟩, by show (out.length + 1) + wait.length + 1 ≤ x.1; omega, by show k + 1 ≤ 60; omega, i3, i4⟩
theorem P35_60 {p' : Nat} {ft : Int} {v2 v3 : Int32} {bg' : Nat} {m : xS} {ex : Int} (N : kN m0 b n) (h : kC m0 n p' bg' ft out wait (cl : Int) (k : Int) (tdp wait : Int) (tbr wait : Int) ex (wh : Int) m) (lw : wait.length < 400) (h2 : (v2 = 0) ∨ (v2 = 1 ∧ p' < n)) : xP (D35_6_2_60 F v2 v3 m) (fun _ m' => (v2 = 0 ∧ kC m0 n p' bg' ft out (3 :: wait) (cl : Int) (k : Int) (tdp (3 :: wait) : Int) (tbr (3 :: wait) : Int) ex (wh : Int) m') ∨ (v2 = 1 ∧ kC m0 n (p' + 1) bg' ft out (0 :: wait) (cl : Int) (k : Int) (tdp (0 :: wait) : Int) (tbr (0 :: wait) : Int) ex (wh : Int) m')) := by
  have d1 := tdp_len wait
  have d2 := tbr_len wait
  have h10 := h.2.2.2.2.2.2.2.2.2.1
  have h10s : kC m0 n p' bg' ft out wait (cl : Int) (k : Int) ((1 + tdp wait : Nat) : Int) (tbr wait : Int) ex (wh : Int) (xu m 6 6 ((m.1 6 6) + 1)) := kC_dp h ((xa1 (by show _ ≤ _ + (1 : Int); omega) (by show _ + (1 : Int) ≤ _; omega)).trans (by rw [h10]; show (tdp wait : Int) + 1 = _; omega))
  unfold D35_6_2_60 D35_6_2_88 D35_6_2_98
  rcases h2 with rfl | ⟨rfl, l⟩
  · refine xP_i (fun _ => ?_) (fun c => absurd c (by decide))
    refine xP_i (fun _ => ?_) (fun c => absurd c (by decide))
    refine xP_b (P47 h10s lw) (fun _ m1 q => xP_r (Or.inl ⟨rfl, ?_⟩))
    have e : tbr (3 :: wait) = tbr wait := Nat.zero_add (tbr wait)
    rw [e]
    exact q
  · refine xP_i (fun c => absurd c (by decide)) (fun _ => ?_)
    refine xP_b (P54 N h10s l) (fun _ m1 q => ?_)
    dsimp only
    refine xP_i (fun c => absurd c (by decide)) (fun _ => ?_)
    have h11 := q.2.2.2.2.2.2.2.2.2.2.1
    have qb : kC m0 n (p' + 1) bg' ft out wait (cl : Int) (k : Int) ((1 + tdp wait : Nat) : Int) ((1 + tbr wait : Nat) : Int) ex (wh : Int) (xu m1 6 7 ((m1.1 6 7) + 1)) := kC_br q ((xa1 (by show _ ≤ _ + (1 : Int); omega) (by show _ + (1 : Int) ≤ _; omega)).trans (by rw [h11]; show (tbr wait : Int) + 1 = _; omega))
    refine xP_b (P47 qb lw) (fun _ m2 q2 => xP_r (Or.inr ⟨rfl, ?_⟩))
    exact q2
/-- readFact -/
theorem P35 (hF : 500 ≤ F) (N : kN m0 b n) (h : kC m0 n p bg 0 out wait (cl : Int) (k : Int) (tdp wait : Int) (tbr wait : Int) ((1 : Nat) : Int) (wh : Int) m) (I : kI (p, k, out, wait, cl, 1, wh)) : xP (D35_6_2 F m) (fun _ m' => kR m0 n (tfac b n p k out wait cl wh) m') := by
  obtain ⟨i1, i2, i3, i4⟩ := I
  have i1 : out.length + wait.length + 1 ≤ p := i1
  have i2 : k ≤ 60 := i2
  have i3 : cl ≤ 12 := i3
  have n4 := N.2.1
  have pn : p ≤ n := h.2.2.1.2
  have g1 : p ≤ tS tbl b n p := tS_ge p
  have g2 : tS tbl b n p ≤ n := tS_le p pn
  have opn : ∀ {v2 v3 : Int32} {p' bg' : Nat} {m : xS}, kC m0 n p' bg' 0 out wait (cl : Int) (k : Int) (tdp wait : Int) (tbr wait : Int) ((1 : Nat) : Int) (wh : Int) m → v3.toInt = (tS tbl b n p : Int) → (v2 = 0) ∨ (v2 = 1 ∧ p' < n) → p < (if v2 = 0 then p' else p' + 1) → xP (D35_6_2_45 F v2 v3 m) (fun _ m' => kR m0 n (if 10 ≤ tdp wait then .inl (1 + 8 * (tsk b n p : Int) + 2) else .inr (if v2 = 0 then (p', k, out, 3 :: wait, cl, 1, wh) else (p' + 1, k, out, 0 :: wait, cl, 1, wh))) m') := by
    intro v2 v3 p' bg' m h e3 h2 lp
    have h10 := h.2.2.2.2.2.2.2.2.2.1
    unfold D35_6_2_45
    refine xP_i (fun c => ?_) (fun c => ?_)
    · have c : (m.1 6 6).toInt < 10 := zt c
      rw [if_neg (by omega)]
      refine xP_m (P35_60 N h (by omega) h2) (fun _ m1 q => ?_)
      rcases q with ⟨rfl, q⟩ | ⟨rfl, q⟩
      · rw [if_pos rfl] at lp ⊢
        refine ⟨⟨_, q⟩, by show out.length + (wait.length + 1) + 1 ≤ p'; omega, i2, i3, fun w hw => ?_⟩
        rcases List.mem_cons.mp hw with rfl | hw
        · exact ⟨by decide, by decide⟩
        · exact i4 w hw
      · rw [if_neg (by decide)] at lp ⊢
        refine ⟨⟨_, q⟩, by show out.length + (wait.length + 1) + 1 ≤ p' + 1; omega, i2, i3, fun w hw => ?_⟩
        rcases List.mem_cons.mp hw with rfl | hw
        · exact ⟨by decide, by decide⟩
        · exact i4 w hw
    · have c : ¬ (m.1 6 6).toInt < 10 := zf c
      rw [if_pos (by omega)]
      refine xP_b (P52 h (by omega) (by omega) (by decide) (by decide)) (fun _ m1 q => ?_)
      rw [e3, show trf 0 (1 + 8 * ((tS tbl b n p : Nat) : Int) + (2 : Int32).toInt) = 1 + 8 * ((tS tbl b n p : Nat) : Int) + 2 from if_pos rfl] at q
      have ne : 1 + 8 * ((tS tbl b n p : Nat) : Int) + 2 ≠ 0 := by omega
      refine xP_m (P35_60 N q (by omega) h2) (fun _ m1 q => ?_)
      rcases q with ⟨rfl, q⟩ | ⟨rfl, q⟩
      · exact ⟨ne, _, _, _, _, _, _, _, _, _, _, q⟩
      · exact ⟨ne, _, _, _, _, _, _, _, _, _, _, q⟩
  unfold D35_6_2 D35_6_2_14
  refine xP_b (P53 hF N h) (fun v m1 q => ?_)
  obtain ⟨q, qv⟩ := q
  have h3 := q.2.2.1.1
  dsimp only
  refine xP_i (fun c => ?_) (fun c => ?_)
  · have c : v.toInt ≠ 91 := zt c
    refine xP_i (fun d => absurd d (by decide)) (fun _ => ?_)
    have tf : tfac b n p k out wait cl wh = (match tix (twd b n p) tw1003 with
      | some _ => if 10 ≤ tdp wait then .inl (1 + 8 * (tsk b n p : Int) + 2) else .inr (tle b n p, k, out, 3 :: wait, cl, 1, wh)
      | none => tvs b n p k out wait cl 1) := by
      unfold tfac
      rw [if_neg (fun z => c (qv.trans z))]
      cases tix (twd b n p) tw1003 <;> rfl
    rw [tf]
    refine xP_b (P59_1003 hF N q) (fun r2 m2 q2 => ?_)
    rw [tS_id] at q2
    dsimp only
    rcases q2 with ⟨u, a1, a2, a3⟩ | ⟨a1, a2, a3⟩
    · have e4 : tS tlt b n (tS tbl b n p) - tS tbl b n p = 3 := tw_eq (tix1 a1).1
      have a1 : tix (twd b n p) tw1003 = some u := a1
      rw [a1]
      refine xP_i (fun d => ?_) (fun d => ?_)
      · exact opn (v2 := 0) a3 h3 (Or.inl rfl) (by rw [if_pos rfl]; show p < tS tlt b n (tS tbl b n p); omega)
      · have d : r2.toInt = -1 := Decidable.not_not.mp (zf d)
        omega
    · have a1 : tix (twd b n p) tw1003 = none := a1
      rw [a1]
      refine xP_i (fun d => ?_) (fun d => ?_)
      · have d : r2.toInt ≠ -1 := zt d
        exact absurd a2 d
      · have z := P36s (F := F) hF N (kC_wh (v := 1) (x := ((1 : Nat) : Int)) a3 rfl) (by omega) i2 i3 i4
        have tid : tvs b n (tS tbl b n p) k out wait cl 1 = tvs b n p k out wait cl 1 := by
          unfold tvs tval tsk tde twd tle
          simp only [tS_id]
        rw [tid] at z
        exact xP_b z (fun _ m3 q3 => xP_r q3)
  · have c : v.toInt = 91 := Decidable.not_not.mp (zf c)
    obtain ⟨ln, -⟩ := tsg_lt (qv.symm.trans c) (by decide)
    refine xP_i (fun _ => ?_) (fun d => absurd d (by decide))
    have tf : tfac b n p k out wait cl wh = (if 10 ≤ tdp wait then .inl (1 + 8 * (tsk b n p : Int) + 2) else .inr (tsk b n p + 1, k, out, 0 :: wait, cl, 1, wh)) := by
      unfold tfac
      rw [if_pos (qv.symm.trans c)]
    rw [tf]
    exact opn (v2 := 1) q h3 (Or.inr ⟨rfl, ln⟩) (by rw [if_neg (by decide)]; show p < tS tbl b n p + 1; omega)
end KST
end
section
/-! The class's reader of rules: readJoint and what it calls. -/
section KJN
variable {m0 m : xS} {b : Nat → Int} {n p bg k cl wh : Nat} {out wait : List Int} {F : Nat}
/-- goesOn -/
theorem P61 {out wait : List Int} {cl k dp br ex wh : Int} (hF : 500 ≤ F) (N : kN m0 b n) (h : kC m0 n p bg 0 out wait cl k dp br ex wh m) : xP (D61_2 F m) (fun r m' => (tsg b n (tsk b n p) = 59 ∧ r = 1 ∧ kC m0 n (tsk b n p + 1) bg 0 out wait cl k dp br ex wh m') ∨ (tsg b n (tsk b n p) ≠ 59 ∧ tsg b n (tsk b n p) = -1 ∧ r = 0 ∧ kC m0 n (tsk b n p) bg 0 out wait cl k dp br ex wh m') ∨ (tsg b n (tsk b n p) ≠ 59 ∧ tsg b n (tsk b n p) ≠ -1 ∧ r = 0 ∧ kC m0 n (tsk b n p) bg (1 + 8 * (tsk b n p : Int)) out wait cl k dp br ex wh m')) := by
  have n4 := N.2.1
  have h5 := h.2.2.2.2.1
  unfold D61_2 D61_2_40
  refine xP_b (R := fun r m' => m' = m ∧ r = 1) ?_ (fun r mx q => ?_)
  · unfold D51_2
    refine xP_i (fun c => ?_) (fun _ => xP_r ⟨rfl, rfl⟩)
    have c : (m.1 2 4).toInt ≠ 0 := zt c
    exact absurd h5 c
  · obtain ⟨rfl, rfl⟩ := q
    refine xP_i (fun _ => ?_) (fun c => absurd (show zcmp .ne (1 : Int32) 0 = false from c) (by decide))
    refine xP_b (P53 hF N h) (fun v m1 q => ?_)
    obtain ⟨q, qv⟩ := q
    have h3 := q.2.2.1
    dsimp only
    refine xP_i (fun c => ?_) (fun c => ?_)
    · have c : v.toInt ≠ 59 := zt c
      have c1 : tsg b n (tsk b n p) ≠ 59 := fun z => c (qv.trans z)
      refine xP_i (fun d => ?_) (fun d => ?_)
      · have d : v.toInt = -1 := zt d
        exact xP_r (Or.inr (Or.inl ⟨c1, qv.symm.trans d, rfl, q⟩))
      · have d : v.toInt ≠ -1 := zf d
        refine xP_b (P52 q (by omega) (by omega) (by decide) (by decide)) (fun _ m2 q2 => xP_r (Or.inr (Or.inr ⟨c1, fun z => d (qv.trans z), rfl, ?_⟩)))
        rw [h3.1, show trf 0 (1 + 8 * ((tS tbl b n p : Nat) : Int) + (0 : Int32).toInt) = 1 + 8 * ((tS tbl b n p : Nat) : Int) from (if_pos rfl).trans (Int.add_zero _)] at q2
        exact q2
    · have c : v.toInt = 59 := Decidable.not_not.mp (zf c)
      obtain ⟨ln, -⟩ := tsg_lt (qv.symm.trans c) (by decide)
      refine xP_b (P54 N q ln) (fun _ m2 q2 => xP_r (Or.inl ⟨qv.symm.trans c, rfl, q2⟩))
/-- the end of a clause -/
theorem P44 {a : Int32} {ex : Int} (hF : 500 ≤ F) (N : kN m0 b n) (h : kC m0 n p bg 0 out wait (cl : Int) (k : Int) (tdp wait : Int) (tbr wait : Int) ex (wh : Int) m) (i1 : out.length + wait.length + 1 ≤ p) (i2 : k ≤ 60) (i3 : cl ≤ 12) (i4 : ∀ w ∈ wait, 0 ≤ w ∧ w ≤ (13 : Int)) : xP (D44_6_2 F a m) (fun _ m' => kR m0 n (tendc b n a.toInt p k out wait cl wh) m') := by
  have n4 := N.2.1
  have pn : p ≤ n := h.2.2.1.2
  have g1 : p ≤ tS tbl b n p := tS_ge p
  have d1 := tdp_len wait
  have sl := tSe_len 1 wait out
  have sd := tSe_dp (o := 1) (by decide) wait out
  have ss := tSe_sub 1 wait out
  have o1 : (1 : Int32).toInt = 1 := rfl
  unfold D44_6_2 D44_6_2_23
  refine xP_b (P46 (o := 1) hF h (by omega) (by omega) (by omega)) (fun _ m1 q => ?_)
  rw [o1, show ((tdp wait : Nat) : Int) - (((tSe 1 wait out).2.2 : Nat) : Int) = ((tdp (tSe 1 wait out).2.1 : Nat) : Int) by omega, sd.2] at q
  refine xP_b (P48 (v := a) q (by omega)) (fun _ m2 q2 => ?_)
  obtain ⟨q2, -⟩ := q2
  refine xP_b (P61 hF N q2) (fun r m3 q3 => ?_)
  dsimp only
  unfold tendc
  rcases q3 with ⟨c1, rfl, q3⟩ | ⟨c1, c2, rfl, q3⟩ | ⟨c1, c2, rfl, q3⟩
  · rw [if_pos c1]
    refine xP_i (fun c => absurd c (by decide)) (fun _ => xP_r ?_)
    exact ⟨⟨_, kC_ex (x := ((0 : Nat) : Int)) q3 rfl⟩, by show ((tSe 1 wait out).1.length + 1) + (tSe 1 wait out).2.1.length + 0 ≤ tS tbl b n p + 1; omega, i2, i3, fun w hw => i4 w (ss w hw)⟩
  · rw [if_neg c1, if_pos c2]
    refine xP_i (fun _ => xP_r ?_) (fun c => absurd c (by decide))
    exact ⟨⟨_, kC_ex (x := ((4 : Nat) : Int)) q3 rfl⟩, by show ((tSe 1 wait out).1.length + 1) + (tSe 1 wait out).2.1.length + 0 ≤ tS tbl b n p; omega, i2, i3, fun w hw => i4 w (ss w hw)⟩
  · rw [if_neg c1, if_neg c2]
    refine xP_i (fun _ => xP_r ?_) (fun c => absurd c (by decide))
    exact ⟨by show 1 + 8 * ((tS tbl b n p : Nat) : Int) ≠ 0; omega, _, _, _, _, _, _, _, _, _, _, kC_ex (x := ((4 : Nat) : Int)) q3 rfl⟩
/-- endAnswer -/
theorem P40 (hF : 500 ≤ F) (N : kN m0 b n) (h : kC m0 n p bg 0 out wait (cl : Int) (k : Int) (tdp wait : Int) (tbr wait : Int) ((3 : Nat) : Int) (wh : Int) m) (i1 : out.length + wait.length + 1 ≤ p) (i2 : k ≤ 60) (i3 : cl ≤ 12) (i4 : ∀ w ∈ wait, 0 ≤ w ∧ w ≤ (13 : Int)) : xP (D40_6_2 F m) (fun _ m' => kR m0 n (tena b n p k out wait cl wh) m') := by
  have n4 := N.2.1
  have pn : p ≤ n := h.2.2.1.2
  have g1 : p ≤ tS tbl b n p := tS_ge p
  have d1 := tdp_len wait
  have sl := tSe_len 1 wait out
  have sd := tSe_dp (o := 1) (by decide) wait out
  have ss := tSe_sub 1 wait out
  have o1 : (1 : Int32).toInt = 1 := rfl
  unfold D40_6_2
  refine xP_b (P59_1005 hF N h) (fun r m1 q => ?_)
  dsimp only
  unfold tena
  rcases q with ⟨u, a1, a2, a3⟩ | ⟨a1, a2, a3⟩
  · have e4 : tS tlt b n (tS tbl b n p) - tS tbl b n p = 2 := tw_eq (tix1 a1).1
    have a1 : tix (twd b n p) tw1005 = some u := a1
    rw [a1]
    refine xP_i (fun d => ?_) (fun _ => ?_)
    · have d : r.toInt = -1 := zt d
      omega
    · refine xP_b (P46 (o := 1) hF a3 (by omega) (by omega) (by omega)) (fun _ m2 q2 => xP_r ?_)
      rw [o1, show ((tdp wait : Nat) : Int) - (((tSe 1 wait out).2.2 : Nat) : Int) = ((tdp (tSe 1 wait out).2.1 : Nat) : Int) by omega, sd.2] at q2
      exact ⟨⟨_, kC_ex (x := ((1 : Nat) : Int)) q2 rfl⟩, by show (tSe 1 wait out).1.length + (tSe 1 wait out).2.1.length + 1 ≤ tS tlt b n (tS tbl b n p); omega, i2, i3, fun w hw => i4 w (ss w hw)⟩
  · have a1 : tix (twd b n p) tw1005 = none := a1
    rw [a1]
    refine xP_i (fun _ => ?_) (fun d => ?_)
    · have z := P44 (F := F) (a := 14) hF N a3 (by omega) i2 i3 i4
      rw [show (14 : Int32).toInt = 14 from rfl, tendc_id] at z
      exact xP_b z (fun _ m2 q2 => xP_r q2)
    · have d : r.toInt ≠ -1 := zf d
      exact absurd a2 d
/-- closeBracket -/
theorem P43 (hF : 500 ≤ F) (N : kN m0 b n) (h : kC m0 n p bg 0 out wait (cl : Int) (k : Int) (tdp wait : Int) (tbr wait : Int) ((3 : Nat) : Int) (wh : Int) m) (i1 : out.length + wait.length ≤ p) (i2 : k ≤ 60) (i3 : cl ≤ 12) (i4 : ∀ w ∈ wait, 0 ≤ w ∧ w ≤ (13 : Int)) (hb : tbr wait ≠ 0) : xP (D43_6 F m) (fun _ m' => kR m0 n (.inr (p, k, (tSe 1 wait out).1, (tSe 1 wait out).2.1.tail, cl, 3, 3)) m') := by
  have n4 := N.2.1
  have pn : p ≤ n := h.2.2.1.2
  have d1 := tdp_len wait
  have sl := tSe_len 1 wait out
  have sd := tSe_dp (o := 1) (by decide) wait out
  have ss := tSe_sub 1 wait out
  have sh := tSe_hd 1 wait out
  have o1 : (1 : Int32).toInt = 1 := rfl
  unfold D43_6 D43_6_22
  refine xP_b (P46 (o := 1) hF h (by omega) (by omega) (by omega)) (fun _ m1 q => ?_)
  rw [o1, show ((tdp wait : Nat) : Int) - (((tSe 1 wait out).2.2 : Nat) : Int) = ((tdp (tSe 1 wait out).2.1 : Nat) : Int) by omega, sd.2] at q
  generalize hS : tSe 1 wait out = S at *
  obtain ⟨o2, w2, c2⟩ := S
  dsimp only at *
  cases w2 with
  | nil => exact absurd sd.2 hb
  | cons w ws =>
    have hw := sh w ws rfl
    have iw := i4 w (ss w List.mem_cons_self)
    have w0 : w = 0 := by
      have t1 : tcl 1 = 1 := rfl
      unfold tcl at hw t1
      split at hw
      · rw [t1] at hw
        omega
      · split at hw
        · rw [t1] at hw
          omega
        · split at hw <;> (rw [t1] at hw; omega)
    subst w0
    have h7 := q.2.2.2.2.2.2.1.1
    rw [List.length_cons] at h7 sl
    have s1 : ((m1.1 6 3) - 1).toInt = (ws.length : Int) := (xs1 (by show _ ≤ _ - (1 : Int); omega) (by show _ - (1 : Int) ≤ _; omega)).trans (by show _ - (1 : Int) = _; omega)
    obtain ⟨hp, -⟩ := kC_pop (v := (m1.1 6 3) - 1) q s1
    have e1 : tdp (0 :: ws) = 1 + tdp ws := rfl
    have e2 : tbr (0 :: ws) = 1 + tbr ws := rfl
    have z1 := tdp_len ws
    have z2 := tbr_len ws
    rw [e1, e2] at hp
    have h10 := hp.2.2.2.2.2.2.2.2.2.1
    have h11 := hp.2.2.2.2.2.2.2.2.2.2.1
    refine xP_i (fun c => ?_) (fun _ => xP_r ?_)
    · have c : (m1.1 6 3).toInt ≤ 0 := zt c
      omega
    · have k1 := kC_br (v := (xu m1 6 3 ((m1.1 6 3) - 1)).1 6 7 - 1) (x := ((tbr ws : Nat) : Int)) hp ((xs1 (by show _ ≤ _ - (1 : Int); omega) (by show _ - (1 : Int) ≤ _; omega)).trans (by rw [h11]; show (((1 + tbr ws : Nat) : Int) - 1) = _; omega))
      have h10b := k1.2.2.2.2.2.2.2.2.2.1
      have k2 := kC_dp (v := (xu (xu m1 6 3 ((m1.1 6 3) - 1)) 6 7 ((xu m1 6 3 ((m1.1 6 3) - 1)).1 6 7 - 1)).1 6 6 - 1) (x := ((tdp ws : Nat) : Int)) k1 ((xs1 (by show _ ≤ _ - (1 : Int); omega) (by show _ - (1 : Int) ≤ _; omega)).trans (by rw [h10b]; show (((1 + tdp ws : Nat) : Int) - 1) = _; omega))
      exact ⟨⟨_, kC_wh (x := ((3 : Nat) : Int)) k2 rfl⟩, by show o2.length + ws.length + 1 ≤ p; omega, i2, i3, fun w hw => i4 w (ss w (List.mem_cons_of_mem _ hw))⟩
/-- a join, as a step -/
theorem P45s {o : Int32} {ex : Int} (hF : 500 ≤ F) (ho : 1 ≤ tcl o.toInt) (ho2 : 0 ≤ o.toInt ∧ o.toInt ≤ 13) (h : kC m0 n p bg 0 out wait (cl : Int) (k : Int) (tdp wait : Int) (tbr wait : Int) ex (wh : Int) m) (hn : n ≤ 400) (i1 : out.length + wait.length + 2 ≤ p) (i4 : ∀ w ∈ wait, 0 ≤ w ∧ w ≤ (13 : Int)) : xP (D45_6 F o m) (fun _ m' => kC m0 n p bg 0 (tSe o.toInt wait out).1 (o.toInt :: (tSe o.toInt wait out).2.1) (cl : Int) (k : Int) (tdp (o.toInt :: (tSe o.toInt wait out).2.1) : Int) (tbr (o.toInt :: (tSe o.toInt wait out).2.1) : Int) ex (wh : Int) m' ∧ (tSe o.toInt wait out).1.length + (o.toInt :: (tSe o.toInt wait out).2.1).length + 1 ≤ p ∧ ∀ w ∈ o.toInt :: (tSe o.toInt wait out).2.1, 0 ≤ w ∧ w ≤ (13 : Int)) ∨ o.toInt = 0 ∨ o.toInt = 3 := by
  by_cases z : o.toInt = 0 ∨ o.toInt = 3
  · exact Or.inr z
  · refine Or.inl ?_
    have pn : p ≤ n := h.2.2.1.2
    have d1 := tdp_len wait
    have sl := tSe_len o.toInt wait out
    have sd := tSe_dp (o := o.toInt) ho wait out
    have ss := tSe_sub o.toInt wait out
    refine xP_m (P45 (o := o) hF h (by omega) (by omega) (by omega)) (fun _ m1 q => ⟨?_, ?_, fun w hw => ?_⟩)
    · have e1 : tdp (o.toInt :: (tSe o.toInt wait out).2.1) = tdp (tSe o.toInt wait out).2.1 := by
        show (if o.toInt = 0 ∨ o.toInt = 3 then 1 else 0) + tdp _ = _
        rw [if_neg z, Nat.zero_add]
      have e2 : tbr (o.toInt :: (tSe o.toInt wait out).2.1) = tbr (tSe o.toInt wait out).2.1 := by
        show (if o.toInt = 0 then 1 else 0) + tbr _ = _
        rw [if_neg (fun y => z (Or.inl y)), Nat.zero_add]
      rw [e1, e2, ← sd.2]
      rw [show ((tdp wait : Nat) : Int) - (((tSe o.toInt wait out).2.2 : Nat) : Int) = ((tdp (tSe o.toInt wait out).2.1 : Nat) : Int) by omega] at q
      exact q
    · rw [List.length_cons]
      omega
    · rcases List.mem_cons.mp hw with rfl | hw
      · exact ho2
      · exact i4 w (ss w hw)
end KJN
end
section
/-! The class's reader of rules: readSign, endFact, readJoint. -/
theorem xbe_t {x c : Int32} (h : (x == c) = true) : x = c := eq_of_beq h
theorem xbe_f {x c : Int32} (h : (x == c) = false) : x.toInt ≠ c.toInt := fun z => by
  rw [Int32.toInt_inj.mp z, beq_self_eq_true] at h
  cases h
theorem tena_id (b : Nat → Int) (n p k : Nat) (out wait : List Int) (cl wh : Nat) : tena b n (tS tbl b n p) k out wait cl wh = tena b n p k out wait cl wh := by
  unfold tena twd tle
  simp only [tS_id, tendc_id]
theorem tsig_id (b : Nat → Int) (n p k : Nat) (out wait : List Int) (cl : Nat) : tsig b n (tS tbl b n p) k out wait cl = tsig b n p k out wait cl := by
  unfold tsig tsk
  simp only [tS_id]
theorem tenf_id (b : Nat → Int) (n p k : Nat) (out wait : List Int) (cl wh : Nat) : tenf b n (tS tbl b n p) k out wait cl wh = tenf b n p k out wait cl wh := by
  unfold tenf twd tle tsk
  simp only [tS_id, tendc_id]
section KJ2
variable {m0 m : xS} {b : Nat → Int} {n p bg k cl wh : Nat} {out wait : List Int} {F : Nat}
theorem P45g {o : Int32} {ft cc kk ex ww : Int} (hF : 500 ≤ F) (ho : 1 ≤ tcl o.toInt) (ho2 : 0 ≤ o.toInt ∧ o.toInt ≤ 13) (ho3 : ¬ (o.toInt = 0 ∨ o.toInt = 3)) (h : kC m0 n p bg ft out wait cc kk (tdp wait : Int) (tbr wait : Int) ex ww m) (hn : n ≤ 400) (i1 : out.length + wait.length + 2 ≤ p) (i4 : ∀ w ∈ wait, 0 ≤ w ∧ w ≤ (13 : Int)) : xP (D45_6 F o m) (fun _ m' => kC m0 n p bg ft (tSe o.toInt wait out).1 (o.toInt :: (tSe o.toInt wait out).2.1) cc kk (tdp (o.toInt :: (tSe o.toInt wait out).2.1) : Int) (tbr (o.toInt :: (tSe o.toInt wait out).2.1) : Int) ex ww m' ∧ (tSe o.toInt wait out).1.length + (o.toInt :: (tSe o.toInt wait out).2.1).length + 1 ≤ p ∧ ∀ w ∈ o.toInt :: (tSe o.toInt wait out).2.1, 0 ≤ w ∧ w ≤ (13 : Int)) := by
  have pn : p ≤ n := h.2.2.1.2
  have d1 := tdp_len wait
  have sl := tSe_len o.toInt wait out
  have sd := tSe_dp (o := o.toInt) ho wait out
  have ss := tSe_sub o.toInt wait out
  refine xP_m (P45 (o := o) hF h (by omega) (by omega) (by omega)) (fun _ m1 q => ⟨?_, ?_, fun w hw => ?_⟩)
  · have e1 : tdp (o.toInt :: (tSe o.toInt wait out).2.1) = tdp (tSe o.toInt wait out).2.1 := by
      show (if o.toInt = 0 ∨ o.toInt = 3 then 1 else 0) + tdp _ = _
      rw [if_neg ho3, Nat.zero_add]
    have e2 : tbr (o.toInt :: (tSe o.toInt wait out).2.1) = tbr (tSe o.toInt wait out).2.1 := by
      show (if o.toInt = 0 then 1 else 0) + tbr _ = _
      rw [if_neg (fun y => ho3 (Or.inl y)), Nat.zero_add]
    rw [e1, e2, ← sd.2]
    rw [show ((tdp wait : Nat) : Int) - (((tSe o.toInt wait out).2.2 : Nat) : Int) = ((tdp (tSe o.toInt wait out).2.1 : Nat) : Int) by omega] at q
    exact q
  · rw [List.length_cons]
    omega
  · rcases List.mem_cons.mp hw with rfl | hw
    · exact ho2
    · exact i4 w (ss w hw)
theorem P39 {v : Int32} : xP (D39 F v m) (fun r m' => m' = m ∧ r.toInt = topr v.toInt) := by
  unfold D39
  refine xP_i (fun c => xP_r ⟨rfl, by rw [xbe_t c]; decide⟩) (fun c37 => ?_)
  refine xP_i (fun c => xP_r ⟨rfl, by rw [xbe_t c]; decide⟩) (fun _ => ?_)
  refine xP_i (fun c => xP_r ⟨rfl, by rw [xbe_t c]; decide⟩) (fun _ => ?_)
  refine xP_i (fun c => xP_r ⟨rfl, by rw [xbe_t c]; decide⟩) (fun _ => ?_)
  refine xP_i (fun c => xP_r ⟨rfl, by rw [xbe_t c]; decide⟩) (fun _ => ?_)
  refine xP_i (fun c => xP_r ⟨rfl, by rw [xbe_t c]; decide⟩) (fun c42 => ?_)
  refine xP_i (fun c => xP_r ⟨rfl, by rw [xbe_t c]; decide⟩) (fun c43 => ?_)
  refine xP_i (fun c => xP_r ⟨rfl, by rw [xbe_t c]; decide⟩) (fun _ => ?_)
  refine xP_i (fun c => xP_r ⟨rfl, by rw [xbe_t c]; decide⟩) (fun c45 => ?_)
  refine xP_i (fun c => xP_r ⟨rfl, by rw [xbe_t c]; decide⟩) (fun _ => ?_)
  refine xP_i (fun c => xP_r ⟨rfl, by rw [xbe_t c]; decide⟩) (fun c47 => xP_r ⟨rfl, ?_⟩)
  have c37 : v.toInt ≠ 37 := xbe_f c37
  have c42 : v.toInt ≠ 42 := xbe_f c42
  have c43 : v.toInt ≠ 43 := xbe_f c43
  have c45 : v.toInt ≠ 45 := xbe_f c45
  have c47 : v.toInt ≠ 47 := xbe_f c47
  unfold topr
  rw [if_neg c43, if_neg c45, if_neg c42, if_neg c47, if_neg c37]
  decide
/-- passHere -/
theorem P55 {ft cc kk dp br ex ww : Int} {c : Int32} (N : kN m0 b n) (hc : c.toInt ≠ -1) (h : kC m0 n p bg ft out wait cc kk dp br ex ww m) : xP (D55_2 F c m) (fun r m' => (tsg b n p = c.toInt ∧ r = 1 ∧ kC m0 n (p + 1) bg ft out wait cc kk dp br ex ww m') ∨ (tsg b n p ≠ c.toInt ∧ r = 0 ∧ kC m0 n p bg ft out wait cc kk dp br ex ww m')) := by
  obtain ⟨k1, k2⟩ := kC_n N h
  have h3 := h.2.2.1
  have n4 := N.2.1
  unfold D55_2 D55_2_24 tsg
  refine xP_i (fun d => xP_r (Or.inr ⟨?_, rfl, h⟩)) (fun d => ?_)
  · have d : (m.1 2 1).toInt ≤ (m.1 2 2).toInt := zt d
    rw [if_neg (by omega)]
    exact fun z => hc z.symm
  · have d : ¬ (m.1 2 1).toInt ≤ (m.1 2 2).toInt := zf d
    refine xP_g (xib_t (by omega) (by omega)) ?_
    rw [kC_i h, if_pos (show p < n by omega), ← k2 p (by omega)]
    refine xP_i (fun e => xP_r (Or.inl ⟨zt e, rfl, ?_⟩)) (fun e => xP_r (Or.inr ⟨zf e, rfl, h⟩))
    exact kC_p h ((xa1 (by show _ ≤ _ + (1 : Int); omega) (by show _ + (1 : Int) ≤ _; omega)).trans (by rw [h3.1]; rfl)) N.2.1 (by omega)
/-- readSign -/
theorem P41 (hF : 500 ≤ F) (N : kN m0 b n) (h : kC m0 n p bg 0 out wait (cl : Int) (k : Int) (tdp wait : Int) (tbr wait : Int) ((3 : Nat) : Int) (wh : Int) m) (i1 : out.length + wait.length + 1 ≤ p) (i2 : k ≤ 60) (i3 : cl ≤ 12) (i4 : ∀ w ∈ wait, 0 ≤ w ∧ w ≤ (13 : Int)) : xP (D41_6_2 F m) (fun _ m' => kR m0 n (tsig b n p k out wait cl) m') := by
  have n4 := N.2.1
  have pn : p ≤ n := h.2.2.1.2
  have g1 : p ≤ tS tbl b n p := tS_ge p
  have d1 := tdp_len wait
  -- behind the sign: join, then a value
  have fin : ∀ {o : Int32} {p' bg' : Nat} {ft : Int} {v2 v3 : Int32} {m : xS}, 4 ≤ o.toInt → o.toInt ≤ 8 → kC m0 n p' bg' ft out wait (cl : Int) ((k + 1 : Nat) : Int) (tdp wait : Int) (tbr wait : Int) ((3 : Nat) : Int) (wh : Int) m → tS tbl b n p + 1 ≤ p' → (ft ≠ 0 ∨ (ft = 0 ∧ k < 60)) → xP ((D45_6 F o m).bind fun q => D41_6_2_104 F v2 v3 q.2) (fun _ m' => kR m0 n (if ft = 0 then .inr (p', k + 1, (tSe o.toInt wait out).1, o.toInt :: (tSe o.toInt wait out).2.1, cl, 2, 2) else .inl ft) m') := by
    intro o p' bg' ft v2 v3 m o1 o2 h lp hf
    have tc : tcl o.toInt = 4 := by
      unfold tcl
      rw [if_neg (by omega), if_pos (by omega)]
    refine xP_b (P45g hF (by rw [tc]; decide) ⟨by omega, by omega⟩ (by omega) h n4 (by omega) i4) (fun _ m1 q => ?_)
    obtain ⟨q1, q2, q3⟩ := q
    unfold D41_6_2_104
    refine xP_r ?_
    have z := kC_ex (v := 2) (x := ((2 : Nat) : Int)) (kC_wh (v := 2) (x := ((2 : Nat) : Int)) q1 rfl) rfl
    rcases hf with hf | ⟨hf, hk⟩
    · rw [if_neg hf]
      exact ⟨hf, _, _, _, _, _, _, _, _, _, _, z⟩
    · subst hf
      rw [if_pos rfl]
      exact ⟨⟨_, z⟩, q2, by show k + 1 ≤ 60; omega, i3, q3⟩
  have mid : ∀ {v2 v3 : Int32} {m : xS}, kC m0 n (tS tbl b n p) bg 0 out wait (cl : Int) (k : Int) (tdp wait : Int) (tbr wait : Int) ((3 : Nat) : Int) (wh : Int) m → v2.toInt = tsg b n (tS tbl b n p) → v3.toInt = (tS tbl b n p : Int) → (tsg b n (tsk b n p) = 60 ∨ tsg b n (tsk b n p) = 61 ∨ tsg b n (tsk b n p) = 62) → xP (D41_6_2_35 F v2 v3 m) (fun _ m' => kR m0 n (tsig b n p k out wait cl) m') := by
    intro v2 v3 m h e2 e3 cs
    have ln : tS tbl b n p < n := by
      rcases cs with c | c | c
      · exact (tsg_lt c (by decide)).1
      · exact (tsg_lt c (by decide)).1
      · exact (tsg_lt c (by decide)).1
    unfold D41_6_2_35 D41_6_2_82 D41_6_2_101
    refine xP_b (P37 (a := v3) h (by omega) (by omega) (by omega) (by omega)) (fun _ m1 q => ?_)
    rw [e3] at q
    have ef : (if (60 : Int) ≤ (k : Int) then trf 0 (1 + 8 * ((tS tbl b n p : Nat) : Int) + 3) else 0) = (if 60 ≤ k then 1 + 8 * ((tS tbl b n p : Nat) : Int) + 3 else 0) := by
      by_cases z : 60 ≤ k
      · rw [if_pos z, if_pos (by omega)]
        exact if_pos rfl
      · rw [if_neg z, if_neg (by omega)]
    rw [ef] at q
    refine xP_b (P54 N q ln) (fun _ m2 q2 => ?_)
    have hf : (if 60 ≤ k then 1 + 8 * ((tS tbl b n p : Nat) : Int) + 3 else 0) ≠ 0 ∨ ((if 60 ≤ k then 1 + 8 * ((tS tbl b n p : Nat) : Int) + 3 else 0) = 0 ∧ k < 60) := by
      by_cases z : 60 ≤ k
      · rw [if_pos z]
        exact Or.inl (by omega)
      · rw [if_neg z]
        exact Or.inr ⟨rfl, by omega⟩
    have tg : ∀ {x : tSt}, kR m0 n (if (if 60 ≤ k then 1 + 8 * ((tS tbl b n p : Nat) : Int) + 3 else 0) = 0 then .inr x else .inl (if 60 ≤ k then 1 + 8 * ((tS tbl b n p : Nat) : Int) + 3 else 0)) = kR m0 n (if 60 ≤ k then .inl (1 + 8 * ((tS tbl b n p : Nat) : Int) + 3) else .inr x) := fun {x} => by
      by_cases z : 60 ≤ k
      · rw [if_pos z, if_pos z, if_neg (by omega)]
      · rw [if_neg z, if_neg z, if_pos rfl]
    have tf : tsig b n p k out wait cl = (if 60 ≤ k then .inl (1 + 8 * (tsk b n p : Int) + 3)
      else if tsg b n (tsk b n p) = 61 then .inr (tsk b n p + 1, k + 1, (tSe 6 wait out).1, 6 :: (tSe 6 wait out).2.1, cl, 2, 2)
      else if tsg b n (tsk b n p + 1) = 61 then .inr (tsk b n p + 2, k + 1, (tSe (if tsg b n (tsk b n p) = 60 then 5 else 7) wait out).1, (if tsg b n (tsk b n p) = 60 then 5 else 7) :: (tSe (if tsg b n (tsk b n p) = 60 then 5 else 7) wait out).2.1, cl, 2, 2)
      else .inr (tsk b n p + 1, k + 1, (tSe (if tsg b n (tsk b n p) = 60 then 4 else 8) wait out).1, (if tsg b n (tsk b n p) = 60 then 4 else 8) :: (tSe (if tsg b n (tsk b n p) = 60 then 4 else 8) wait out).2.1, cl, 2, 2)) := by
      unfold tsig
      rw [if_pos cs]
    dsimp only
    refine xP_i (fun c => ?_) (fun c => ?_)
    · have c : v2.toInt ≠ 61 := zt c
      have c1 : ¬ tsg b n (tsk b n p) = 61 := fun z => c (e2.trans z)
      refine xP_b (P55 (c := 61) N (by decide) q2) (fun r m3 q3 => ?_)
      dsimp only
      rcases q3 with ⟨c2, rfl, q3⟩ | ⟨c2, rfl, q3⟩
      · have c2 : tsg b n (tsk b n p + 1) = 61 := c2
        rw [tf, if_neg c1, if_pos c2]
        refine xP_i (fun d => absurd d (by decide)) (fun _ => ?_)
        refine xP_i (fun d => ?_) (fun d => ?_)
        · have d : v2.toInt ≠ 60 := zt d
          have d1 : ¬ tsg b n (tsk b n p) = 60 := fun z => d (e2.trans z)
          rw [if_neg d1]
          refine xP_m (fin (o := 7) (by decide) (by decide) q3 (by omega) hf) (fun _ m4 q4 => ?_)
          rw [tg] at q4
          exact q4
        · have d : v2.toInt = 60 := Decidable.not_not.mp (zf d)
          have d1 : tsg b n (tsk b n p) = 60 := e2.symm.trans d
          rw [if_pos d1]
          refine xP_m (fin (o := 5) (by decide) (by decide) q3 (by omega) hf) (fun _ m4 q4 => ?_)
          rw [tg] at q4
          exact q4
      · have c2 : ¬ tsg b n (tsk b n p + 1) = 61 := c2
        rw [tf, if_neg c1, if_neg c2]
        refine xP_i (fun _ => ?_) (fun d => absurd d (by decide))
        refine xP_i (fun d => ?_) (fun d => ?_)
        · have d : v2.toInt ≠ 60 := zt d
          have d1 : ¬ tsg b n (tsk b n p) = 60 := fun z => d (e2.trans z)
          rw [if_neg d1]
          refine xP_m (fin (o := 8) (by decide) (by decide) q3 (by omega) hf) (fun _ m4 q4 => ?_)
          rw [tg] at q4
          exact q4
        · have d : v2.toInt = 60 := Decidable.not_not.mp (zf d)
          have d1 : tsg b n (tsk b n p) = 60 := e2.symm.trans d
          rw [if_pos d1]
          refine xP_m (fin (o := 4) (by decide) (by decide) q3 (by omega) hf) (fun _ m4 q4 => ?_)
          rw [tg] at q4
          exact q4
    · have c : v2.toInt = 61 := Decidable.not_not.mp (zf c)
      have c1 : tsg b n (tsk b n p) = 61 := e2.symm.trans c
      rw [tf, if_pos c1]
      refine xP_m (fin (o := 6) (by decide) (by decide) q2 (by omega) hf) (fun _ m4 q4 => ?_)
      rw [tg] at q4
      exact q4
  unfold D41_6_2
  refine xP_b (P53 hF N h) (fun v m1 q => ?_)
  obtain ⟨q, qv⟩ := q
  have h3 := q.2.2.1.1
  dsimp only
  refine xP_i (fun c => mid q qv h3 (Or.inl (qv.symm.trans (zt c)))) (fun c => ?_)
  refine xP_i (fun d => mid q qv h3 (Or.inr (Or.inl (qv.symm.trans (zt d))))) (fun d => ?_)
  refine xP_i (fun e => mid q qv h3 (Or.inr (Or.inr (qv.symm.trans (zt e))))) (fun e => ?_)
  have c : v.toInt ≠ 60 := zf c
  have d : v.toInt ≠ 61 := zf d
  have e : v.toInt ≠ 62 := zf e
  have tf : tsig b n p k out wait cl = .inl (1 + 8 * (tsk b n p : Int)) := by
    unfold tsig
    rw [if_neg (fun z => z.elim (fun z => c (qv.trans z)) (fun z => z.elim (fun z => d (qv.trans z)) (fun z => e (qv.trans z))))]
  rw [tf]
  refine xP_b (P52 q (by omega) (by have := q.2.2.1.2; omega) (by decide) (by decide)) (fun _ m2 q2 => xP_r ?_)
  rw [h3, show trf 0 (1 + 8 * ((tS tbl b n p : Nat) : Int) + (0 : Int32).toInt) = 1 + 8 * ((tS tbl b n p : Nat) : Int) from (if_pos rfl).trans (Int.add_zero _)] at q2
  exact ⟨by show 1 + 8 * ((tS tbl b n p : Nat) : Int) ≠ 0; omega, _, _, _, _, _, _, _, _, _, _, q2⟩
end KJ2
end
section
/-! The class's reader of rules: endFact, readJoint. -/
section KJ3
variable {m0 m : xS} {b : Nat → Int} {n p bg k cl wh : Nat} {out wait : List Int} {F : Nat}
/-- endFact -/
theorem P42 (hF : 500 ≤ F) (N : kN m0 b n) (h : kC m0 n p bg 0 out wait (cl : Int) (k : Int) (tdp wait : Int) (tbr wait : Int) ((3 : Nat) : Int) (wh : Int) m) (i1 : out.length + wait.length + 1 ≤ p) (i2 : k ≤ 60) (i3 : cl ≤ 12) (i4 : ∀ w ∈ wait, 0 ≤ w ∧ w ≤ (13 : Int)) : xP (D42_6_2 F m) (fun _ m' => kR m0 n (tenf b n p k out wait cl wh) m') := by
  have n4 := N.2.1
  have pn : p ≤ n := h.2.2.1.2
  have g1 : p ≤ tS tbl b n p := tS_ge p
  have jn : ∀ {o : Int32} {v2 : Int32} {p' bg' : Nat} {m : xS}, (o.toInt = 1 ∨ o.toInt = 2) → kC m0 n p' bg' 0 out wait (cl : Int) (k : Int) (tdp wait : Int) (tbr wait : Int) ((3 : Nat) : Int) (wh : Int) m → p + 1 ≤ p' → xP (D42_6_2_22 F v2 o m) (fun _ m' => kR m0 n (.inr (p', k, (tSe o.toInt wait out).1, o.toInt :: (tSe o.toInt wait out).2.1, cl, 1, wh)) m') := by
    intro o v2 p' bg' m ho h lp
    have tc : 1 ≤ tcl o.toInt := by
      unfold tcl
      rw [if_pos (by omega)]
      omega
    unfold D42_6_2_22
    refine xP_b (P45g hF tc ⟨by omega, by omega⟩ (by omega) h n4 (by omega) i4) (fun _ m1 q => xP_r ?_)
    obtain ⟨q1, q2, q3⟩ := q
    exact ⟨⟨_, kC_ex (x := ((1 : Nat) : Int)) q1 rfl⟩, q2, i2, i3, q3⟩
  unfold D42_6_2
  refine xP_b (P59_1006 hF N h) (fun r m1 q => ?_)
  dsimp only
  unfold tenf
  rcases q with ⟨u, a1, a2, a3⟩ | ⟨a1, a2, a3⟩
  · have e4 : 2 ≤ tS tlt b n (tS tbl b n p) - tS tbl b n p := by
      rcases tix2 a1 with z | z
      · have := tw_eq z.1
        have : (tAnd : List Int).length = 3 := rfl
        omega
      · have := tw_eq z.1
        have : (tOr : List Int).length = 2 := rfl
        omega
    have u2 : u = 0 ∨ u = 1 := by
      rcases tix2 a1 with z | z
      · exact Or.inl z.2
      · exact Or.inr z.2
    have a1 : tix (twd b n p) tw1006 = some u := a1
    rw [a1]
    refine xP_i (fun d => ?_) (fun _ => ?_)
    · have d : r.toInt = -1 := zt d
      omega
    · refine xP_i (fun d => ?_) (fun d => ?_)
      · have d : r.toInt ≠ 0 := zt d
        dsimp only
        rw [if_neg (by omega)]
        exact jn (o := 1) (Or.inl rfl) a3 (by show p + 1 ≤ tS tlt b n (tS tbl b n p); omega)
      · have d : r.toInt = 0 := Decidable.not_not.mp (zf d)
        dsimp only
        rw [if_pos (by omega)]
        exact jn (o := 2) (Or.inr rfl) a3 (by show p + 1 ≤ tS tlt b n (tS tbl b n p); omega)
  · have a1 : tix (twd b n p) tw1006 = none := a1
    have h11 := a3.2.2.2.2.2.2.2.2.2.2.1
    rw [a1]
    dsimp only
    refine xP_i (fun _ => ?_) (fun d => ?_)
    · refine xP_i (fun c => ?_) (fun c => ?_)
      · have c : (m1.1 6 7).toInt ≠ 0 := zt c
        have c0 : tbr wait ≠ 0 := fun z => c (by rw [h11, z]; rfl)
        rw [if_neg c0]
        refine xP_b (P53 hF N a3) (fun v m2 q2 => ?_)
        rw [tS_id] at q2
        obtain ⟨q2, qv⟩ := q2
        have h3 := q2.2.2.1
        dsimp only
        refine xP_i (fun d => ?_) (fun d => ?_)
        · have d : v.toInt ≠ 93 := zt d
          rw [if_neg (fun z => d (qv.trans z))]
          refine xP_b (P52 q2 (by omega) (by omega) (by decide) (by decide)) (fun _ m3 q3 => xP_r ?_)
          rw [h3.1, show trf 0 (1 + 8 * ((tS tbl b n p : Nat) : Int) + (0 : Int32).toInt) = 1 + 8 * ((tS tbl b n p : Nat) : Int) from (if_pos rfl).trans (Int.add_zero _)] at q3
          exact ⟨by show 1 + 8 * ((tS tbl b n p : Nat) : Int) ≠ 0; omega, _, _, _, _, _, _, _, _, _, _, q3⟩
        · have d : v.toInt = 93 := Decidable.not_not.mp (zf d)
          obtain ⟨ln, -⟩ := tsg_lt (qv.symm.trans d) (by decide)
          rw [if_pos (qv.symm.trans d)]
          refine xP_b (P54 N q2 ln) (fun _ m3 q3 => ?_)
          exact xP_b (P43 hF N q3 (by omega) i2 i3 i4 c0) (fun _ m4 q4 => xP_r q4)
      · have c : (m1.1 6 7).toInt = 0 := Decidable.not_not.mp (zf c)
        have c0 : tbr wait = 0 := by omega
        rw [if_pos c0]
        have z := P44 (F := F) (a := 15) hF N a3 (by omega) i2 i3 i4
        rw [show (15 : Int32).toInt = 15 from rfl, tendc_id] at z
        exact xP_b z (fun _ m2 q2 => xP_r q2)
    · have d : r.toInt ≠ -1 := zf d
      exact absurd a2 d
/-- readJoint -/
theorem P38 (hF : 500 ≤ F) (N : kN m0 b n) (h : kC m0 n p bg 0 out wait (cl : Int) (k : Int) (tdp wait : Int) (tbr wait : Int) ((3 : Nat) : Int) (wh : Int) m) (I : kI (p, k, out, wait, cl, 3, wh)) : xP (D38_6_2 F m) (fun _ m' => kR m0 n (tjnt b n p k out wait cl wh) m') := by
  obtain ⟨i1, i2, i3, i4⟩ := I
  have i1 : out.length + wait.length + 1 ≤ p := i1
  have i2 : k ≤ 60 := i2
  have i3 : cl ≤ 12 := i3
  have i4 : ∀ w ∈ wait, 0 ≤ w ∧ w ≤ (13 : Int) := i4
  have n4 := N.2.1
  have pn : p ≤ n := h.2.2.1.2
  have g1 : p ≤ tS tbl b n p := tS_ge p
  have h13 := h.2.2.2.2.2.2.2.2.2.2.2.2
  unfold D38_6_2 D38_6_2_19
  refine xP_i (fun c => ?_) (fun c => ?_)
  · have c : (m.1 6 9).toInt ≠ 3 := zt c
    have w3 : wh ≠ 3 := fun z => c (by rw [h13, z]; rfl)
    refine xP_b (P53 hF N h) (fun v m1 q => ?_)
    obtain ⟨q, qv⟩ := q
    refine xP_b P39 (fun r mx q1 => ?_)
    obtain ⟨rfl, q1⟩ := q1
    dsimp only at q1 ⊢
    rw [qv] at q1
    have h13 := q.2.2.2.2.2.2.2.2.2.2.2.2
    refine xP_i (fun d => ?_) (fun d => ?_)
    · have d : r.toInt = -1 := zt d
      have tf : tjnt b n p k out wait cl wh = (if wh = 0 then tena b n p k out wait cl wh else if wh = 1 then tsig b n p k out wait cl else tenf b n p k out wait cl wh) := by
        unfold tjnt
        rw [if_neg (fun z => z.2 (q1.symm.trans d))]
      rw [tf]
      refine xP_i (fun e => ?_) (fun e => ?_)
      · have e : (mx.1 6 9).toInt ≠ 0 := zt e
        rw [if_neg (show ¬ wh = 0 from fun z => e (by rw [h13, z]; rfl))]
        refine xP_i (fun g => ?_) (fun g => ?_)
        · have g : (mx.1 6 9).toInt ≠ 1 := zt g
          rw [if_neg (show ¬ wh = 1 from fun z => g (by rw [h13, z]; rfl))]
          have z := P42 (F := F) hF N q (by omega) i2 i3 i4
          rw [tenf_id] at z
          exact xP_b z (fun _ m2 q2 => xP_r q2)
        · have g : (mx.1 6 9).toInt = 1 := Decidable.not_not.mp (zf g)
          rw [if_pos (show wh = 1 by omega)]
          have z := P41 (F := F) hF N q (by omega) i2 i3 i4
          rw [tsig_id] at z
          exact xP_b z (fun _ m2 q2 => xP_r q2)
      · have e : (mx.1 6 9).toInt = 0 := Decidable.not_not.mp (zf e)
        rw [if_pos (show wh = 0 by omega)]
        have z := P40 (F := F) hF N q (by omega) i2 i3 i4
        rw [tena_id] at z
        exact xP_b z (fun _ m2 q2 => xP_r q2)
    · have d : r.toInt ≠ -1 := zf d
      have tn : topr (tsg b n (tS tbl b n p)) ≠ -1 := fun z => d (q1.trans z)
      have ln : tS tbl b n p < n := by
        by_cases z : tS tbl b n p < n
        · exact z
        · refine absurd ?_ tn
          unfold tsg
          rw [if_neg z]
          decide
      have tr : r.toInt = 9 ∨ r.toInt = 10 ∨ r.toInt = 11 ∨ r.toInt = 12 ∨ r.toInt = 13 := by
        rw [q1]
        unfold topr at tn ⊢
        split
        · exact Or.inl rfl
        · split
          · exact Or.inr (Or.inl rfl)
          · split
            · exact Or.inr (Or.inr (Or.inl rfl))
            · split
              · exact Or.inr (Or.inr (Or.inr (Or.inl rfl)))
              · split
                · exact Or.inr (Or.inr (Or.inr (Or.inr rfl)))
                · next a1 a2 a3 a4 a5 => exact absurd (by rw [if_neg a1, if_neg a2, if_neg a3, if_neg a4, if_neg a5]) tn
      have tc : 1 ≤ tcl r.toInt := by rcases tr with z | z | z | z | z <;> (rw [z]; decide)
      have tf : tjnt b n p k out wait cl wh = .inr (tsk b n p + 1, k, (tSe r.toInt wait out).1, r.toInt :: (tSe r.toInt wait out).2.1, cl, 2, wh) := by
        unfold tjnt
        rw [if_pos ⟨w3, tn⟩, q1]
      rw [tf]
      refine xP_b (P54 N q ln) (fun _ m2 q2 => ?_)
      refine xP_b (P45g hF tc ⟨by omega, by omega⟩ (by omega) q2 n4 (by omega) i4) (fun _ m3 q3 => xP_r ?_)
      obtain ⟨q3, q4, q5⟩ := q3
      exact ⟨⟨_, kC_ex (x := ((2 : Nat) : Int)) q3 rfl⟩, q4, i2, i3, q5⟩
  · have c : (m.1 6 9).toInt = 3 := Decidable.not_not.mp (zf c)
    have w3 : wh = 3 := by omega
    have tf : tjnt b n p k out wait cl wh = tenf b n p k out wait cl wh := by
      unfold tjnt
      rw [if_neg (fun z => z.1 w3), if_neg (by omega), if_neg (by omega)]
    rw [tf]
    refine xP_i (fun _ => ?_) (fun d => absurd d (by decide))
    refine xP_i (fun _ => ?_) (fun e => ?_)
    · refine xP_i (fun _ => ?_) (fun e => ?_)
      · exact xP_b (P42 hF N h i1 i2 i3 i4) (fun _ m2 q2 => xP_r q2)
      · have e : (m.1 6 9).toInt = 1 := Decidable.not_not.mp (zf e)
        omega
    · have e : (m.1 6 9).toInt = 0 := Decidable.not_not.mp (zf e)
      omega
end KJ3
/-- what is expected is one of five -/
theorem tstp_ex {b : Nat → Int} {n : Nat} {s s' : tSt} (h : tstp b n s = .inr s') : s'.2.2.2.2.2.1 ≤ 4 := by
  have hv : ∀ {p k : Nat} {out wait : List Int} {cl wh : Nat}, tvs b n p k out wait cl wh = .inr s' → s'.2.2.2.2.2.1 ≤ 4 := fun {p k out wait cl wh} h => by
    unfold tvs at h
    split at h
    · cases h
    · cases h
      exact (by decide : (3 : Nat) ≤ 4)
  have hc : ∀ {a : Int} {p k : Nat} {out wait : List Int} {cl wh : Nat}, tendc b n a p k out wait cl wh = .inr s' → s'.2.2.2.2.2.1 ≤ 4 := fun {a p k out wait cl wh} h => by
    unfold tendc at h
    split at h
    · cases h
      exact Nat.zero_le _
    · split at h
      · cases h
        exact Nat.le_refl _
      · cases h
  unfold tstp at h
  split at h
  · unfold tlnd at h
    split at h
    · cases h
    · split at h
      · cases h
      · cases h
        exact (by decide : (2 : Nat) ≤ 4)
  · split at h
    · unfold tfac at h
      split at h
      · split at h
        · cases h
        · cases h
          exact (by decide : (1 : Nat) ≤ 4)
      · split at h
        · split at h
          · cases h
          · cases h
            exact (by decide : (1 : Nat) ≤ 4)
        · exact hv h
    · split at h
      · exact hv h
      · split at h
        · unfold tjnt at h
          split at h
          · cases h
            exact (by decide : (2 : Nat) ≤ 4)
          · split at h
            · unfold tena at h
              split at h
              · cases h
                exact (by decide : (1 : Nat) ≤ 4)
              · exact hc h
            · split at h
              · unfold tsig at h
                split at h
                · split at h
                  · cases h
                  · split at h
                    · cases h
                      exact (by decide : (2 : Nat) ≤ 4)
                    · split at h
                      · cases h
                        exact (by decide : (2 : Nat) ≤ 4)
                      · cases h
                        exact (by decide : (2 : Nat) ≤ 4)
                · cases h
              · unfold tenf at h
                split at h
                · cases h
                  exact (by decide : (1 : Nat) ≤ 4)
                · split at h
                  · exact hc h
                  · split at h
                    · cases h
                      exact (by decide : (3 : Nat) ≤ 4)
                    · cases h
        · cases h
end
section
/-! The class's readRule: its loop runs the machine. -/
section YTL
variable {hp hp0 hp' : zHp} {ev : zEv} {d nL : Nat} {rt : Option FieldType} {cd : List (Option zEn)} {r : zRe} {pc : Nat} {lv : List (Nat × Value)}
theorem h_tail2 (hd : 8 ≤ d) (H : yH0 hp) (hN : hp.1 + 3 ≤ zSC) (l0 : zld lv 0 = some (.ref 6)) (l1 : zld lv 1 = some (.ref 2)) : ∃ x : zRe, zR none d 3 yRT zc33 (117, lv, []) hp x ∧ hp.1 ≤ x.2.1 ∧ ((x = (some .null, hp) ∧ (xof hp).1 2 4 ≠ 0) ∨ ∃ hp5, x = (some (.ref hp.1), hp5) ∧ yNw hp hp5 ∧ (xof hp).1 2 4 = 0) := by
  have head : ∀ {r : zRe}, zR none d 3 yRT zc33 (121, lv, [.int (if (xof hp).1 2 4 = 0 then 1 else 0)]) hp r → zR none d 3 yRT zc33 (117, lv, []) hp r := by
    intro r K
    refine q_lr (k := 1) (i := 1) (q := (.aload_n 1, 1, 0, 0, .null)) rfl (fun _ => rfl) l1 ?_
    exact r_call (ix := 2) (as := []) (rest := []) (rv := some (.int (if (xof hp).1 2 4 = 0 then 1 else 0))) (hp' := hp) (pc := 118) rfl xr51 rfl rfl rfl (h_kd H (by decide)) (Nat.le_of_ble_eq_true rfl) (h_snd H (by omega)) (Nat.le_refl _) K
  by_cases c3 : (xof hp).1 2 4 = 0
  · rw [if_pos c3] at head
    obtain ⟨i1, i2, -, f7, h7⟩ := xta_ok H (show xta 7 0 400 = true by decide)
    have n7 : ¬ 7 = hp.1 := by omega
    obtain ⟨j1, j2, fs6, x6, h6, k6⟩ := xti_ok H (show xti 6 5 1 = true by decide)
    obtain ⟨-, -, fs6b, h6b, k6b⟩ := xtr_ok H (show xtr 6 5 0 7 = true by decide)
    have n6 : ¬ 6 = hp.1 := by omega
    have b6 := xT_of H 6 1 (0, 400) rfl
    have e6 : (xof hp).1 6 1 = x6 := by
      unfold xof
      dsimp only
      rw [h6]
      dsimp only
      rw [k6]
    rw [e6] at b6
    have b61 : (0 : Int) ≤ x6.toInt := b6.1
    have b62 : x6.toInt ≤ 400 := b6.2
    have hN1 : hp.1 < zSC := by omega
    obtain ⟨n, g, hn, z⟩ := h_cpy (d := d) (hp := (hp.1 + 1, zup hp.2 hp.1 (.inr (4, [.null, .null])))) (f := f7) (L := x6) ((zupo n7).trans h7) (by show 7 < hp.1 + 1; omega) (by show hp.1 + 1 < zSC; omega) ⟨b61, b62⟩ (by omega)
    have e7 : (xof hp).1 7 = f7 := by
      funext j
      unfold xof
      dsimp only
      rw [h7]
    have hn : n ≤ 400 ∧ (n = ((xof hp).1 6 1).toInt.toNat ∧ ∀ j, j < n → g j = (xof hp).1 7 j) := ⟨hn.1, by rw [e6]; exact hn.2.1, fun j hj => by rw [e7]; exact hn.2.2 j hj⟩
    have z2 := h_ini (d := d) (hp := (hp.1 + 2, zup (zup hp.2 hp.1 (.inr (4, [.null, .null]))) (hp.1 + 1) (.inl (0, n, .inl g)))) (a := hp.1) (b := hp.1 + 1) (by show hp.1 < hp.1 + 2; omega) ((zupo (by omega)).trans zups) (by show hp.1 + 2 < zSC; omega) (by omega)
    refine ⟨(some (.ref hp.1), (hp.1 + 3, zup (zup (zup (zup hp.2 hp.1 (.inr (4, [.null, .null]))) (hp.1 + 1) (.inl (0, n, .inl g))) (hp.1 + 2) (.inl (3, 64, .inr (.inl (fun _ => 0))))) hp.1 (.inr (4, [.ref (hp.1 + 1), .ref (hp.1 + 2)])))), head (r_if (len := 3) (a := 145) (b := 0) (v0 := .null) (cn := .eq) (off := 24) rfl (fun c => absurd (zeq c) (by decide)) (fun _ => ?_)), Nat.le_add_right _ 3, Or.inr ⟨_, rfl, ⟨n, g, fun _ => 0, hn, rfl, zups, ((zupo (by omega)).trans (zupo (by omega))).trans zups, (zupo (by omega)).trans zups, fun i a1 a2 a3 => (((zupo a1).trans (zupo a3)).trans (zupo a2)).trans (zupo a1)⟩, c3⟩⟩
    · refine r_s (fr' := (127, lv, [.ref hp.1])) (hp' := (hp.1 + 1, zup hp.2 hp.1 (.inr (4, [.null, .null])))) (q := (.new 59, 3, 4, 0, .null)) rfl (fun call => ?_) (Nat.le_succ _) ?_
      · show zNew 4 zdf4 (124, lv, []) hp = _
        unfold zNew
        rw [if_pos hN1]
        rfl
      refine r_s (fr' := (128, lv, [.ref hp.1, .ref hp.1])) (hp' := (hp.1 + 1, zup hp.2 hp.1 (.inr (4, [.null, .null])))) (q := (.dup, 1, 0, 0, .null)) rfl (fun _ => rfl) (Nat.le_refl _) ?_
      refine q_lr (k := 1) (i := 0) (q := (.aload_n 0, 1, 0, 0, .null)) rfl (fun _ => rfl) l0 ?_
      refine r_get (pc := 129) (ix := 6) (fs := fs6b) rfl (by decide) ⟨by show 6 < hp.1 + 1; omega, j2⟩ ((zupo n6).trans h6b) k6b ?_
      refine q_lr (k := 1) (i := 0) (q := (.aload_n 0, 1, 0, 0, .null)) rfl (fun _ => rfl) l0 ?_
      refine r_get (pc := 133) (ix := 6) (fs := fs6) rfl (by decide) ⟨by show 6 < hp.1 + 1; omega, j2⟩ ((zupo n6).trans h6) k6 ?_
      refine r_callS (as := [.ref 7, .int x6]) (rest := [.ref hp.1, .ref hp.1]) (rv := some (.ref (hp.1 + 1))) (pc := 136) rfl xr292 rfl rfl rfl (Nat.le_of_ble_eq_true rfl) z (Nat.le_succ _) ?_
      refine r_callI (ix := hp.1) (as := [.ref (hp.1 + 1)]) (rest := [.ref hp.1]) (rv := none) (pc := 139) rfl xr25 rfl rfl rfl hN1 (Nat.le_of_ble_eq_true rfl) z2 (Nat.le_succ _) ?_
      refine r_s (fr' := (146, lv, [.ref hp.1])) (q := (.goto 4, 3, 146, 0, .null)) rfl (fun _ => rfl) (Nat.le_refl _) ?_
      exact r_ret (q := (.areturn, 1, 0, 0, .null)) rfl rfl (fun _ => rfl)
  · rw [if_neg c3] at head
    refine ⟨(some .null, hp), head (r_if (len := 3) (a := 145) (b := 0) (v0 := .null) (cn := .eq) (off := 24) rfl (fun _ => ?_) (fun c => absurd rfl (zneq c))), Nat.le_refl _, Or.inl ⟨rfl, c3⟩⟩
    refine r_s (fr' := (146, lv, [.null])) (hp' := hp) (q := (.aconst_null, 1, 0, 0, .null)) rfl (fun _ => rfl) (Nat.le_refl _) ?_
    exact r_ret (q := (.areturn, 1, 0, 0, .null)) rfl rfl (fun _ => rfl)
end YTL
theorem xof_f {B : zHp} (H : yH0 B) {m : xS} {ix a b : Nat} (ht : xti ix a b = true) : (xof (xW B m)).1 ix b = m.1 ix b := by
  obtain ⟨-, -, fs, x, h3, h4⟩ := xti_ok H ht
  unfold xof
  dsimp only
  rw [xW_o h3]
  dsimp only
  rw [xf_i h4]
def trun (b : Nat → Int) (n : Nat) : Nat → tSt → Int ⊕ tSt
  | 0, s => .inr s
  | f + 1, s => if s.2.2.2.2.2.1 = 4 then .inr s else match tstp b n s with
    | .inl x => .inl x
    | .inr s' => trun b n f s'
def kL (m0 : xS) (n : Nat) (s : tSt) (m : xS) : Prop := (∃ (bg : Nat) (ww : Int), kC m0 n s.1 bg 0 s.2.2.1 s.2.2.2.1 (s.2.2.2.2.1 : Int) (s.2.1 : Int) (tdp s.2.2.2.1 : Int) (tbr s.2.2.2.1 : Int) (s.2.2.2.2.2.1 : Int) ww m ∧ (s.2.2.2.2.2.1 ≠ 0 → ww = (s.2.2.2.2.2.2 : Int))) ∧ kI s ∧ s.2.2.2.2.2.1 ≤ 4
def kE (m0 : xS) (n : Nat) (r : Int ⊕ tSt) (m : xS) : Prop := match r with
  | .inl f => f ≠ 0 ∧ kF m0 n f m
  | .inr s => kL m0 n s m
section KRR
variable {B : zHp} {m0 : xS} {b : Nat → Int} {n d : Nat}
theorem kgt {i : Int32} : zcmp .gt i 400 = true ∨ zcmp .gt i 400 = false := by
  cases zcmp .gt i 400 with
  | true => exact Or.inl rfl
  | false => exact Or.inr rfl
theorem kX (H : yH0 B) (X : yTx B) (hd : 8 ≤ d) {f : Int} {m : xS} {lv : List (Nat × Value)} {i : Int32} (h : kF m0 n f m) (hf : f ≠ 0) (l0 : zld lv 0 = some (.ref 6)) (l1 : zld lv 1 = some (.ref 2)) (l2 : zld lv 2 = some (.int i)) {r : zRe} (K : zR none d 3 yRT zc33 (117, lv, []) (xW B m) r) : zR none d 3 yRT zc33 (37, lv, []) (xW B m) r := by
  obtain ⟨p, bg, out, wait, cl, k, dp, br, ex, wh, h⟩ := h
  have h5 := h.2.2.2.2.1
  refine q_li (k := 1) (i := 2) (q := (.iload_n 2, 1, 0, 0, .null)) rfl (fun _ => rfl) l2 ?_
  refine r_s (fr' := (41, lv, [.int 400, .int i])) (hp' := xW B m) (q := (.sipush 400, 3, 0, 0, .null)) rfl (fun _ => rfl) (Nat.le_refl _) ?_
  refine r_ifc (len := 3) (a := 117) (b := 0) (v0 := .null) (cn := .gt) (off := 76) rfl (fun _ => K) (fun _ => ?_)
  refine q_lr (k := 1) (i := 0) (q := (.aload_n 0, 1, 0, 0, .null)) rfl (fun _ => rfl) l0 ?_
  refine r_gi (v := m.1 6 8) H (pc := 45) (i := _) rfl (by decide) (by decide) rfl ?_
  refine r_s (fr' := (49, lv, [.int 4, .int (m.1 6 8)])) (hp' := xW B m) (q := (.iconst 4, 1, 0, 0, .null)) rfl (fun _ => rfl) (Nat.le_refl _) ?_
  refine r_ifc (len := 3) (a := 117) (b := 0) (v0 := .null) (cn := .eq) (off := 68) rfl (fun _ => K) (fun _ => ?_)
  refine q_lr (k := 1) (i := 1) (q := (.aload_n 1, 1, 0, 0, .null)) rfl (fun _ => rfl) l1 ?_
  have e : D51_2 500 m = some (0, m) := by
    unfold D51_2
    rw [if_pos]
    exact (yhl_cmp .ne (m.1 2 4) 0).mpr (by show (m.1 2 4).toInt ≠ 0; rw [h5]; exact hf)
  refine r_call (ix := 2) (as := []) (rest := []) (rv := some (.int 0)) (hp' := xW B m) (pc := 53) rfl xr51 rfl rfl rfl (xkd H (by decide)) (Nat.le_of_ble_eq_true rfl) (Z51_2 H X e (by omega)) (Nat.le_refl _) ?_
  exact r_if (len := 3) (a := 117) (b := 0) (v0 := .null) (cn := .eq) (off := 61) rfl (fun _ => K) (fun c => absurd c (by decide))
theorem krr (H : yH0 B) (X : yTx B) (hd : 10 ≤ d) (N : kN m0 b n) : ∀ (f : Nat) {s : tSt} {m : xS} {lv : List (Nat × Value)} {i : Int32}, kL m0 n s m → i.toInt + (f : Int) = 401 → 0 ≤ i.toInt → zld lv 0 = some (.ref 6) → zld lv 1 = some (.ref 2) → zld lv 2 = some (.int i) → ∃ m' lv', kE m0 n (trun b n f s) m' ∧ zld lv' 0 = some (.ref 6) ∧ zld lv' 1 = some (.ref 2) ∧ ∀ r, zR none d 3 yRT zc33 (117, lv', []) (xW B m') r → zR none d 3 yRT zc33 (37, lv, []) (xW B m) r := by
  intro f
  induction f with
  | zero =>
    intro s m lv i h hi i0 l0 l1 l2
    refine ⟨m, lv, h, l0, l1, fun r K => ?_⟩
    refine q_li (k := 1) (i := 2) (q := (.iload_n 2, 1, 0, 0, .null)) rfl (fun _ => rfl) l2 ?_
    refine r_s (fr' := (41, lv, [.int 400, .int i])) (hp' := xW B m) (q := (.sipush 400, 3, 0, 0, .null)) rfl (fun _ => rfl) (Nat.le_refl _) ?_
    refine r_ifc (len := 3) (a := 117) (b := 0) (v0 := .null) (cn := .gt) (off := 76) rfl (fun _ => K) (fun c => ?_)
    have c : ¬ (400 : Int) < i.toInt := zf c
    omega
  | succ f ih =>
    intro s m lv i h hi i0 l0 l1 l2
    obtain ⟨⟨bg, ww, hC, hw⟩, hI, hx⟩ := h
    have h5 := hC.2.2.2.2.1
    have h12 := hC.2.2.2.2.2.2.2.2.2.2.2.1
    have head : ∀ {r : zRe}, zR none d 3 yRT zc33 (49, lv, [.int 4, .int (m.1 6 8)]) (xW B m) r → zR none d 3 yRT zc33 (37, lv, []) (xW B m) r := by
      intro r K
      refine q_li (k := 1) (i := 2) (q := (.iload_n 2, 1, 0, 0, .null)) rfl (fun _ => rfl) l2 ?_
      refine r_s (fr' := (41, lv, [.int 400, .int i])) (hp' := xW B m) (q := (.sipush 400, 3, 0, 0, .null)) rfl (fun _ => rfl) (Nat.le_refl _) ?_
      refine r_ifc (len := 3) (a := 117) (b := 0) (v0 := .null) (cn := .gt) (off := 76) rfl (fun c => ?_) (fun _ => ?_)
      · have c : (400 : Int) < i.toInt := zt c
        omega
      refine q_lr (k := 1) (i := 0) (q := (.aload_n 0, 1, 0, 0, .null)) rfl (fun _ => rfl) l0 ?_
      refine r_gi (v := m.1 6 8) H (pc := 45) (i := _) rfl (by decide) (by decide) rfl ?_
      exact r_s (fr' := (49, lv, [.int 4, .int (m.1 6 8)])) (hp' := xW B m) (q := (.iconst 4, 1, 0, 0, .null)) rfl (fun _ => rfl) (Nat.le_refl _) K
    by_cases x4 : s.2.2.2.2.2.1 = 4
    · refine ⟨m, lv, ?_, l0, l1, fun r K => head (r_ifc (len := 3) (a := 117) (b := 0) (v0 := .null) (cn := .eq) (off := 68) rfl (fun _ => K) (fun c => ?_))⟩
      · unfold trun
        rw [if_pos x4]
        exact ⟨⟨bg, ww, hC, hw⟩, hI, hx⟩
      · have c : ¬ (m.1 6 8).toInt = 4 := zf c
        exact absurd (h12.trans (by rw [x4]; rfl)) c
    · have head2 : ∀ {r : zRe}, zR none d 3 yRT zc33 (59, lv, []) (xW B m) r → zR none d 3 yRT zc33 (37, lv, []) (xW B m) r := by
        intro r K
        refine head (r_ifc (len := 3) (a := 117) (b := 0) (v0 := .null) (cn := .eq) (off := 68) rfl (fun c => ?_) (fun _ => ?_))
        · have c : (m.1 6 8).toInt = 4 := zt c
          omega
        refine q_lr (k := 1) (i := 1) (q := (.aload_n 1, 1, 0, 0, .null)) rfl (fun _ => rfl) l1 ?_
        have e : D51_2 500 m = some (1, m) := by
          unfold D51_2
          rw [if_neg]
          intro z
          exact ((yhl_cmp .ne (m.1 2 4) 0).mp z : (m.1 2 4).toInt ≠ 0) h5
        refine r_call (ix := 2) (as := []) (rest := []) (rv := some (.int 1)) (hp' := xW B m) (pc := 53) rfl xr51 rfl rfl rfl (xkd H (by decide)) (Nat.le_of_ble_eq_true rfl) (Z51_2 H X e (by omega)) (Nat.le_refl _) ?_
        exact r_if (len := 3) (a := 117) (b := 0) (v0 := .null) (cn := .eq) (off := 61) rfl (fun c => absurd c (by decide)) (fun _ => K)
      -- a turn
      have turn : ∃ m2 : xS, kR m0 n (tstp b n s) m2 ∧ ∀ r, zR none d 3 yRT zc33 (111, lv, []) (xW B m2) r → zR none d 3 yRT zc33 (59, lv, []) (xW B m) r := by
        obtain ⟨p, k, out, wait, cl, ex, wh⟩ := s
        dsimp only at hC hw hx x4 h12
        have rd : ∀ {r : zRe} {pc : Nat} {rest : List Value} {ix len : Nat}, zg zc33 pc = some (.getfield ix, len, 5, 8, .null) → zR none d 3 yRT zc33 (pc + 3, lv, .int (m.1 6 8) :: rest) (xW B m) r → zR none d 3 yRT zc33 (pc, lv, .ref 6 :: rest) (xW B m) r := fun {r pc rest ix len} hq K => r_gi (v := m.1 6 8) H hq (by decide) (by decide) rfl K
        by_cases d0 : ex = 0
        · subst d0
          obtain ⟨x, e, hq⟩ := P34 (F := 500) (Nat.le_refl _) N hC hI
          refine ⟨x.2, hq, fun r K => ?_⟩
          refine q_lr (k := 1) (i := 0) (q := (.aload_n 0, 1, 0, 0, .null)) rfl (fun _ => rfl) l0 ?_
          refine rd (pc := 60) rfl ?_
          refine r_if (len := 3) (a := 74) (b := 0) (v0 := .null) (cn := .ne) (off := 11) rfl (fun c => absurd h12 (zt c)) (fun _ => ?_)
          refine q_lr (k := 1) (i := 0) (q := (.aload_n 0, 1, 0, 0, .null)) rfl (fun _ => rfl) l0 ?_
          refine q_lr (k := 1) (i := 1) (q := (.aload_n 1, 1, 0, 0, .null)) rfl (fun _ => rfl) l1 ?_
          refine r_call (ix := 6) (as := [.ref 2]) (rest := []) (rv := none) (hp' := xW B x.2) (pc := 68) rfl xr34 rfl rfl rfl (xkd H (by decide)) (Nat.le_of_ble_eq_true rfl) (Z34_6_2 H X e (by omega)) (Nat.le_refl _) ?_
          exact r_s (fr' := (111, lv, [])) (hp' := xW B x.2) (q := (.goto 40, 3, 111, 0, .null)) rfl (fun _ => rfl) (Nat.le_refl _) K
        · have hw := hw d0
          rw [hw] at hC
          have h74 : ∀ {r : zRe}, zR none d 3 yRT zc33 (74, lv, []) (xW B m) r → zR none d 3 yRT zc33 (59, lv, []) (xW B m) r := by
            intro r K
            refine q_lr (k := 1) (i := 0) (q := (.aload_n 0, 1, 0, 0, .null)) rfl (fun _ => rfl) l0 ?_
            refine rd (pc := 60) rfl ?_
            refine r_if (len := 3) (a := 74) (b := 0) (v0 := .null) (cn := .ne) (off := 11) rfl (fun _ => K) (fun c => ?_)
            have c : (m.1 6 8).toInt = 0 := Decidable.not_not.mp (zf c)
            omega
          by_cases d1 : ex = 1
          · subst d1
            obtain ⟨x, e, hq⟩ := P35 (F := 500) (Nat.le_refl _) N hC hI
            refine ⟨x.2, hq, fun r K => h74 ?_⟩
            refine q_lr (k := 1) (i := 0) (q := (.aload_n 0, 1, 0, 0, .null)) rfl (fun _ => rfl) l0 ?_
            refine rd (pc := 75) rfl ?_
            refine r_s (fr' := (79, lv, [.int 1, .int (m.1 6 8)])) (hp' := xW B m) (q := (.iconst 1, 1, 0, 0, .null)) rfl (fun _ => rfl) (Nat.le_refl _) ?_
            refine r_ifc (len := 3) (a := 90) (b := 0) (v0 := .null) (cn := .ne) (off := 11) rfl (fun c => absurd h12 (zt c)) (fun _ => ?_)
            refine q_lr (k := 1) (i := 0) (q := (.aload_n 0, 1, 0, 0, .null)) rfl (fun _ => rfl) l0 ?_
            refine q_lr (k := 1) (i := 1) (q := (.aload_n 1, 1, 0, 0, .null)) rfl (fun _ => rfl) l1 ?_
            refine r_call (ix := 6) (as := [.ref 2]) (rest := []) (rv := none) (hp' := xW B x.2) (pc := 84) rfl xr35 rfl rfl rfl (xkd H (by decide)) (Nat.le_of_ble_eq_true rfl) (Z35_6_2 H X e (by omega)) (Nat.le_refl _) ?_
            exact r_s (fr' := (111, lv, [])) (hp' := xW B x.2) (q := (.goto 24, 3, 111, 0, .null)) rfl (fun _ => rfl) (Nat.le_refl _) K
          · have h90 : ∀ {r : zRe}, zR none d 3 yRT zc33 (90, lv, []) (xW B m) r → zR none d 3 yRT zc33 (59, lv, []) (xW B m) r := by
              intro r K
              refine h74 ?_
              refine q_lr (k := 1) (i := 0) (q := (.aload_n 0, 1, 0, 0, .null)) rfl (fun _ => rfl) l0 ?_
              refine rd (pc := 75) rfl ?_
              refine r_s (fr' := (79, lv, [.int 1, .int (m.1 6 8)])) (hp' := xW B m) (q := (.iconst 1, 1, 0, 0, .null)) rfl (fun _ => rfl) (Nat.le_refl _) ?_
              refine r_ifc (len := 3) (a := 90) (b := 0) (v0 := .null) (cn := .ne) (off := 11) rfl (fun _ => K) (fun c => ?_)
              have c : (m.1 6 8).toInt = 1 := Decidable.not_not.mp (zf c)
              omega
            by_cases d2 : ex = 2
            · subst d2
              have hI2 := hI
              obtain ⟨i1, i2, i3, i4⟩ := hI2
              obtain ⟨x, e, hq⟩ := P36s (F := 500) (Nat.le_refl _) N hC i1 i2 i3 i4
              refine ⟨x.2, hq, fun r K => h90 ?_⟩
              refine q_lr (k := 1) (i := 0) (q := (.aload_n 0, 1, 0, 0, .null)) rfl (fun _ => rfl) l0 ?_
              refine rd (pc := 91) rfl ?_
              refine r_s (fr' := (95, lv, [.int 2, .int (m.1 6 8)])) (hp' := xW B m) (q := (.iconst 2, 1, 0, 0, .null)) rfl (fun _ => rfl) (Nat.le_refl _) ?_
              refine r_ifc (len := 3) (a := 106) (b := 0) (v0 := .null) (cn := .ne) (off := 11) rfl (fun c => absurd h12 (zt c)) (fun _ => ?_)
              refine q_lr (k := 1) (i := 0) (q := (.aload_n 0, 1, 0, 0, .null)) rfl (fun _ => rfl) l0 ?_
              refine q_lr (k := 1) (i := 1) (q := (.aload_n 1, 1, 0, 0, .null)) rfl (fun _ => rfl) l1 ?_
              refine r_call (ix := 6) (as := [.ref 2]) (rest := []) (rv := none) (hp' := xW B x.2) (pc := 100) rfl xr36 rfl rfl rfl (xkd H (by decide)) (Nat.le_of_ble_eq_true rfl) (Z36_6_2 H X e (by omega)) (Nat.le_refl _) ?_
              exact r_s (fr' := (111, lv, [])) (hp' := xW B x.2) (q := (.goto 8, 3, 111, 0, .null)) rfl (fun _ => rfl) (Nat.le_refl _) K
            · have d3 : ex = 3 := by omega
              subst d3
              obtain ⟨x, e, hq⟩ := P38 (F := 500) (Nat.le_refl _) N hC hI
              refine ⟨x.2, hq, fun r K => h90 ?_⟩
              refine q_lr (k := 1) (i := 0) (q := (.aload_n 0, 1, 0, 0, .null)) rfl (fun _ => rfl) l0 ?_
              refine rd (pc := 91) rfl ?_
              refine r_s (fr' := (95, lv, [.int 2, .int (m.1 6 8)])) (hp' := xW B m) (q := (.iconst 2, 1, 0, 0, .null)) rfl (fun _ => rfl) (Nat.le_refl _) ?_
              refine r_ifc (len := 3) (a := 106) (b := 0) (v0 := .null) (cn := .ne) (off := 11) rfl (fun _ => ?_) (fun c => ?_)
              · refine q_lr (k := 1) (i := 0) (q := (.aload_n 0, 1, 0, 0, .null)) rfl (fun _ => rfl) l0 ?_
                refine q_lr (k := 1) (i := 1) (q := (.aload_n 1, 1, 0, 0, .null)) rfl (fun _ => rfl) l1 ?_
                exact r_call (ix := 6) (as := [.ref 2]) (rest := []) (rv := none) (hp' := xW B x.2) (pc := 108) rfl xr38 rfl rfl rfl (xkd H (by decide)) (Nat.le_of_ble_eq_true rfl) (Z38_6_2 H X e (by omega)) (Nat.le_refl _) K
              · have c : (m.1 6 8).toInt = 2 := Decidable.not_not.mp (zf c)
                omega
      obtain ⟨m2, hR, tr⟩ := turn
      have e1 : (i + Int32.ofInt 1).toInt = i.toInt + 1 := xa1 (by show _ ≤ _ + (1 : Int); omega) (by show _ + (1 : Int) ≤ _; omega)
      have k0 : zld (zs1 lv 2 (.int (i + Int32.ofInt 1))) 0 = some (.ref 6) := x_o1 l0 rfl rfl
      have k1 : zld (zs1 lv 2 (.int (i + Int32.ofInt 1))) 1 = some (.ref 2) := x_o1 l1 rfl rfl
      have k2 : zld (zs1 lv 2 (.int (i + Int32.ofInt 1))) 2 = some (.int (i + Int32.ofInt 1)) := zs1_ld _ _ _
      have back : ∀ {r : zRe}, zR none d 3 yRT zc33 (37, zs1 lv 2 (.int (i + Int32.ofInt 1)), []) (xW B m2) r → zR none d 3 yRT zc33 (37, lv, []) (xW B m) r := by
        intro r K
        refine head2 (tr r ?_)
        refine q_inc (i := 2) (n := 1) (q := (.iinc 2 1, 3, 0, 0, .null)) rfl (fun _ => rfl) l2 (by decide) ?_
        exact r_s (fr' := (37, zs1 lv 2 (.int (i + Int32.ofInt 1)), [])) (hp' := xW B m2) (q := (.goto (-77), 3, 37, 0, .null)) rfl (fun _ => rfl) (Nat.le_refl _) K
      have tu : trun b n (f + 1) s = (match tstp b n s with
        | .inl x => .inl x
        | .inr s' => trun b n f s') := by
        show (if s.2.2.2.2.2.1 = 4 then _ else _) = _
        rw [if_neg x4]
      rw [tu]
      cases hs : tstp b n s with
      | inl x =>
        rw [hs] at hR
        exact ⟨m2, _, hR, k0, k1, fun r K => back (kX H X (by omega) hR.2 hR.1 k0 k1 k2 K)⟩
      | inr s' =>
        rw [hs] at hR
        obtain ⟨⟨bg', hC'⟩, hI'⟩ := hR
        obtain ⟨m3, lv3, a1, a2, a3, a4⟩ := ih (s := s') (m := m2) ⟨⟨bg', _, hC', fun _ => rfl⟩, hI', tstp_ex hs⟩ (by rw [e1]; omega) (by rw [e1]; omega) k0 k1 k2
        exact ⟨m3, lv3, a1, a2, a3, fun r K => back (a4 r K)⟩
end KRR
end
section
/-! The reference's text: what its methods come to. -/
abbrev rM3 : yM := [(70, 70, 8), (70, 70, 9), (70, 70, 10)]
def rN (m0 : xS) (b : Nat → Int) (n : Nat) : Prop := (m0.1 70 1).toInt = (n : Int) ∧ n ≤ 400 ∧ ∀ j, j < n → (0 ≤ b j ∧ b j ≤ 255) ∧ (m0.1 71 j).toInt = (if b j < 128 then b j else b j - 256)
def rT (m0 : xS) (n p : Nat) (ft nu : Int) (m : xS) : Prop := xT m ∧ xfr rM3 m0 m ∧ ((m.1 70 8).toInt = (p : Int) ∧ p ≤ n) ∧ (m.1 70 9).toInt = ft ∧ (m.1 70 10).toInt = nu
theorem x255 {x : Int32} {c : Int} (h0 : 0 ≤ c) (h1 : c ≤ 255) (h : x.toInt = (if c < 128 then c else c - 256)) : (x &&& 255).toInt = c := by
  have e1 : (x &&& 255).toBitVec = x.toBitVec &&& 255#32 := rfl
  have e2 : (x &&& 255).toInt = (x &&& 255).toBitVec.toInt := rfl
  have e3 : (x.toBitVec &&& 255#32).toNat = x.toBitVec.toNat % 256 := by
    rw [BitVec.toNat_and]
    exact Nat.and_two_pow_sub_one_eq_mod x.toBitVec.toNat 8
  have e4 : x.toInt = x.toBitVec.toInt := rfl
  rw [e2, e1]
  have l1 : x.toBitVec.toNat % 256 < 256 := Nat.mod_lt _ (by decide)
  have e5 : (x.toBitVec &&& 255#32).toInt = ((x.toBitVec &&& 255#32).toNat : Int) := BitVec.toInt_eq_toNat_of_lt (by rw [e3]; omega)
  rw [e5, e3]
  have l2 := x.toBitVec.isLt
  have e6 := BitVec.toInt_eq_toNat_cond x.toBitVec
  rw [e4, e6] at h
  split at h <;> split at h <;> omega
section RT
variable {m0 m : xS} {b : Nat → Int} {n p : Nat} {ft nu : Int} {F : Nat}
theorem rT_p {v : Int32} {x : Nat} (h : rT m0 n p ft nu m) (e : v.toInt = (x : Int)) (hn : n ≤ 400) (l : x ≤ n) : rT m0 n x ft nu (xu m 70 8 v) := by
  obtain ⟨h1, h2, h3, h4, h5⟩ := h
  exact ⟨xT_c h1 (i := 70) (j := 8) rfl (by omega) (by omega), xfr_t h2 (xfr_u rfl), ⟨(congrArg Int32.toInt (xu_s _ _ _ _)).trans e, l⟩, (congrArg Int32.toInt (xu_o (by decide))).trans h4, (congrArg Int32.toInt (xu_o (by decide))).trans h5⟩
theorem rT_ft {v : Int32} {x : Int} (h : rT m0 n p ft nu m) (e : v.toInt = x) (l1 : 0 ≤ x) (l2 : x ≤ 4000) : rT m0 n p x nu (xu m 70 9 v) := by
  obtain ⟨h1, h2, h3, h4, h5⟩ := h
  exact ⟨xT_c h1 (i := 70) (j := 9) rfl (by omega) (by omega), xfr_t h2 (xfr_u rfl), ⟨(congrArg Int32.toInt (xu_o (by decide))).trans h3.1, h3.2⟩, (congrArg Int32.toInt (xu_s _ _ _ _)).trans e, (congrArg Int32.toInt (xu_o (by decide))).trans h5⟩
theorem rT_nu {v : Int32} {x : Int} (h : rT m0 n p ft nu m) (e : v.toInt = x) (l1 : 0 ≤ x) (l2 : x ≤ 99999) : rT m0 n p ft x (xu m 70 10 v) := by
  obtain ⟨h1, h2, h3, h4, h5⟩ := h
  exact ⟨xT_c h1 (i := 70) (j := 10) rfl (by omega) (by omega), xfr_t h2 (xfr_u rfl), ⟨(congrArg Int32.toInt (xu_o (by decide))).trans h3.1, h3.2⟩, (congrArg Int32.toInt (xu_o (by decide))).trans h4, (congrArg Int32.toInt (xu_s _ _ _ _)).trans e⟩
theorem rT_n (N : rN m0 b n) (h : rT m0 n p ft nu m) : (m.1 70 1).toInt = (n : Int) ∧ ∀ j, j < n → (0 ≤ b j ∧ b j ≤ 255) ∧ (m.1 71 j).toInt = (if b j < 128 then b j else b j - 256) := by
  have f := h.2.1
  refine ⟨(congrArg Int32.toInt (f.2 70 1 rfl)).trans N.1, fun j hj => ⟨(N.2.2 j hj).1, (congrArg Int32.toInt (f.2 71 j ?_)).trans (N.2.2 j hj).2⟩⟩
  unfold yinM
  rfl
theorem rT_i (h : rT m0 n p ft nu m) : (m.1 70 8).toNatClampNeg = p := by
  have := h.2.2.1.1
  show (m.1 70 8).toInt.toNat = p
  omega
/-- fails -/
theorem R163 {a c : Int32} (h : rT m0 n p ft nu m) (a1 : 0 ≤ a.toInt) (a2 : a.toInt ≤ 400) (c1 : 0 ≤ c.toInt) (c2 : c.toInt ≤ 4) : xP (D163 F c a m) (fun v m' => v = 0 ∧ rT m0 n p (trf ft (1 + 8 * a.toInt + c.toInt)) nu m') := by
  have h5 := h.2.2.2.1
  unfold D163 D163_19 trf
  refine xP_i (fun q => xP_r ⟨rfl, ?_⟩) (fun q => xP_r ⟨rfl, ?_⟩)
  · have q : (m.1 70 9).toInt ≠ 0 := zt q
    rw [if_neg (by omega)]
    exact h
  · have q : (m.1 70 9).toInt = 0 := Decidable.not_not.mp (zf q)
    rw [if_pos (by omega)]
    exact rT_ft h (kft a1 a2 c1 c2) (by omega) (by omega)
/-- see -/
theorem R164_38 (N : rN m0 b n) (h : rT m0 n p ft nu m) : xP (D164_38 F m) (fun v m' => m' = m ∧ v.toInt = tsg b n p) := by
  obtain ⟨k1, k2⟩ := rT_n N h
  have h3 := h.2.2.1
  have n4 := N.2.1
  unfold D164_38 tsg
  refine xP_i (fun c => xP_r ⟨rfl, ?_⟩) (fun c => xP_g ?_ (xP_r ⟨rfl, ?_⟩))
  · have c : (m.1 70 1).toInt ≤ (m.1 70 8).toInt := zt c
    rw [if_neg (by omega)]
    rfl
  · have c : ¬ (m.1 70 1).toInt ≤ (m.1 70 8).toInt := zf c
    exact xib_t (by omega) (by omega)
  · have c : ¬ (m.1 70 1).toInt ≤ (m.1 70 8).toInt := zf c
    obtain ⟨⟨z1, z2⟩, z3⟩ := k2 p (by omega)
    rw [rT_i h, if_pos (by omega)]
    exact x255 z1 z2 z3
theorem R164_0 (N : rN m0 b n) : ∀ (f : Nat) {p : Nat} {m : xS}, rT m0 n p ft nu m → n - p < f → xP (D164_0 F f m) (fun v m' => rT m0 n (tS tbl b n p) ft nu m' ∧ v.toInt = tsg b n (tS tbl b n p)) := by
  intro f
  induction f with
  | zero => intro p m _ l; omega
  | succ f ih =>
    intro p m h l
    obtain ⟨k1, k2⟩ := rT_n N h
    have h3 := h.2.2.1
    have n4 := N.2.1
    unfold D164_0
    refine xP_i (fun c => ?_) (fun c => ?_)
    · have c : (m.1 70 1).toInt ≤ (m.1 70 8).toInt := zt c
      rw [tS_f (fun z => by omega)]
      exact xP_m (R164_38 N h) (fun v m' q => by obtain ⟨rfl, q⟩ := q; exact ⟨h, q⟩)
    · have c : ¬ (m.1 70 1).toInt ≤ (m.1 70 8).toInt := zf c
      obtain ⟨⟨z1, z2⟩, z3⟩ := k2 p (by omega)
      refine xP_g (xib_t (by omega) (by omega)) (xP_i (fun d => ?_) (fun d => ?_))
      · rw [rT_i h] at d
        have d : (m.1 71 p).toInt ≠ 32 := zt d
        have d1 : b p ≠ 32 := fun z => d (by rw [z3, z]; decide)
        rw [tS_f (P := tbl) (b := b) (n := n) (p := p) (fun z => d1 (eq_of_beq (show (b p == 32) = true from z.2)))]
        exact xP_m (R164_38 N h) (fun v m' q => by obtain ⟨rfl, q⟩ := q; exact ⟨h, q⟩)
      · rw [rT_i h] at d
        have d : (m.1 71 p).toInt = 32 := Decidable.not_not.mp (zf d)
        have d1 : b p = 32 := by
          rw [z3] at d
          split at d <;> omega
        rw [tS_t (P := tbl) (show p < n by omega) (by unfold tbl; rw [d1]; rfl)]
        exact ih (rT_p h ((xa1 (by show _ ≤ _ + (1 : Int); omega) (by show _ + (1 : Int) ≤ _; omega)).trans (by rw [h3.1]; rfl)) N.2.1 (by omega)) (by omega)
theorem R164 (hF : 500 ≤ F) (N : rN m0 b n) (h : rT m0 n p ft nu m) : xP (D164 F m) (fun v m' => rT m0 n (tS tbl b n p) ft nu m' ∧ v.toInt = tsg b n (tS tbl b n p)) := R164_0 N F h (by have := N.2.1; omega)
/-- isDigit, isLetter at a place -/
theorem R165 {v : Int32} {q : Nat} (N : rN m0 b n) (h : rT m0 n p ft nu m) (hv : v.toInt = (q : Int)) : xP (D165 F v m) (fun r m' => m' = m ∧ ((r = 1 ∧ q < n ∧ tdg (b q) = true) ∨ (r = 0 ∧ ¬ (q < n ∧ tdg (b q) = true)))) := by
  obtain ⟨k1, k2⟩ := rT_n N h
  have n4 := N.2.1
  have ei : v.toNatClampNeg = q := by show v.toInt.toNat = q; omega
  unfold D165 D165_34 tdg
  refine xP_i (fun c => xP_r ⟨rfl, Or.inr ⟨rfl, fun z => ?_⟩⟩) (fun c => ?_)
  · have c : (m.1 70 1).toInt ≤ v.toInt := zt c
    omega
  · have c : ¬ (m.1 70 1).toInt ≤ v.toInt := zf c
    obtain ⟨⟨z1, z2⟩, z3⟩ := k2 q (by omega)
    rw [ei]
    simp only [Bool.and_eq_true, decide_eq_true_eq]
    refine xP_g (xib_t (by omega) (by omega)) (xP_i (fun d => xP_r ⟨rfl, Or.inr ⟨rfl, fun z => ?_⟩⟩) (fun d => xP_g (xib_t (by omega) (by omega)) (xP_i (fun e => xP_r ⟨rfl, Or.inr ⟨rfl, fun z => ?_⟩⟩) (fun e => xP_r ⟨rfl, Or.inl ⟨rfl, ?_⟩⟩))))
    · have d : (m.1 71 q).toInt < 48 := zt d
      rw [z3] at d
      split at d <;> omega
    · have e : (57 : Int) < (m.1 71 q).toInt := zt e
      rw [z3] at e
      split at e <;> omega
    · have d : ¬ (m.1 71 q).toInt < 48 := zf d
      have e : ¬ (57 : Int) < (m.1 71 q).toInt := zf e
      rw [z3] at d e
      split at d <;> omega
theorem R166 {v : Int32} {q : Nat} (N : rN m0 b n) (h : rT m0 n p ft nu m) (hv : v.toInt = (q : Int)) : xP (D166 F v m) (fun r m' => m' = m ∧ ((r = 1 ∧ q < n ∧ tlt (b q) = true) ∨ (r = 0 ∧ ¬ (q < n ∧ tlt (b q) = true)))) := by
  obtain ⟨k1, k2⟩ := rT_n N h
  have n4 := N.2.1
  have ei : v.toNatClampNeg = q := by show v.toInt.toNat = q; omega
  unfold D166 D166_34 tlt
  refine xP_i (fun c => xP_r ⟨rfl, Or.inr ⟨rfl, fun z => ?_⟩⟩) (fun c => ?_)
  · have c : (m.1 70 1).toInt ≤ v.toInt := zt c
    omega
  · have c : ¬ (m.1 70 1).toInt ≤ v.toInt := zf c
    obtain ⟨⟨z1, z2⟩, z3⟩ := k2 q (by omega)
    rw [ei]
    simp only [Bool.and_eq_true, decide_eq_true_eq]
    refine xP_g (xib_t (by omega) (by omega)) (xP_i (fun d => xP_r ⟨rfl, Or.inr ⟨rfl, fun z => ?_⟩⟩) (fun d => xP_g (xib_t (by omega) (by omega)) (xP_i (fun e => xP_r ⟨rfl, Or.inr ⟨rfl, fun z => ?_⟩⟩) (fun e => xP_r ⟨rfl, Or.inl ⟨rfl, ?_⟩⟩))))
    · have d : (m.1 71 q).toInt < 97 := zt d
      rw [z3] at d
      split at d <;> omega
    · have e : (122 : Int) < (m.1 71 q).toInt := zt e
      rw [z3] at e
      split at e <;> omega
    · have d : ¬ (m.1 71 q).toInt < 97 := zf d
      have e : ¬ (122 : Int) < (m.1 71 q).toInt := zf e
      rw [z3] at d e
      split at d <;> omega
/-- passWord -/
theorem R168_0 (N : rN m0 b n) : ∀ (f : Nat) {p : Nat} {m : xS}, rT m0 n p ft nu m → n - p < f → xP (D168_0 F f m) (fun _ m' => rT m0 n (tS tlt b n p) ft nu m') := by
  intro f
  induction f with
  | zero => intro p m _ l; omega
  | succ f ih =>
    intro p m h l
    have h3 := h.2.2.1
    have n4 := N.2.1
    unfold D168_0
    refine xP_b (R166 N h h3.1) (fun r mx q => ?_)
    obtain ⟨rfl, q⟩ := q
    dsimp only
    refine xP_i (fun c => xP_r ?_) (fun c => ?_)
    · have q : ¬ (p < n ∧ tlt (b p) = true) := by
        rcases q with q | q
        · rw [q.1] at c
          cases c
        · exact q.2
      rw [tS_f q]
      exact h
    · have q : p < n ∧ tlt (b p) = true := by
        rcases q with q | q
        · exact q.2
        · rw [q.1] at c
          cases c
      rw [tS_t q.1 q.2]
      exact ih (rT_p h ((xa1 (by show _ ≤ _ + (1 : Int); omega) (by show _ + (1 : Int) ≤ _; omega)).trans (by rw [h3.1]; rfl)) N.2.1 q.1) (by omega)
theorem R168 (hF : 500 ≤ F) (N : rN m0 b n) (h : rT m0 n p ft nu m) : xP (D168 F m) (fun _ m' => rT m0 n (tS tlt b n p) ft nu m') := R168_0 N F h (by have := N.2.1; omega)
end RT
end
section
/-! The reference's numbers and words. -/
def tpk (l : List Int) : Int := l.foldl (fun a c => 256 * a + c) 0
def tpr : List Int → Int
  | [] => 0
  | c :: l => 256 * tpr l + c
theorem tpk_snoc (l : List Int) (c : Int) : tpk (l ++ [c]) = 256 * tpk l + c := by
  unfold tpk
  rw [List.foldl_append]
  rfl
theorem tpk_tpr : ∀ l : List Int, tpk l.reverse = tpr l := by
  intro l
  induction l with
  | nil => rfl
  | cons c l ih =>
    rw [List.reverse_cons, tpk_snoc, ih]
    rfl
theorem tpr_ge : ∀ l : List Int, (∀ c ∈ l, 1 ≤ c ∧ c ≤ (255 : Int)) → 0 ≤ tpr l := by
  intro l
  induction l with
  | nil => intro _; exact Int.le_refl _
  | cons c l ih =>
    intro h
    have := ih (fun c hc => h c (List.mem_cons_of_mem _ hc))
    have h1 := h c List.mem_cons_self
    show 0 ≤ 256 * tpr l + c
    omega
theorem tpr_inj : ∀ l k : List Int, (∀ c ∈ l, 1 ≤ c ∧ c ≤ (255 : Int)) → (∀ c ∈ k, 1 ≤ c ∧ c ≤ (255 : Int)) → tpr l = tpr k → l = k := by
  intro l
  induction l with
  | nil =>
    intro k _ hk e
    cases k with
    | nil => rfl
    | cons c k =>
      have h1 := hk c List.mem_cons_self
      have h2 := tpr_ge k (fun c hc => hk c (List.mem_cons_of_mem _ hc))
      have e : (0 : Int) = 256 * tpr k + c := e
      omega
  | cons a l ih =>
    intro k hl hk e
    have a1 := hl a List.mem_cons_self
    have a2 := tpr_ge l (fun c hc => hl c (List.mem_cons_of_mem _ hc))
    cases k with
    | nil =>
      have e : 256 * tpr l + a = 0 := e
      omega
    | cons c k =>
      have h1 := hk c List.mem_cons_self
      have e : 256 * tpr l + a = 256 * tpr k + c := e
      have e1 : a = c := by omega
      rw [e1, ih k (fun c hc => hl c (List.mem_cons_of_mem _ hc)) (fun c hc => hk c (List.mem_cons_of_mem _ hc)) (by omega)]
theorem tpk_inj {l k : List Int} (hl : ∀ c ∈ l, 1 ≤ c ∧ c ≤ (255 : Int)) (hk : ∀ c ∈ k, 1 ≤ c ∧ c ≤ (255 : Int)) (e : tpk l = tpk k) : l = k := by
  have e1 := tpk_tpr l.reverse
  have e2 := tpk_tpr k.reverse
  rw [List.reverse_reverse] at e1 e2
  have := tpr_inj l.reverse k.reverse (fun c hc => hl c (List.mem_reverse.mp hc)) (fun c hc => hk c (List.mem_reverse.mp hc)) (by rw [← e1, ← e2, e])
  exact List.reverse_inj.mp this
theorem x64 {v : Int64} {c : Int32} {a x : Int} (hv : v.toInt = a) (h0 : 0 ≤ a) (h1 : a < 281474976710656) (hc : c.toInt = x) (x0 : 0 ≤ x) (x1 : x ≤ 127) : ((v <<< ((8 : Int32).toInt64 &&& 63)) ||| c.toInt64).toInt = 256 * a + x := by
  have e1 : ((v <<< ((8 : Int32).toInt64 &&& 63)) ||| c.toInt64).toBitVec = (v.toBitVec <<< 8) ||| c.toInt64.toBitVec := by
    have : ((8 : Int32).toInt64 &&& 63) = (8 : Int64) := by decide
    rw [this]
    rfl
  have e2 : v.toInt = v.toBitVec.toInt := rfl
  have n1 : (v.toBitVec.toNat : Int) = a := by
    have e := BitVec.toInt_eq_toNat_cond v.toBitVec
    rw [← e2, hv] at e
    have l := v.toBitVec.isLt
    split at e <;> omega
  have c2 : c.toInt64.toInt = x := (Int32.toInt_toInt64 c).trans hc
  have c3 : c.toInt64.toInt = c.toInt64.toBitVec.toInt := rfl
  have n2 : (c.toInt64.toBitVec.toNat : Int) = x := by
    have e := BitVec.toInt_eq_toNat_cond c.toInt64.toBitVec
    rw [← c3, c2] at e
    have l := c.toInt64.toBitVec.isLt
    split at e <;> omega
  have n3 : ((v.toBitVec <<< 8) ||| c.toInt64.toBitVec).toNat = 256 * v.toBitVec.toNat + c.toInt64.toBitVec.toNat := by
    rw [BitVec.toNat_or, BitVec.toNat_shiftLeft]
    have s1 : v.toBitVec.toNat <<< 8 = v.toBitVec.toNat * 256 := Nat.shiftLeft_eq _ _
    rw [s1, Nat.mod_eq_of_lt (by omega), ← s1, ← Nat.shiftLeft_add_eq_or_of_lt (show c.toInt64.toBitVec.toNat < 2 ^ 8 by omega), s1]
    omega
  show ((v <<< ((8 : Int32).toInt64 &&& 63)) ||| c.toInt64).toBitVec.toInt = _
  rw [e1, BitVec.toInt_eq_toNat_of_lt (by rw [n3]; omega), n3]
  omega
section RW
variable {m0 m : xS} {b : Nat → Int} {n p : Nat} {ft nu : Int} {F : Nat}
theorem R158 {x lo hi : Int32} : xP (D158 F x.toInt64 lo.toInt64 hi.toInt64 m) (fun r m' => m' = m ∧ ((r = 1 ∧ ¬ (x.toInt < lo.toInt ∨ hi.toInt < x.toInt)) ∨ (r = 0 ∧ (x.toInt < lo.toInt ∨ hi.toInt < x.toInt)))) := by
  have k1 := ylcmp x.toInt64 lo.toInt64
  have k2 := ylcmp x.toInt64 hi.toInt64
  rw [Int32.toInt_toInt64, Int32.toInt_toInt64] at k1 k2
  unfold D158 D158_17
  refine xP_i (fun c => xP_r ⟨rfl, Or.inr ⟨rfl, ?_⟩⟩) (fun c => xP_i (fun d => xP_r ⟨rfl, Or.inr ⟨rfl, ?_⟩⟩) (fun d => xP_r ⟨rfl, Or.inl ⟨rfl, ?_⟩⟩))
  · have c : (lg_cmp x.toInt64 lo.toInt64).toInt < 0 := zt c
    omega
  · have d : 0 < (lg_cmp x.toInt64 hi.toInt64).toInt := zt d
    omega
  · have c : ¬ (lg_cmp x.toInt64 lo.toInt64).toInt < 0 := zf c
    have d : ¬ 0 < (lg_cmp x.toInt64 hi.toInt64).toInt := zf d
    omega
theorem R170_34 {lo hi v3 : Int32} {bg : Nat} (N : rN m0 b n) (h3b : v3.toInt = (bg : Int)) : ∀ (f : Nat) {p : Nat} {nu : Int} {v : Int32} {m : xS}, rT m0 n p ft nu m → bg ≤ p → n - p < f → (∀ j, bg ≤ j → j < p → tdg (b j) = true) → v.toInt = tv b bg (min (p - bg) 5) → xP (D170_34 F f lo hi v3 v m) (fun r m' => ((5 < tS tdg b n p - bg ∨ tv b bg (min (tS tdg b n p - bg) 5) < lo.toInt ∨ hi.toInt < tv b bg (min (tS tdg b n p - bg) 5)) ∧ r = 0 ∧ rT m0 n (tS tdg b n p) (trf ft (1 + 8 * (bg : Int) + 1)) (tv b bg (min (tS tdg b n p - bg) 5)) m') ∨ (¬ (5 < tS tdg b n p - bg ∨ tv b bg (min (tS tdg b n p - bg) 5) < lo.toInt ∨ hi.toInt < tv b bg (min (tS tdg b n p - bg) 5)) ∧ r = 1 ∧ rT m0 n (tS tdg b n p) ft (tv b bg (min (tS tdg b n p - bg) 5)) m')) := by
  have n4 := N.2.1
  intro f
  induction f with
  | zero => intro p nu v m _ _ l; omega
  | succ f ih =>
    intro p nu v m h l0 l dg hv
    obtain ⟨k1, k2⟩ := rT_n N h
    have h3 := h.2.2.1
    have sb : ((m.1 70 8) - v3).toInt = (p : Int) - (bg : Int) := (xs1 (by omega) (by omega)).trans (by omega)
    have dgn : ∀ j, bg ≤ j → j < p → 48 ≤ b j ∧ b j ≤ 57 := fun j j1 j2 => by
      have := dg j j1 j2
      unfold tdg at this
      simp only [Bool.and_eq_true, decide_eq_true_eq] at this
      exact this
    have tb := tv_b (b := b) (p := bg) (n := p - bg) (fun j j1 j2 j3 => dgn j j1 (by omega)) (min (p - bg) 5) (Nat.min_le_right _ _) (Nat.min_le_left _ _)
    have tb2 : tv b bg (min (p - bg) 5) < 100000 := by
      refine Int.lt_of_lt_of_le tb.2 ?_
      have : min (p - bg) 5 = 0 ∨ min (p - bg) 5 = 1 ∨ min (p - bg) 5 = 2 ∨ min (p - bg) 5 = 3 ∨ min (p - bg) 5 = 4 ∨ min (p - bg) 5 = 5 := by omega
      rcases this with z | z | z | z | z | z <;> (rw [z]; decide)
    unfold D170_34
    refine xP_b (R165 N h h3.1) (fun r mx q => ?_)
    obtain ⟨rfl, q⟩ := q
    dsimp only
    refine xP_i (fun c => ?_) (fun c => ?_)
    · have q : ¬ (p < n ∧ tdg (b p) = true) := by
        rcases q with q | q
        · rw [q.1] at c
          cases c
        · exact q.2
      rw [tS_f q, ← hv]
      have hnu := rT_nu (v := v) (x := v.toInt) h rfl (by omega) (by omega)
      have bad : ∀ {m2 : xS}, m2 = xu mx 70 10 v → (5 < p - bg ∨ v.toInt < lo.toInt ∨ hi.toInt < v.toInt) → xP (D170_117 F lo hi v3 v m2) (fun r m' => ((5 < p - bg ∨ v.toInt < lo.toInt ∨ hi.toInt < v.toInt) ∧ r = 0 ∧ rT m0 n p (trf ft (1 + 8 * (bg : Int) + 1)) v.toInt m') ∨ (¬ (5 < p - bg ∨ v.toInt < lo.toInt ∨ hi.toInt < v.toInt) ∧ r = 1 ∧ rT m0 n p ft v.toInt m')) := fun e z => by
        subst e
        unfold D170_117
        refine xP_b (R163 hnu (by omega) (by omega) (by decide) (by decide)) (fun r2 m2 q2 => ?_)
        obtain ⟨rfl, q2⟩ := q2
        refine xP_i (fun _ => xP_r (Or.inl ⟨z, rfl, ?_⟩)) (fun d => absurd (show zcmp .eq (0 : Int32) 0 = false from d) (by decide))
        rw [h3b] at q2
        exact q2
      refine xP_i (fun d => ?_) (fun d => ?_)
      · have d : (5 : Int) < ((mx.1 70 8) - v3).toInt := zt d
        exact bad rfl (Or.inl (by omega))
      · have d : ¬ (5 : Int) < ((mx.1 70 8) - v3).toInt := zf d
        refine xP_b R158 (fun r2 m2 q2 => ?_)
        obtain ⟨e2, q2⟩ := q2
        dsimp only
        refine xP_i (fun g => ?_) (fun g => ?_)
        · unfold D170_126
          rcases q2 with ⟨-, q2⟩ | ⟨q2, -⟩
          · rw [e2]
            exact xP_r (Or.inr ⟨fun z => z.elim (fun z => by omega) q2, rfl, hnu⟩)
          · rw [q2] at g
            cases g
        · rcases q2 with ⟨q2, -⟩ | ⟨-, q2⟩
          · rw [q2] at g
            cases g
          · exact bad e2 (Or.inr q2)
    · have q : p < n ∧ tdg (b p) = true := by
        rcases q with q | q
        · exact q.2
        · rw [q.1] at c
          cases c
      have dg2 : ∀ j, bg ≤ j → j < p + 1 → tdg (b j) = true := fun j j1 j2 => by
        by_cases e : j = p
        · rw [e]
          exact q.2
        · exact dg j j1 (by omega)
      have bp : 48 ≤ b p ∧ b p ≤ 57 := by
        have := q.2
        unfold tdg at this
        simp only [Bool.and_eq_true, decide_eq_true_eq] at this
        exact this
      have hC := rT_p (v := mx.1 70 8 + 1) (x := p + 1) h ((xa1 (by show _ ≤ _ + (1 : Int); omega) (by show _ + (1 : Int) ≤ _; omega)).trans (by rw [h3.1]; rfl)) N.2.1 q.1
      rw [tS_t q.1 q.2]
      unfold D170_75
      refine xP_i (fun e => ?_) (fun e => ?_)
      · have e : (5 : Int) ≤ ((mx.1 70 8) - v3).toInt := zt e
        exact ih hC (by omega) (by omega) dg2 (by rw [show min (p + 1 - bg) 5 = min (p - bg) 5 by omega]; exact hv)
      · have e : ¬ (5 : Int) ≤ ((mx.1 70 8) - v3).toInt := zf e
        refine xP_g (xib_t (by omega) (by omega)) ?_
        refine ih hC (by omega) (by omega) dg2 ?_
        obtain ⟨-, z3⟩ := k2 p q.1
        rw [if_pos (by omega)] at z3
        rw [rT_i h, show min (p + 1 - bg) 5 = (p - bg) + 1 by omega]
        rw [show min (p - bg) 5 = p - bg by omega] at hv tb tb2
        show _ = 10 * tv b bg (p - bg) + b (bg + (p - bg)) - 48
        rw [show bg + (p - bg) = p by omega]
        have e1 : (10 * v).toInt = 10 * v.toInt := xm1 (by show _ ≤ (10 : Int) * _; omega) (by show (10 : Int) * _ ≤ _; omega)
        have e2 : (10 * v + mx.1 71 p).toInt = 10 * v.toInt + b p := (xa1 (by omega) (by omega)).trans (by rw [e1, z3])
        have e3 : (10 * v + mx.1 71 p - 48).toInt = 10 * v.toInt + b p - 48 := (xs1 (by show _ ≤ _ - (48 : Int); omega) (by show _ - (48 : Int) ≤ _; omega)).trans (by rw [e2]; rfl)
        rw [e3, hv]
/-- numberHere -/
theorem R170 {lo hi : Int32} (hF : 500 ≤ F) (N : rN m0 b n) (h : rT m0 n p ft nu m) : xP (D170 F lo hi m) (fun r m' => (¬ (tsk b n p < n ∧ tdg (b (tsk b n p)) = true) ∧ r = 0 ∧ rT m0 n (tsk b n p) (trf ft (1 + 8 * (tsk b n p : Int))) nu m') ∨ ((tsk b n p < n ∧ tdg (b (tsk b n p)) = true) ∧ (((5 < tde b n p - tsk b n p ∨ tv b (tsk b n p) (min (tde b n p - tsk b n p) 5) < lo.toInt ∨ hi.toInt < tv b (tsk b n p) (min (tde b n p - tsk b n p) 5)) ∧ r = 0 ∧ rT m0 n (tde b n p) (trf ft (1 + 8 * (tsk b n p : Int) + 1)) (tv b (tsk b n p) (min (tde b n p - tsk b n p) 5)) m') ∨ (¬ (5 < tde b n p - tsk b n p ∨ tv b (tsk b n p) (min (tde b n p - tsk b n p) 5) < lo.toInt ∨ hi.toInt < tv b (tsk b n p) (min (tde b n p - tsk b n p) 5)) ∧ r = 1 ∧ rT m0 n (tde b n p) ft (tv b (tsk b n p) (min (tde b n p - tsk b n p) 5)) m')))) := by
  have n4 := N.2.1
  unfold D170
  refine xP_b (R164 hF N h) (fun v m1 q => ?_)
  obtain ⟨q, -⟩ := q
  have h3 := q.2.2.1
  refine xP_b (R165 N q h3.1) (fun r mx q1 => ?_)
  obtain ⟨rfl, q1⟩ := q1
  dsimp only
  refine xP_i (fun c => ?_) (fun c => ?_)
  · have q1 : tS tbl b n p < n ∧ tdg (b (tS tbl b n p)) = true := by
      rcases q1 with q1 | q1
      · exact q1.2
      · rw [q1.1] at c
        cases c
    exact xP_m (R170_34 N h3.1 F q (Nat.le_refl _) (by omega) (fun j j1 j2 => by omega) (by rw [Nat.sub_self]; rfl)) (fun r2 m2 q2 => Or.inr ⟨q1, q2⟩)
  · have q1 : ¬ (tS tbl b n p < n ∧ tdg (b (tS tbl b n p)) = true) := by
      rcases q1 with q1 | q1
      · rw [q1.1] at c
        cases c
      · exact q1.2
    refine xP_b (R163 q (by omega) (by omega) (by decide) (by decide)) (fun r2 m2 q2 => ?_)
    obtain ⟨rfl, q2⟩ := q2
    refine xP_g (show xbo (0 : Int32) = true by decide) (xP_r (Or.inl ⟨q1, rfl, ?_⟩))
    rw [h3.1, show (1 + 8 * ((tS tbl b n p : Nat) : Int) + (0 : Int32).toInt) = 1 + 8 * ((tS tbl b n p : Nat) : Int) from Int.add_zero _] at q2
    exact q2
theorem tpk_b {l : List Int} (h : ∀ c ∈ l, 97 ≤ c ∧ c ≤ (122 : Int)) : ∀ k, l.length = k → k ≤ 6 → 0 ≤ tpk l ∧ tpk l < 281474976710656 := by
  have key : ∀ (l : List Int), (∀ c ∈ l, 97 ≤ c ∧ c ≤ (122 : Int)) → 0 ≤ tpr l ∧ tpr l < 256 ^ l.length := by
    intro l
    induction l with
    | nil => intro _; exact ⟨Int.le_refl _, by decide⟩
    | cons c l ih =>
      intro h
      obtain ⟨a1, a2⟩ := ih (fun c hc => h c (List.mem_cons_of_mem _ hc))
      have h1 := h c List.mem_cons_self
      rw [List.length_cons, Int.pow_succ]
      show 0 ≤ 256 * tpr l + c ∧ 256 * tpr l + c < _
      omega
  intro k hk k6
  have e := tpk_tpr l.reverse
  rw [List.reverse_reverse] at e
  obtain ⟨a1, a2⟩ := key l.reverse (fun c hc => h c (List.mem_reverse.mp hc))
  rw [List.length_reverse, hk] at a2
  rw [e]
  refine ⟨a1, Int.lt_of_lt_of_le a2 ?_⟩
  have : k = 0 ∨ k = 1 ∨ k = 2 ∨ k = 3 ∨ k = 4 ∨ k = 5 ∨ k = 6 := by omega
  rcases this with rfl | rfl | rfl | rfl | rfl | rfl | rfl <;> decide
theorem R167_10 {w : Int64} (N : rN m0 b n) (h : rT m0 n p ft nu m) : ∀ (f : Nat) {i : Nat} {v3 : Int64} {v5 : Int32}, p + i ≤ n → (∀ j, p ≤ j → j < p + i → tlt (b j) = true) → v5.toInt = (i : Int) → (i ≤ 7 → v3.toInt = tpk (tw b p (p + i))) → n - (p + i) < f → xP (D167_10 F f w v3 v5 m) (fun r m' => m' = m ∧ ((r = 1 ∧ 0 < tS tlt b n (p + i) - p ∧ tS tlt b n (p + i) - p < 8 ∧ tpk (tw b p (tS tlt b n (p + i))) = w.toInt) ∨ (r = 0 ∧ ¬ (0 < tS tlt b n (p + i) - p ∧ tS tlt b n (p + i) - p < 8 ∧ tpk (tw b p (tS tlt b n (p + i))) = w.toInt)))) := by
  have n4 := N.2.1
  obtain ⟨k1, k2⟩ := rT_n N h
  have h3 := h.2.2.1
  intro f
  induction f with
  | zero => intro i v3 v5 _ _ _ _ l; omega
  | succ f ih =>
    intro i v3 v5 l1 lt h5 hv l
    have ea : ((m.1 70 8) + v5).toInt = ((p + i : Nat) : Int) := (xa1 (by omega) (by omega)).trans (by omega)
    have ei : ((m.1 70 8) + v5).toNatClampNeg = p + i := by show ((m.1 70 8) + v5).toInt.toNat = _; omega
    unfold D167_10 D167_78
    refine xP_b (R166 N h ea) (fun r mx q => ?_)
    obtain ⟨rfl, q⟩ := q
    dsimp only
    refine xP_i (fun c => ?_) (fun c => ?_)
    · have q : ¬ (p + i < n ∧ tlt (b (p + i)) = true) := by
        rcases q with q | q
        · rw [q.1] at c
          cases c
        · exact q.2
      rw [tS_f q, show p + i - p = i by omega]
      have lc := ylcmp v3 w
      refine xP_i (fun d => xP_r ⟨rfl, Or.inr ⟨rfl, fun z => ?_⟩⟩) (fun d => xP_i (fun e => xP_r ⟨rfl, Or.inr ⟨rfl, fun z => ?_⟩⟩) (fun e => xP_i (fun g => xP_r ⟨rfl, Or.inr ⟨rfl, fun z => ?_⟩⟩) (fun g => xP_r ⟨rfl, Or.inl ⟨rfl, ?_⟩⟩)))
      · have d : v5.toInt ≤ 0 := zt d
        omega
      · have e : (8 : Int) ≤ v5.toInt := zt e
        omega
      · have g : (lg_cmp v3 w).toInt ≠ 0 := zt g
        have := hv (by omega)
        omega
      · have d : ¬ v5.toInt ≤ 0 := zf d
        have e : ¬ (8 : Int) ≤ v5.toInt := zf e
        have g : (lg_cmp v3 w).toInt = 0 := Decidable.not_not.mp (zf g)
        have := hv (by omega)
        exact ⟨by omega, by omega, by omega⟩
    · have q : p + i < n ∧ tlt (b (p + i)) = true := by
        rcases q with q | q
        · exact q.2
        · rw [q.1] at c
          cases c
      have lt2 : ∀ j, p ≤ j → j < p + (i + 1) → tlt (b j) = true := fun j j1 j2 => by
        by_cases e : j = p + i
        · rw [e]
          exact q.2
        · exact lt j j1 (by omega)
      have i5 : (v5 + Int32.ofInt 1).toInt = ((i + 1 : Nat) : Int) := xinc h5 (by omega)
      rw [tS_t q.1 q.2, show p + i + 1 = p + (i + 1) by omega]
      unfold D167_50
      refine xP_i (fun d => ?_) (fun d => ?_)
      · have d : (8 : Int) ≤ v5.toInt := zt d
        exact ih (by omega) lt2 i5 (fun z => by omega) (by omega)
      · have d : ¬ (8 : Int) ≤ v5.toInt := zf d
        refine xP_g (xib_t (by omega) (by omega)) ?_
        refine ih (by omega) lt2 i5 (fun z => ?_) (by omega)
        have hv := hv (by omega)
        have lb : ∀ c ∈ tw b p (p + i), 97 ≤ c ∧ c ≤ (122 : Int) := fun c hc => by
          unfold tw at hc
          obtain ⟨j, j1, rfl⟩ := List.mem_map.mp hc
          have := lt (p + j) (by omega) (by have := List.mem_range.mp j1; omega)
          unfold tlt at this
          simp only [Bool.and_eq_true, decide_eq_true_eq] at this
          exact this
        obtain ⟨a1, a2⟩ := tpk_b lb i (by rw [tw_len]; omega) (by omega)
        have bp : 97 ≤ b (p + i) ∧ b (p + i) ≤ 122 := by
          have := q.2
          unfold tlt at this
          simp only [Bool.and_eq_true, decide_eq_true_eq] at this
          exact this
        obtain ⟨-, z3⟩ := k2 (p + i) q.1
        rw [if_pos (by omega)] at z3
        rw [ei, x64 hv a1 a2 z3 (by omega) (by omega), show p + (i + 1) = p + i + 1 by omega, tw_snoc (by omega), tpk_snoc]
/-- isWord -/
theorem R167 {w : Int64} {W : List Int} (hF : 500 ≤ F) (N : rN m0 b n) (h : rT m0 n p ft nu m) (hw : tpk W = w.toInt) (hl : 0 < W.length ∧ W.length < 8) (hc : ∀ c ∈ W, 1 ≤ c ∧ c ≤ (255 : Int)) : xP (D167 F w m) (fun r m' => rT m0 n (tsk b n p) ft nu m' ∧ ((r = 1 ∧ twd b n p = W) ∨ (r = 0 ∧ twd b n p ≠ W))) := by
  have n4 := N.2.1
  unfold D167
  refine xP_b (R164 hF N h) (fun v m1 q => ?_)
  obtain ⟨q, -⟩ := q
  have l1 : tS tbl b n p ≤ n := q.2.2.1.2
  have g3 : tS tbl b n p ≤ tS tlt b n (tS tbl b n p) := tS_ge _
  have hb : ∀ c ∈ twd b n p, 1 ≤ c ∧ c ≤ (255 : Int) := fun c hc => by
    unfold twd tw at hc
    obtain ⟨j, j1, rfl⟩ := List.mem_map.mp hc
    have := (tS_in (P := tlt) (b := b) (n := n) (tS tbl b n p) (tS tbl b n p + j) (by omega) (by have := List.mem_range.mp j1; omega)).2
    unfold tlt at this
    simp only [Bool.and_eq_true, decide_eq_true_eq] at this
    omega
  have z := R167_10 (F := F) (w := w) N q F (i := 0) (v3 := 0) (v5 := 0) (by omega) (fun j j1 j2 => by omega) rfl (fun _ => by rw [Nat.add_zero, tw_nil]; rfl) (by omega)
  rw [Nat.add_zero] at z
  refine xP_m z (fun r m' q2 => ?_)
  obtain ⟨rfl, q2⟩ := q2
  refine ⟨q, ?_⟩
  rcases q2 with ⟨r1, a1, a2, a3⟩ | ⟨r0, a1⟩
  · exact Or.inl ⟨r1, tpk_inj hb hc (a3.trans hw.symm)⟩
  · refine Or.inr ⟨r0, fun e => a1 ?_⟩
    have len : tS tlt b n (tS tbl b n p) - tS tbl b n p = W.length := by rw [← e, tw_len]
    exact ⟨by omega, by omega, by rw [show tw b (tS tbl b n p) (tS tlt b n (tS tbl b n p)) = W from e, hw]⟩
end RW
end
section
/-! The reference's reader of rules: what its cells hold. -/
def tq (f : Nat → Int32) (o : Nat) : Nat → List (Int × Int × Int × Int)
  | 0 => []
  | c + 1 => ((f (o + 4 * c)).toInt, (f (o + 4 * c + 1)).toInt, (f (o + 4 * c + 2)).toInt, (f (o + 4 * c + 3)).toInt) :: tq f o c
theorem tq_c {f g : Nat → Int32} {o : Nat} : ∀ n, (∀ j, o ≤ j → j < o + 4 * n → f j = g j) → tq f o n = tq g o n := by
  intro n
  induction n with
  | zero => intro _; rfl
  | succ n ih =>
    intro h
    show (_, _, _, _) :: tq f o n = (_, _, _, _) :: tq g o n
    rw [h (o + 4 * n) (by omega) (by omega), h (o + 4 * n + 1) (by omega) (by omega), h (o + 4 * n + 2) (by omega) (by omega), h (o + 4 * n + 3) (by omega) (by omega), ih (fun j j1 j2 => h j j1 (by omega))]
abbrev rM : yM := [(70, 70, 8), (70, 70, 9), (70, 70, 10), (70, 70, 12), (70, 70, 13), (70, 70, 14), (70, 70, 16), (72, 72, 1000), (73, 73, 1000), (74, 74, 1000), (75, 75, 1000), (77, 77, 1000)]
/-- the other rules stay -/
def rO (m0 : xS) (t : Nat) (m : xS) : Prop := (∀ j, (j < 400 * t ∨ 400 * t + 400 ≤ j) → m.1 72 j = m0.1 72 j) ∧ (∀ j, j ≠ t → m.1 73 j = m0.1 73 j ∧ m.1 75 j = m0.1 75 j) ∧ (∀ j, (j < 48 * t ∨ 48 * t + 48 ≤ j) → m.1 74 j = m0.1 74 j)
def rC (m0 : xS) (n t p : Nat) (ft nu k : Int) (rc : List Int) (cs : List (Int × Int × Int × Int)) (op : List Int) (dp ln : Int) (m : xS) : Prop :=
  xT m ∧ xfr rM m0 m ∧ ((m.1 70 8).toInt = (p : Int) ∧ p ≤ n) ∧ (m.1 70 9).toInt = ft ∧ (m.1 70 10).toInt = nu ∧ (m.1 70 12).toInt = k ∧ ((m.1 73 t).toInt = (rc.length : Int) ∧ tk (fun j => m.1 72 (400 * t + j)) rc.length = rc) ∧ ((m.1 75 t).toInt = (cs.length : Int) ∧ tq (m.1 74) (48 * t) cs.length = cs) ∧ ((m.1 70 16).toInt = (op.length : Int) ∧ tk (m.1 77) op.length = op) ∧ (m.1 70 13).toInt = dp ∧ (m.1 70 14).toInt = ln ∧ rO m0 t m
section RC
variable {m0 m : xS} {b : Nat → Int} {n t p : Nat} {ft nu k : Int} {rc : List Int} {cs : List (Int × Int × Int × Int)} {op : List Int} {dp ln : Int} {F : Nat}
theorem rC_k {v : Int32} {x : Int} (h : rC m0 n t p ft nu k rc cs op dp ln m) (e : v.toInt = x) (l1 : 0 ≤ x) (l2 : x ≤ 60) : rC m0 n t p ft nu x rc cs op dp ln (xu m 70 12 v) := by
  obtain ⟨h1, h2, h3, h4, h5, h6, h7, h8, h9, h10, h11, h12⟩ := h
  refine ⟨xT_c h1 (i := 70) (j := 12) rfl (by omega) (by omega), xfr_t h2 (xfr_u rfl), ?_⟩
  exact ⟨⟨(congrArg Int32.toInt (xu_o (by decide))).trans h3.1, h3.2⟩, (congrArg Int32.toInt (xu_o (by decide))).trans h4, (congrArg Int32.toInt (xu_o (by decide))).trans h5, (congrArg Int32.toInt (xu_s _ _ _ _)).trans e, ⟨(congrArg Int32.toInt (xu_o (fun z => absurd z.1 (by decide)))).trans h7.1, (tk_c _ (fun j _ => (xu_o (fun z => absurd z.1 (by decide))))).trans h7.2⟩, ⟨(congrArg Int32.toInt (xu_o (fun z => absurd z.1 (by decide)))).trans h8.1, (tq_c _ (fun j _ _ => (xu_o (fun z => absurd z.1 (by decide))))).trans h8.2⟩, ⟨(congrArg Int32.toInt (xu_o (by decide))).trans h9.1, (tk_c _ (fun j _ => (xu_o (fun z => absurd z.1 (by decide))))).trans h9.2⟩, (congrArg Int32.toInt (xu_o (by decide))).trans h10, (congrArg Int32.toInt (xu_o (by decide))).trans h11, ⟨fun j hj => ((xu_o (fun z => absurd z.1 (by decide)))).trans (h12.1 j hj), fun j hj => ⟨((xu_o (fun z => absurd z.1 (by decide)))).trans (h12.2.1 j hj).1, ((xu_o (fun z => absurd z.1 (by decide)))).trans (h12.2.1 j hj).2⟩, fun j hj => ((xu_o (fun z => absurd z.1 (by decide)))).trans (h12.2.2 j hj)⟩⟩
theorem rC_dp {v : Int32} {x : Int} (h : rC m0 n t p ft nu k rc cs op dp ln m) (e : v.toInt = x) : rC m0 n t p ft nu k rc cs op x ln (xu m 70 13 v) := by
  obtain ⟨h1, h2, h3, h4, h5, h6, h7, h8, h9, h10, h11, h12⟩ := h
  refine ⟨xT_c h1 (i := 70) (j := 13) rfl (y32 v).1 (by have := (y32 v).2; omega), xfr_t h2 (xfr_u rfl), ?_⟩
  exact ⟨⟨(congrArg Int32.toInt (xu_o (by decide))).trans h3.1, h3.2⟩, (congrArg Int32.toInt (xu_o (by decide))).trans h4, (congrArg Int32.toInt (xu_o (by decide))).trans h5, (congrArg Int32.toInt (xu_o (by decide))).trans h6, ⟨(congrArg Int32.toInt (xu_o (fun z => absurd z.1 (by decide)))).trans h7.1, (tk_c _ (fun j _ => (xu_o (fun z => absurd z.1 (by decide))))).trans h7.2⟩, ⟨(congrArg Int32.toInt (xu_o (fun z => absurd z.1 (by decide)))).trans h8.1, (tq_c _ (fun j _ _ => (xu_o (fun z => absurd z.1 (by decide))))).trans h8.2⟩, ⟨(congrArg Int32.toInt (xu_o (by decide))).trans h9.1, (tk_c _ (fun j _ => (xu_o (fun z => absurd z.1 (by decide))))).trans h9.2⟩, (congrArg Int32.toInt (xu_s _ _ _ _)).trans e, (congrArg Int32.toInt (xu_o (by decide))).trans h11, ⟨fun j hj => ((xu_o (fun z => absurd z.1 (by decide)))).trans (h12.1 j hj), fun j hj => ⟨((xu_o (fun z => absurd z.1 (by decide)))).trans (h12.2.1 j hj).1, ((xu_o (fun z => absurd z.1 (by decide)))).trans (h12.2.1 j hj).2⟩, fun j hj => ((xu_o (fun z => absurd z.1 (by decide)))).trans (h12.2.2 j hj)⟩⟩
theorem rC_ln {v : Int32} {x : Int} (h : rC m0 n t p ft nu k rc cs op dp ln m) (e : v.toInt = x) (l1 : 0 ≤ x) (l2 : x ≤ 40) : rC m0 n t p ft nu k rc cs op dp x (xu m 70 14 v) := by
  obtain ⟨h1, h2, h3, h4, h5, h6, h7, h8, h9, h10, h11, h12⟩ := h
  refine ⟨xT_c h1 (i := 70) (j := 14) rfl (by omega) (by omega), xfr_t h2 (xfr_u rfl), ?_⟩
  exact ⟨⟨(congrArg Int32.toInt (xu_o (by decide))).trans h3.1, h3.2⟩, (congrArg Int32.toInt (xu_o (by decide))).trans h4, (congrArg Int32.toInt (xu_o (by decide))).trans h5, (congrArg Int32.toInt (xu_o (by decide))).trans h6, ⟨(congrArg Int32.toInt (xu_o (fun z => absurd z.1 (by decide)))).trans h7.1, (tk_c _ (fun j _ => (xu_o (fun z => absurd z.1 (by decide))))).trans h7.2⟩, ⟨(congrArg Int32.toInt (xu_o (fun z => absurd z.1 (by decide)))).trans h8.1, (tq_c _ (fun j _ _ => (xu_o (fun z => absurd z.1 (by decide))))).trans h8.2⟩, ⟨(congrArg Int32.toInt (xu_o (by decide))).trans h9.1, (tk_c _ (fun j _ => (xu_o (fun z => absurd z.1 (by decide))))).trans h9.2⟩, (congrArg Int32.toInt (xu_o (by decide))).trans h10, (congrArg Int32.toInt (xu_s _ _ _ _)).trans e, ⟨fun j hj => ((xu_o (fun z => absurd z.1 (by decide)))).trans (h12.1 j hj), fun j hj => ⟨((xu_o (fun z => absurd z.1 (by decide)))).trans (h12.2.1 j hj).1, ((xu_o (fun z => absurd z.1 (by decide)))).trans (h12.2.1 j hj).2⟩, fun j hj => ((xu_o (fun z => absurd z.1 (by decide)))).trans (h12.2.2 j hj)⟩⟩
theorem rC_t (h : rC m0 n t p ft nu k rc cs op dp ln m) : rT m n p ft nu m := ⟨h.1, xfr_r _ _, h.2.2.1, h.2.2.2.1, h.2.2.2.2.1⟩
theorem rN_t (N : rN m0 b n) (h : rC m0 n t p ft nu k rc cs op dp ln m) : rN m b n := by
  have f := h.2.1
  refine ⟨(congrArg Int32.toInt (f.2 70 1 rfl)).trans N.1, N.2.1, fun j hj => ⟨(N.2.2 j hj).1, (congrArg Int32.toInt (f.2 71 j ?_)).trans (N.2.2 j hj).2⟩⟩
  unfold yinM
  rfl
theorem rC_T {m' : xS} {p' : Nat} {ft' nu' : Int} (h : rC m0 n t p ft nu k rc cs op dp ln m) (g : rT m n p' ft' nu' m') : rC m0 n t p' ft' nu' k rc cs op dp ln m' := by
  obtain ⟨h1, h2, h3, h4, h5, h6, h7, h8, h9, h10, h11, h12⟩ := h
  obtain ⟨g1, g2, g3, g4, g5⟩ := g
  have e2 : ∀ j, m'.1 72 j = m.1 72 j := fun j => g2.2 72 j (by unfold yinM; rfl)
  have e3 : ∀ j, m'.1 73 j = m.1 73 j := fun j => g2.2 73 j (by unfold yinM; rfl)
  have e4 : ∀ j, m'.1 74 j = m.1 74 j := fun j => g2.2 74 j (by unfold yinM; rfl)
  have e5 : ∀ j, m'.1 75 j = m.1 75 j := fun j => g2.2 75 j (by unfold yinM; rfl)
  have e7 : ∀ j, m'.1 77 j = m.1 77 j := fun j => g2.2 77 j (by unfold yinM; rfl)
  refine ⟨g1, xfr_t h2 (xfr_l (by decide) g2), g3, g4, g5, ?_⟩
  exact ⟨(congrArg Int32.toInt (g2.2 70 12 rfl)).trans h6, ⟨(congrArg Int32.toInt (e3 t)).trans h7.1, (tk_c _ (fun j _ => e2 _)).trans h7.2⟩, ⟨(congrArg Int32.toInt (e5 t)).trans h8.1, (tq_c _ (fun j _ _ => e4 j)).trans h8.2⟩, ⟨(congrArg Int32.toInt (g2.2 70 16 rfl)).trans h9.1, (tk_c _ (fun j _ => e7 j)).trans h9.2⟩, (congrArg Int32.toInt (g2.2 70 13 rfl)).trans h10, (congrArg Int32.toInt (g2.2 70 14 rfl)).trans h11, ⟨fun j hj => (e2 j).trans (h12.1 j hj), fun j hj => ⟨(e3 j).trans (h12.2.1 j hj).1, (e5 j).trans (h12.2.1 j hj).2⟩, fun j hj => (e4 j).trans (h12.2.2 j hj)⟩⟩
theorem rC_m {Q : Int32 → xS → Prop} {R : Int32 → xS → Prop} {D : Option (Int32 × xS)} (z : xP D Q) (k : ∀ v m', Q v m' → R v m') : xP D R := xP_m z k
theorem rb73 (ht : t < 6) : xbn 73 t = some (0, 400) := by
  have : t = 0 ∨ t = 1 ∨ t = 2 ∨ t = 3 ∨ t = 4 ∨ t = 5 := by omega
  rcases this with rfl | rfl | rfl | rfl | rfl | rfl <;> rfl
theorem rb75 (ht : t < 6) : xbn 75 t = some (0, 12) := by
  have : t = 0 ∨ t = 1 ∨ t = 2 ∨ t = 3 ∨ t = 4 ∨ t = 5 := by omega
  rcases this with rfl | rfl | rfl | rfl | rfl | rfl <;> rfl
theorem rC_put {v u : Int32} (ht : t < 6) (h : rC m0 n t p ft nu k rc cs op dp ln m) (l : rc.length < 400) (e : u.toInt = rc.length + 1) : rC m0 n t p ft nu k (v.toInt :: rc) cs op dp ln (xu (xu m 72 (400 * t + rc.length) v) 73 t u) := by
  obtain ⟨h1, h2, h3, h4, h5, h6, h7, h8, h9, h10, h11, h12⟩ := h
  have b0 : xbn 72 (400 * t + rc.length) = some (-2147483648, 2147483647) := xbn_a (k := 0) (n := 2400) (ec := 0) (by decide) rfl (by decide) (by omega)
  have q : ∀ {i j : Nat}, i ≠ 72 → ¬ (i = 73 ∧ j = t) → (xu (xu m 72 (400 * t + rc.length) v) 73 t u).1 i j = m.1 i j := fun z1 z2 => (xu_o z2).trans (xu_o (fun z => z1 z.1))
  have q2 : ∀ {j : Nat}, j ≠ 400 * t + rc.length → (xu (xu m 72 (400 * t + rc.length) v) 73 t u).1 72 j = m.1 72 j := fun z1 => (xu_o (fun z => absurd z.1 (by decide))).trans (xu_o (fun z => z1 z.2))
  refine ⟨xT_c (xT_c h1 b0 (y32 v).1 (by have := (y32 v).2; omega)) (rb73 ht) (by omega) (by omega), xfr_t h2 (xfr_t (xfr_u (by unfold yinM; rfl)) (xfr_u (by unfold yinM; rfl))), ⟨(congrArg Int32.toInt (q (by decide) (fun z => absurd z.1 (by decide)))).trans h3.1, h3.2⟩, (congrArg Int32.toInt (q (by decide) (fun z => absurd z.1 (by decide)))).trans h4, (congrArg Int32.toInt (q (by decide) (fun z => absurd z.1 (by decide)))).trans h5, (congrArg Int32.toInt (q (by decide) (fun z => absurd z.1 (by decide)))).trans h6, ⟨(congrArg Int32.toInt (xu_s _ _ _ _)).trans (e.trans (by rw [List.length_cons]; omega)), ?_⟩, ⟨(congrArg Int32.toInt (q (by decide) (fun z => absurd z.1 (by decide)))).trans h8.1, (tq_c _ (fun j _ _ => q (by decide) (fun z => absurd z.1 (by decide)))).trans h8.2⟩, ⟨(congrArg Int32.toInt (q (by decide) (fun z => absurd z.1 (by decide)))).trans h9.1, (tk_c _ (fun j _ => q (by decide) (fun z => absurd z.1 (by decide)))).trans h9.2⟩, (congrArg Int32.toInt (q (by decide) (fun z => absurd z.1 (by decide)))).trans h10, (congrArg Int32.toInt (q (by decide) (fun z => absurd z.1 (by decide)))).trans h11, ⟨fun j hj => (q2 (by omega)).trans (h12.1 j hj), fun j hj => ⟨(q (by decide) (fun z => hj z.2)).trans (h12.2.1 j hj).1, (q (by decide) (fun z => absurd z.1 (by decide))).trans (h12.2.1 j hj).2⟩, fun j hj => (q (by decide) (fun z => absurd z.1 (by decide))).trans (h12.2.2 j hj)⟩⟩
  show ((xu (xu m 72 (400 * t + rc.length) v) 73 t u).1 72 (400 * t + rc.length)).toInt :: tk _ rc.length = _
  rw [(xu_o (fun z => absurd z.1 (by decide))).trans (xu_s _ _ _ _), tk_c (g := fun j => m.1 72 (400 * t + j)) _ (fun j hj => q2 (by omega)), h7.2]
theorem rC_push {v u : Int32} (h : rC m0 n t p ft nu k rc cs op dp ln m) (l : op.length < 400) (e : u.toInt = op.length + 1) : rC m0 n t p ft nu k rc cs (v.toInt :: op) dp ln (xu (xu m 77 op.length v) 70 16 u) := by
  obtain ⟨h1, h2, h3, h4, h5, h6, h7, h8, h9, h10, h11, h12⟩ := h
  have b0 : xbn 77 op.length = some (-2147483648, 2147483647) := xbn_a (k := 0) (n := 400) (ec := 0) (by decide) rfl (by decide) l
  have q : ∀ {i j : Nat}, i ≠ 77 → ¬ (i = 70 ∧ j = 16) → (xu (xu m 77 op.length v) 70 16 u).1 i j = m.1 i j := fun z1 z2 => (xu_o z2).trans (xu_o (fun z => z1 z.1))
  refine ⟨xT_c (xT_c h1 b0 (y32 v).1 (by have := (y32 v).2; omega)) (i := 70) (j := 16) rfl (by omega) (by omega), xfr_t h2 (xfr_t (xfr_u (by unfold yinM; rfl)) (xfr_u rfl)), ⟨(congrArg Int32.toInt (q (by decide) (by decide))).trans h3.1, h3.2⟩, (congrArg Int32.toInt (q (by decide) (by decide))).trans h4, (congrArg Int32.toInt (q (by decide) (by decide))).trans h5, (congrArg Int32.toInt (q (by decide) (by decide))).trans h6, ⟨(congrArg Int32.toInt (q (by decide) (fun z => absurd z.1 (by decide)))).trans h7.1, (tk_c _ (fun j _ => q (by decide) (fun z => absurd z.1 (by decide)))).trans h7.2⟩, ⟨(congrArg Int32.toInt (q (by decide) (fun z => absurd z.1 (by decide)))).trans h8.1, (tq_c _ (fun j _ _ => q (by decide) (fun z => absurd z.1 (by decide)))).trans h8.2⟩, ⟨(congrArg Int32.toInt (xu_s _ _ _ _)).trans (e.trans (by rw [List.length_cons]; omega)), ?_⟩, (congrArg Int32.toInt (q (by decide) (by decide))).trans h10, (congrArg Int32.toInt (q (by decide) (by decide))).trans h11, ⟨fun j hj => (q (by decide) (fun z => absurd z.1 (by decide))).trans (h12.1 j hj), fun j hj => ⟨(q (by decide) (fun z => absurd z.1 (by decide))).trans (h12.2.1 j hj).1, (q (by decide) (fun z => absurd z.1 (by decide))).trans (h12.2.1 j hj).2⟩, fun j hj => (q (by decide) (fun z => absurd z.1 (by decide))).trans (h12.2.2 j hj)⟩⟩
  show ((xu (xu m 77 op.length v) 70 16 u).1 77 op.length).toInt :: tk _ op.length = _
  rw [(xu_o (fun z => absurd z.1 (by decide))).trans (xu_s _ _ _ _), tk_c (g := m.1 77) _ (fun j hj => (xu_o (fun z => absurd z.1 (by decide))).trans (xu_o (fun z => by omega))), h9.2]
theorem rC_len {v : Int32} {os : List Int} (h : rC m0 n t p ft nu k rc cs op dp ln m) (e : v.toInt = (os.length : Int)) (ho : tk (m.1 77) os.length = os) (l : os.length ≤ 400) : rC m0 n t p ft nu k rc cs os dp ln (xu m 70 16 v) := by
  obtain ⟨h1, h2, h3, h4, h5, h6, h7, h8, h9, h10, h11, h12⟩ := h
  refine ⟨xT_c h1 (i := 70) (j := 16) rfl (by omega) (by omega), xfr_t h2 (xfr_u rfl), ?_⟩
  exact ⟨⟨(congrArg Int32.toInt (xu_o (by decide))).trans h3.1, h3.2⟩, (congrArg Int32.toInt (xu_o (by decide))).trans h4, (congrArg Int32.toInt (xu_o (by decide))).trans h5, (congrArg Int32.toInt (xu_o (by decide))).trans h6, ⟨(congrArg Int32.toInt (xu_o (fun z => absurd z.1 (by decide)))).trans h7.1, (tk_c _ (fun j _ => (xu_o (fun z => absurd z.1 (by decide))))).trans h7.2⟩, ⟨(congrArg Int32.toInt (xu_o (fun z => absurd z.1 (by decide)))).trans h8.1, (tq_c _ (fun j _ _ => (xu_o (fun z => absurd z.1 (by decide))))).trans h8.2⟩, ⟨(congrArg Int32.toInt (xu_s _ _ _ _)).trans e, (tk_c _ (fun j _ => xu_o (fun z => absurd z.1 (by decide)))).trans ho⟩, (congrArg Int32.toInt (xu_o (by decide))).trans h10, (congrArg Int32.toInt (xu_o (by decide))).trans h11, ⟨fun j hj => ((xu_o (fun z => absurd z.1 (by decide)))).trans (h12.1 j hj), fun j hj => ⟨((xu_o (fun z => absurd z.1 (by decide)))).trans (h12.2.1 j hj).1, ((xu_o (fun z => absurd z.1 (by decide)))).trans (h12.2.1 j hj).2⟩, fun j hj => ((xu_o (fun z => absurd z.1 (by decide)))).trans (h12.2.2 j hj)⟩⟩
theorem rC_pop {v : Int32} {o0 : Int} {os : List Int} (h : rC m0 n t p ft nu k rc cs (o0 :: os) dp ln m) (e : v.toInt = (os.length : Int)) : rC m0 n t p ft nu k rc cs os dp ln (xu m 70 16 v) ∧ (m.1 77 os.length).toInt = o0 := by
  have h9 := h.2.2.2.2.2.2.2.2.1
  have t7 : (m.1 77 os.length).toInt :: tk (m.1 77) os.length = o0 :: os := h9.2
  have b2 := h.1 70 16 (0, 400) rfl
  have b3 : (m.1 70 16).toInt ≤ 400 := b2.2
  have e9 := h9.1
  rw [List.length_cons] at e9
  exact ⟨rC_len h e (List.cons.inj t7).2 (by omega), (List.cons.inj t7).1⟩
theorem rC_i (h : rC m0 n t p ft nu k rc cs op dp ln m) : (m.1 70 8).toNatClampNeg = p := by
  have := h.2.2.1.1
  show (m.1 70 8).toInt.toNat = p
  omega
/-- a fault -/
def rF (m0 : xS) (f : Int) (m : xS) : Prop := ∃ (n t p : Nat) (nu k : Int) (rc : List Int) (cs : List (Int × Int × Int × Int)) (op : List Int) (dp ln : Int), (m0.1 70 11).toInt = (t : Int) ∧ rC m0 n t p f nu k rc cs op dp ln m
theorem R163c {a c : Int32} (h : rC m0 n t p 0 nu k rc cs op dp ln m) (a1 : 0 ≤ a.toInt) (a2 : a.toInt ≤ 400) (c1 : 0 ≤ c.toInt) (c2 : c.toInt ≤ 4) : xP (D163 F c a m) (fun v m' => v = 0 ∧ rC m0 n t p (1 + 8 * a.toInt + c.toInt) nu k rc cs op dp ln m') := xP_m (R163 (rC_t h) a1 a2 c1 c2) (fun v m' q => ⟨q.1, rC_T h (by
  have := q.2
  rw [show trf 0 (1 + 8 * a.toInt + c.toInt) = 1 + 8 * a.toInt + c.toInt from if_pos rfl] at this
  exact this)⟩)
/-- makes -/
theorem R173 {a : Int32} {kk : Nat} (h : rC m0 n t p 0 nu (kk : Int) rc cs op dp ln m) (hk : kk ≤ 60) (a1 : 0 ≤ a.toInt) (a2 : a.toInt ≤ 400) : xP (D173 F a m) (fun v m' => (60 ≤ kk ∧ v = 0 ∧ rC m0 n t p (1 + 8 * a.toInt + 3) nu (kk : Int) rc cs op dp ln m') ∨ (¬ 60 ≤ kk ∧ v = 1 ∧ rC m0 n t p 0 nu ((kk + 1 : Nat) : Int) rc cs op dp ln m')) := by
  have h6 := h.2.2.2.2.2.1
  unfold D173
  refine xP_i (fun c => xP_r (Or.inr ⟨?_, rfl, ?_⟩)) (fun c => ?_)
  · have c : (m.1 70 12).toInt ≠ 60 := zt c
    omega
  · have c : (m.1 70 12).toInt ≠ 60 := zt c
    exact rC_k h ((xa1 (by show _ ≤ _ + (1 : Int); omega) (by show _ + (1 : Int) ≤ _; omega)).trans (by rw [h6]; rfl)) (by omega) (by omega)
  · have c : (m.1 70 12).toInt = 60 := Decidable.not_not.mp (zf c)
    refine xP_b (R163c h a1 a2 (by decide) (by decide)) (fun v m1 q => ?_)
    obtain ⟨rfl, q⟩ := q
    exact xP_g (show xbo (0 : Int32) = true by decide) (xP_r (Or.inl ⟨by omega, rfl, q⟩))
/-- puts -/
theorem R172 {s v : Int32} {c : Int} (ht : t < 6) (hT : (m0.1 70 11).toInt = (t : Int)) (h : rC m0 n t p ft nu k rc cs op dp ln m) (l : rc.length < 400) (hc : (s + 16 * v).toInt = c) : xP (D172 F s v m) (fun _ m' => rC m0 n t p ft nu k (c :: rc) cs op dp ln m' ∧ m'.1 77 = m.1 77) := by
  have h7 := h.2.2.2.2.2.2.1.1
  have e11 : (m.1 70 11).toInt = (t : Int) := (congrArg Int32.toInt (h.2.1.2 70 11 rfl)).trans hT
  have et : (m.1 70 11).toNatClampNeg = t := by show (m.1 70 11).toInt.toNat = t; omega
  have e1 : (400 * m.1 70 11).toInt = 400 * (t : Int) := (xm1 (by show _ ≤ (400 : Int) * _; omega) (by show (400 : Int) * _ ≤ _; omega)).trans (by rw [e11]; rfl)
  have e2 : (400 * m.1 70 11 + m.1 73 t).toInt = 400 * (t : Int) + (rc.length : Int) := (xa1 (by omega) (by omega)).trans (by rw [e1, h7])
  have e3 : (400 * m.1 70 11 + m.1 73 t).toNatClampNeg = 400 * t + rc.length := by show (400 * m.1 70 11 + m.1 73 t).toInt.toNat = _; omega
  have e4 : (m.1 73 t + 1).toInt = rc.length + 1 := (xa1 (by show _ ≤ _ + (1 : Int); omega) (by show _ + (1 : Int) ≤ _; omega)).trans (by rw [h7]; rfl)
  have i7 : xib (m.1 70 11) 7 = true := xib_t (by omega) (by omega)
  unfold D172
  rw [et]
  refine xP_g i7 (xP_g (xib_t (by omega) (by omega)) (xP_g i7 (xP_g i7 (xP_r ?_))))
  rw [e3]
  have z := rC_put (v := s + 16 * v) ht h l e4
  rw [hc] at z
  exact ⟨z, (xu_row (by decide)).trans (xu_row (by decide))⟩
/-- opens -/
theorem R174 {v : Int32} {d0 : Nat} (h : rC m0 n t p 0 nu k rc cs op (d0 : Int) ln m) (hn : n ≤ 400) (l : op.length < 400) (hd : d0 ≤ 10) : xP (D174 F v m) (fun r m' => (10 ≤ d0 ∧ r = 0 ∧ rC m0 n t p (1 + 8 * (p : Int) + 2) nu k rc cs op (d0 : Int) ln m') ∨ (¬ 10 ≤ d0 ∧ r = 1 ∧ rC m0 n t p 0 nu k rc cs (v.toInt :: op) ((d0 + 1 : Nat) : Int) ln m')) := by
  have h9 := h.2.2.2.2.2.2.2.2.1.1
  have h10 := h.2.2.2.2.2.2.2.2.2.1
  have h3 := h.2.2.1
  have ei : (m.1 70 16).toNatClampNeg = op.length := by show (m.1 70 16).toInt.toNat = _; omega
  unfold D174
  refine xP_i (fun c => ?_) (fun c => ?_)
  · have c : (m.1 70 13).toInt ≠ 10 := zt c
    refine xP_g (xib_t (by omega) (by omega)) (xP_r (Or.inr ⟨by omega, rfl, ?_⟩))
    rw [ei]
    have z := rC_dp (v := m.1 70 13 + 1) (x := ((d0 + 1 : Nat) : Int)) h ((xa1 (by show _ ≤ _ + (1 : Int); omega) (by show _ + (1 : Int) ≤ _; omega)).trans (by rw [h10]; rfl))
    exact rC_push z l ((xa1 (by show _ ≤ _ + (1 : Int); omega) (by show _ + (1 : Int) ≤ _; omega)).trans (by rw [h9]; rfl))
  · have c : (m.1 70 13).toInt = 10 := Decidable.not_not.mp (zf c)
    refine xP_b (R163c h (by omega) (by omega) (by decide) (by decide)) (fun v m1 q => ?_)
    obtain ⟨rfl, q⟩ := q
    rw [h3.1] at q
    exact xP_g (show xbo (0 : Int32) = true by decide) (xP_r (Or.inl ⟨by omega, rfl, q⟩))
theorem R175 {v : Int32} : xP (D175 F v m) (fun r m' => m' = m ∧ r.toInt = (if v.toInt = 13 then 1 else if v.toInt = 12 then 2 else if v.toInt = 11 then 3 else 0)) := by
  unfold D175
  refine xP_i (fun c => xP_i (fun d => xP_i (fun e => xP_r ⟨rfl, ?_⟩) (fun e => xP_r ⟨rfl, ?_⟩)) (fun d => xP_r ⟨rfl, ?_⟩)) (fun c => xP_r ⟨rfl, ?_⟩)
  · have c : v.toInt ≠ 13 := zt c
    have d : v.toInt ≠ 12 := zt d
    have e : v.toInt ≠ 11 := zt e
    rw [if_neg c, if_neg d, if_neg e]
    rfl
  · have c : v.toInt ≠ 13 := zt c
    have d : v.toInt ≠ 12 := zt d
    have e : v.toInt = 11 := Decidable.not_not.mp (zf e)
    rw [if_neg c, if_neg d, if_pos e]
    rfl
  · have c : v.toInt ≠ 13 := zt c
    have d : v.toInt = 12 := Decidable.not_not.mp (zf d)
    rw [if_neg c, if_pos d]
    rfl
  · have c : v.toInt = 13 := Decidable.not_not.mp (zf c)
    rw [if_pos c]
    rfl
end RC
end
section
/-! The reference's reader of rules: words, values. -/
theorem twd_id (b : Nat → Int) (n p : Nat) : twd b n (tS tbl b n p) = twd b n p := by
  unfold twd
  rw [tS_id]
theorem tix_ne {w v : List Int} {vs : List (List Int)} (h : w ≠ v) : tix w (v :: vs) = (tix w vs).map (· + 1) := if_neg (fun z => h z.symm)
theorem tix_b : ∀ (ws : List (List Int)) (w : List Int) (u : Nat), tix w ws = some u → u < ws.length := by
  intro ws
  induction ws with
  | nil => intro w u z; cases z
  | cons y ys ih =>
    intro w u z
    unfold tix at z
    split at z
    · cases z
      exact Nat.succ_pos _
    · cases t : tix w ys with
      | none => rw [t] at z; cases z
      | some t2 =>
        rw [t] at z
        have := ih w t2 t
        have z : t2 + 1 = u := Option.some.inj z
        rw [List.length_cons]
        omega
/-- a step of the reference's code as one of the class's -/
def tenc (c : Int) : Int := if c % 16 = 0 then 40 + c / 16 else if c % 16 = 1 then 20 + c / 16 else if c % 16 = 14 then 13 else if 6 ≤ c % 16 ∧ c % 16 ≤ 10 then c % 16 - 2 else if c % 16 = 11 then 3 else if c % 16 = 12 then 2 else if c % 16 = 13 then 1 else c % 16 + 7
section RV
variable {m0 m : xS} {b : Nat → Int} {n t p : Nat} {ft nu : Int} {rc : List Int} {cs : List (Int × Int × Int × Int)} {op : List Int} {dp ln : Int} {F : Nat}
set_option maxRecDepth 4000 in
theorem R171 (hF : 500 ≤ F) (N : rN m0 b n) (h : rT m0 n p ft nu m) : xP (D171 F m) (fun r m' => rT m0 n (tsk b n p) ft nu m' ∧ ((∃ u : Nat, tix (twd b n p) tw1004 = some u ∧ r.toInt = (u : Int)) ∨ (tix (twd b n p) tw1004 = none ∧ r.toInt = -1))) := by
  unfold D171
  refine xP_b (R167 (W := [116, 111, 111, 108]) (w := 1953460076) hF N h (by decide) (by decide) (by decide)) (fun r0 m0 q0 => ?_)
  obtain ⟨h1, q0⟩ := q0
  dsimp only
  refine xP_i (fun c => ?_) (fun c => xP_r ⟨h1, Or.inl ⟨0, ?_, by decide⟩⟩)
  rotate_left
  · rcases q0 with ⟨-, q⟩ | ⟨q, -⟩
    · rw [q]
      decide
    · rw [q] at c
      cases c
  have n0 : twd b n p ≠ [116, 111, 111, 108] := by
    rcases q0 with ⟨q, -⟩ | ⟨-, q⟩
    · rw [q] at c
      cases c
    · exact q
  clear c q0
  refine xP_b (R167 (W := [107, 105, 110, 100]) (w := 1802071652) hF N h1 (by decide) (by decide) (by decide)) (fun r1 m1 q1 => ?_)
  obtain ⟨h2, q1⟩ := q1
  rw [show tsk b n (tsk b n p) = tsk b n p from tS_id p] at h2
  rw [show twd b n (tsk b n p) = twd b n p from twd_id b n p] at q1
  dsimp only
  refine xP_i (fun c => ?_) (fun c => xP_r ⟨h2, Or.inl ⟨1, ?_, by decide⟩⟩)
  rotate_left
  · rcases q1 with ⟨-, q⟩ | ⟨q, -⟩
    · rw [q]
      decide
    · rw [q] at c
      cases c
  have n1 : twd b n p ≠ [107, 105, 110, 100] := by
    rcases q1 with ⟨q, -⟩ | ⟨-, q⟩
    · rw [q] at c
      cases c
    · exact q
  clear c q1
  refine xP_b (R167 (W := [111, 119, 110, 101, 114]) (w := 478745093490) hF N h2 (by decide) (by decide) (by decide)) (fun r2 m2 q2 => ?_)
  obtain ⟨h3, q2⟩ := q2
  rw [show tsk b n (tsk b n p) = tsk b n p from tS_id p] at h3
  rw [show twd b n (tsk b n p) = twd b n p from twd_id b n p] at q2
  dsimp only
  refine xP_i (fun c => ?_) (fun c => xP_r ⟨h3, Or.inl ⟨2, ?_, by decide⟩⟩)
  rotate_left
  · rcases q2 with ⟨-, q⟩ | ⟨q, -⟩
    · rw [q]
      decide
    · rw [q] at c
      cases c
  have n2 : twd b n p ≠ [111, 119, 110, 101, 114] := by
    rcases q2 with ⟨q, -⟩ | ⟨-, q⟩
    · rw [q] at c
      cases c
    · exact q
  clear c q2
  refine xP_b (R167 (W := [104, 111, 108, 100, 101, 114]) (w := 114827769177458) hF N h3 (by decide) (by decide) (by decide)) (fun r3 m3 q3 => ?_)
  obtain ⟨h4, q3⟩ := q3
  rw [show tsk b n (tsk b n p) = tsk b n p from tS_id p] at h4
  rw [show twd b n (tsk b n p) = twd b n p from twd_id b n p] at q3
  dsimp only
  refine xP_i (fun c => ?_) (fun c => xP_r ⟨h4, Or.inl ⟨3, ?_, by decide⟩⟩)
  rotate_left
  · rcases q3 with ⟨-, q⟩ | ⟨q, -⟩
    · rw [q]
      decide
    · rw [q] at c
      cases c
  have n3 : twd b n p ≠ [104, 111, 108, 100, 101, 114] := by
    rcases q3 with ⟨q, -⟩ | ⟨-, q⟩
    · rw [q] at c
      cases c
    · exact q
  clear c q3
  refine xP_b (R167 (W := [116, 111]) (w := 29807) hF N h4 (by decide) (by decide) (by decide)) (fun r4 m4 q4 => ?_)
  obtain ⟨h5, q4⟩ := q4
  rw [show tsk b n (tsk b n p) = tsk b n p from tS_id p] at h5
  rw [show twd b n (tsk b n p) = twd b n p from twd_id b n p] at q4
  dsimp only
  refine xP_i (fun c => ?_) (fun c => xP_r ⟨h5, Or.inl ⟨4, ?_, by decide⟩⟩)
  rotate_left
  · rcases q4 with ⟨-, q⟩ | ⟨q, -⟩
    · rw [q]
      decide
    · rw [q] at c
      cases c
  have n4 : twd b n p ≠ [116, 111] := by
    rcases q4 with ⟨q, -⟩ | ⟨-, q⟩
    · rw [q] at c
      cases c
    · exact q
  clear c q4
  refine xP_b (R167 (W := [108, 101, 110, 116]) (w := 1818586740) hF N h5 (by decide) (by decide) (by decide)) (fun r5 m5 q5 => ?_)
  obtain ⟨h6, q5⟩ := q5
  rw [show tsk b n (tsk b n p) = tsk b n p from tS_id p] at h6
  rw [show twd b n (tsk b n p) = twd b n p from twd_id b n p] at q5
  dsimp only
  refine xP_i (fun c => ?_) (fun c => xP_r ⟨h6, Or.inl ⟨5, ?_, by decide⟩⟩)
  rotate_left
  · rcases q5 with ⟨-, q⟩ | ⟨q, -⟩
    · rw [q]
      decide
    · rw [q] at c
      cases c
  have n5 : twd b n p ≠ [108, 101, 110, 116] := by
    rcases q5 with ⟨q, -⟩ | ⟨-, q⟩
    · rw [q] at c
      cases c
    · exact q
  clear c q5
  refine xP_b (R167 (W := [115, 104, 97, 114, 112]) (w := 495672455792) hF N h6 (by decide) (by decide) (by decide)) (fun r6 m6 q6 => ?_)
  obtain ⟨h7, q6⟩ := q6
  rw [show tsk b n (tsk b n p) = tsk b n p from tS_id p] at h7
  rw [show twd b n (tsk b n p) = twd b n p from twd_id b n p] at q6
  dsimp only
  refine xP_i (fun c => ?_) (fun c => xP_r ⟨h7, Or.inl ⟨6, ?_, by decide⟩⟩)
  rotate_left
  · rcases q6 with ⟨-, q⟩ | ⟨q, -⟩
    · rw [q]
      decide
    · rw [q] at c
      cases c
  have n6 : twd b n p ≠ [115, 104, 97, 114, 112] := by
    rcases q6 with ⟨q, -⟩ | ⟨-, q⟩
    · rw [q] at c
      cases c
    · exact q
  clear c q6
  refine xP_b (R167 (W := [111, 117, 116]) (w := 7304564) hF N h7 (by decide) (by decide) (by decide)) (fun r7 m7 q7 => ?_)
  obtain ⟨h8, q7⟩ := q7
  rw [show tsk b n (tsk b n p) = tsk b n p from tS_id p] at h8
  rw [show twd b n (tsk b n p) = twd b n p from twd_id b n p] at q7
  dsimp only
  refine xP_i (fun c => ?_) (fun c => xP_r ⟨h8, Or.inl ⟨7, ?_, by decide⟩⟩)
  rotate_left
  · rcases q7 with ⟨-, q⟩ | ⟨q, -⟩
    · rw [q]
      decide
    · rw [q] at c
      cases c
  have n7 : twd b n p ≠ [111, 117, 116] := by
    rcases q7 with ⟨q, -⟩ | ⟨-, q⟩
    · rw [q] at c
      cases c
    · exact q
  clear c q7
  refine xP_b (R167 (W := [100, 97, 121]) (w := 6578553) hF N h8 (by decide) (by decide) (by decide)) (fun r8 m8 q8 => ?_)
  obtain ⟨h9, q8⟩ := q8
  rw [show tsk b n (tsk b n p) = tsk b n p from tS_id p] at h9
  rw [show twd b n (tsk b n p) = twd b n p from twd_id b n p] at q8
  dsimp only
  refine xP_i (fun c => ?_) (fun c => xP_r ⟨h9, Or.inl ⟨8, ?_, by decide⟩⟩)
  rotate_left
  · rcases q8 with ⟨-, q⟩ | ⟨q, -⟩
    · rw [q]
      decide
    · rw [q] at c
      cases c
  have n8 : twd b n p ≠ [100, 97, 121] := by
    rcases q8 with ⟨q, -⟩ | ⟨-, q⟩
    · rw [q] at c
      cases c
    · exact q
  clear c q8
  refine xP_b (R167 (W := [110, 101, 101, 100]) (w := 1852138852) hF N h9 (by decide) (by decide) (by decide)) (fun r9 m9 q9 => ?_)
  obtain ⟨h10, q9⟩ := q9
  rw [show tsk b n (tsk b n p) = tsk b n p from tS_id p] at h10
  rw [show twd b n (tsk b n p) = twd b n p from twd_id b n p] at q9
  dsimp only
  refine xP_i (fun c => ?_) (fun c => xP_r ⟨h10, Or.inl ⟨9, ?_, by decide⟩⟩)
  rotate_left
  · rcases q9 with ⟨-, q⟩ | ⟨q, -⟩
    · rw [q]
      decide
    · rw [q] at c
      cases c
  have n9 : twd b n p ≠ [110, 101, 101, 100] := by
    rcases q9 with ⟨q, -⟩ | ⟨-, q⟩
    · rw [q] at c
      cases c
    · exact q
  clear c q9
  refine xP_b (R167 (W := [112, 97, 121]) (w := 7364985) hF N h10 (by decide) (by decide) (by decide)) (fun r10 m10 q10 => ?_)
  obtain ⟨h11, q10⟩ := q10
  rw [show tsk b n (tsk b n p) = tsk b n p from tS_id p] at h11
  rw [show twd b n (tsk b n p) = twd b n p from twd_id b n p] at q10
  dsimp only
  refine xP_i (fun c => ?_) (fun c => xP_r ⟨h11, Or.inl ⟨10, ?_, by decide⟩⟩)
  rotate_left
  · rcases q10 with ⟨-, q⟩ | ⟨q, -⟩
    · rw [q]
      decide
    · rw [q] at c
      cases c
  have n10 : twd b n p ≠ [112, 97, 121] := by
    rcases q10 with ⟨q, -⟩ | ⟨-, q⟩
    · rw [q] at c
      cases c
    · exact q
  clear c q10
  refine xP_b (R167 (W := [111, 119, 101, 115]) (w := 1870095731) hF N h11 (by decide) (by decide) (by decide)) (fun r11 m11 q11 => ?_)
  obtain ⟨h12, q11⟩ := q11
  rw [show tsk b n (tsk b n p) = tsk b n p from tS_id p] at h12
  rw [show twd b n (tsk b n p) = twd b n p from twd_id b n p] at q11
  dsimp only
  refine xP_i (fun c => ?_) (fun c => xP_r ⟨h12, Or.inl ⟨11, ?_, by decide⟩⟩)
  rotate_left
  · rcases q11 with ⟨-, q⟩ | ⟨q, -⟩
    · rw [q]
      decide
    · rw [q] at c
      cases c
  have n11 : twd b n p ≠ [111, 119, 101, 115] := by
    rcases q11 with ⟨q, -⟩ | ⟨-, q⟩
    · rw [q] at c
      cases c
    · exact q
  clear c q11
  refine xP_b (R167 (W := [116, 114, 117, 115, 116, 115]) (w := 128034945594483) hF N h12 (by decide) (by decide) (by decide)) (fun r12 m12 q12 => ?_)
  obtain ⟨h13, q12⟩ := q12
  rw [show tsk b n (tsk b n p) = tsk b n p from tS_id p] at h13
  rw [show twd b n (tsk b n p) = twd b n p from twd_id b n p] at q12
  dsimp only
  refine xP_i (fun c => xP_r ⟨h13, Or.inr ⟨?_, by decide⟩⟩) (fun c => xP_r ⟨h13, Or.inl ⟨12, ?_, by decide⟩⟩)
  · have n12 : twd b n p ≠ [116, 114, 117, 115, 116, 115] := by
      rcases q12 with ⟨q, -⟩ | ⟨-, q⟩
      · rw [q] at c
        cases c
      · exact q
    show tix (twd b n p) [[116, 111, 111, 108], [107, 105, 110, 100], [111, 119, 110, 101, 114], [104, 111, 108, 100, 101, 114], [116, 111], [108, 101, 110, 116], [115, 104, 97, 114, 112], [111, 117, 116], [100, 97, 121], [110, 101, 101, 100], [112, 97, 121], [111, 119, 101, 115], [116, 114, 117, 115, 116, 115]] = none
    rw [tix_ne n0, tix_ne n1, tix_ne n2, tix_ne n3, tix_ne n4, tix_ne n5, tix_ne n6, tix_ne n7, tix_ne n8, tix_ne n9, tix_ne n10, tix_ne n11, tix_ne n12]
    rfl
  · rcases q12 with ⟨-, q⟩ | ⟨q, -⟩
    · rw [q]
      decide
    · rw [q] at c
      cases c
/-- value -/
theorem R177 {kk : Nat} (hF : 500 ≤ F) (N : rN m0 b n) (ht : t < 6) (hT : (m0.1 70 11).toInt = (t : Int)) (h : rC m0 n t p 0 nu (kk : Int) rc cs op dp ln m) (hk : kk ≤ 60) (l : rc.length < 400) : xP (D177 F m) (fun v m' => (∃ f, tval b n p kk = .inl f ∧ f ≠ 0 ∧ v = 0 ∧ rF m0 f m') ∨ (∃ x c nu', tval b n p kk = .inr x ∧ v = 1 ∧ tenc c = x.2 ∧ rC m0 n t x.1 0 nu' ((kk + 1 : Nat) : Int) (c :: rc) cs op dp ln m')) := by
  have n4 := N.2.1
  have pn : p ≤ n := h.2.2.1.2
  have l4 : tS tbl b n p ≤ n := tS_le p pn
  unfold D177 D177_39
  refine xP_b (R164 hF (rN_t N h) (rC_t h)) (fun v1 m1 q => ?_)
  obtain ⟨q, qv⟩ := q
  have c1 := rC_T h q
  have h3 := c1.2.2.1
  refine xP_b (R165 (rN_t N c1) (rC_t c1) h3.1) (fun r mx q1 => ?_)
  obtain ⟨rfl, q1⟩ := q1
  dsimp only
  refine xP_i (fun c => ?_) (fun c => ?_)
  · have nd : ¬ (tS tbl b n p < n ∧ tdg (b (tS tbl b n p)) = true) := by
      rcases q1 with ⟨q1, -⟩ | ⟨-, q1⟩
      · rw [q1] at c
        cases c
      · exact q1
    have dg : ¬ tdg (tsg b n (tsk b n p)) = true := by
      unfold tsg tsk
      split
      · next z => exact fun y => nd ⟨z, y⟩
      · decide
    have tv0 : tval b n p kk = (match tix (twd b n p) tw1004 with
      | none => .inl (1 + 8 * (tsk b n p : Int))
      | some u => if 60 ≤ kk then .inl (1 + 8 * (tsk b n p : Int) + 3) else .inr (tle b n p, 20 + (u : Int))) := by
      unfold tval
      rw [if_neg dg]
      cases tix (twd b n p) tw1004 <;> rfl
    rw [tv0]
    refine xP_b (R171 hF (rN_t N c1) (rC_t c1)) (fun r2 m2 q2 => ?_)
    obtain ⟨q2, q3⟩ := q2
    have c2 := rC_T c1 q2
    rw [show tsk b n (tS tbl b n p) = tS tbl b n p from tS_id p] at c2
    rw [twd_id] at q3
    have h32 := c2.2.2.1
    dsimp only
    refine xP_i (fun d => ?_) (fun d => ?_)
    · have d : (0 : Int) ≤ r2.toInt := zt d
      rcases q3 with ⟨u, q3, q4⟩ | ⟨-, q3⟩
      · have ub : u < 13 := tix_b _ _ _ q3
        rw [q3]
        refine xP_b (R173 (a := mx.1 70 8) c2 hk (by omega) (by omega)) (fun r3 m3 q5 => ?_)
        dsimp only
        rcases q5 with ⟨z, rfl, q5⟩ | ⟨z, rfl, q5⟩
        · refine xP_i (fun e => absurd e (by decide)) (fun _ => xP_r (Or.inl ⟨_, if_pos z, ?_, rfl, ?_⟩))
          · show 1 + 8 * ((tS tbl b n p : Nat) : Int) + 3 ≠ 0
            omega
          · rw [h3.1] at q5
            exact ⟨_, _, _, _, _, _, _, _, _, _, hT, q5⟩
        · refine xP_i (fun _ => ?_) (fun e => absurd e (by decide))
          refine xP_b (R168 hF (rN_t N q5) (rC_t q5)) (fun _ m4 q6 => ?_)
          have c4 := rC_T q5 q6
          have e16 : (1 + 16 * r2).toInt = 1 + 16 * (u : Int) := by
            have e1 : (16 * r2).toInt = 16 * r2.toInt := xm1 (by show _ ≤ (16 : Int) * _; omega) (by show (16 : Int) * _ ≤ _; omega)
            exact (xa1 (by show _ ≤ (1 : Int) + _; omega) (by show (1 : Int) + _ ≤ _; omega)).trans (by rw [e1, q4]; rfl)
          refine xP_b (R172 (s := 1) (v := r2) ht hT c4 l e16) (fun _ m5 q7 => xP_r (Or.inr ⟨_, _, _, if_neg z, rfl, ?_, q7.1⟩))
          show tenc (1 + 16 * (u : Int)) = 20 + (u : Int)
          unfold tenc
          rw [if_neg (by omega), if_pos (by omega)]
          omega
      · omega
    · have d : ¬ (0 : Int) ≤ r2.toInt := zf d
      rcases q3 with ⟨u, q3, q4⟩ | ⟨q3, -⟩
      · omega
      · rw [q3]
        refine xP_b (R163c c2 (by omega) (by omega) (by decide) (by decide)) (fun r3 m3 q5 => ?_)
        obtain ⟨rfl, q5⟩ := q5
        refine xP_g (show xbo (0 : Int32) = true by decide) (xP_r (Or.inl ⟨_, rfl, ?_, rfl, ?_⟩))
        · show 1 + 8 * ((tS tbl b n p : Nat) : Int) ≠ 0
          omega
        · rw [h3.1, show (1 + 8 * ((tS tbl b n p : Nat) : Int) + (0 : Int32).toInt) = 1 + 8 * ((tS tbl b n p : Nat) : Int) from Int.add_zero _] at q5
          exact ⟨_, _, _, _, _, _, _, _, _, _, hT, q5⟩
  · have nd : tS tbl b n p < n ∧ tdg (b (tS tbl b n p)) = true := by
      rcases q1 with ⟨-, q1⟩ | ⟨q1, -⟩
      · exact q1
      · rw [q1] at c
        cases c
    have dg : tdg (tsg b n (tsk b n p)) = true := by
      unfold tsg tsk
      rw [if_pos nd.1]
      exact nd.2
    have tv0 : tval b n p kk = (if 5 < tde b n p - tsk b n p then .inl (1 + 8 * (tsk b n p : Int) + 1) else if 60 ≤ kk then .inl (1 + 8 * (tsk b n p : Int) + 3) else .inr (tde b n p, 40 + tv b (tsk b n p) (tde b n p - tsk b n p))) := by
      unfold tval
      rw [if_pos dg]
    rw [tv0]
    have tb := tv_b (b := b) (p := tS tbl b n p) (n := tS tdg b n (tS tbl b n p) - tS tbl b n p) (fun j j1 j2 j3 => by
      have := (tS_in (P := tdg) (b := b) (n := n) (tS tbl b n p) j j1 (by omega)).2
      unfold tdg at this
      simp only [Bool.and_eq_true, decide_eq_true_eq] at this
      exact this) (min (tS tdg b n (tS tbl b n p) - tS tbl b n p) 5) (Nat.min_le_right _ _) (Nat.min_le_left _ _)
    have tb2 : tv b (tS tbl b n p) (min (tS tdg b n (tS tbl b n p) - tS tbl b n p) 5) < 100000 := by
      refine Int.lt_of_lt_of_le tb.2 ?_
      have : min (tS tdg b n (tS tbl b n p) - tS tbl b n p) 5 = 0 ∨ min (tS tdg b n (tS tbl b n p) - tS tbl b n p) 5 = 1 ∨ min (tS tdg b n (tS tbl b n p) - tS tbl b n p) 5 = 2 ∨ min (tS tdg b n (tS tbl b n p) - tS tbl b n p) 5 = 3 ∨ min (tS tdg b n (tS tbl b n p) - tS tbl b n p) 5 = 4 ∨ min (tS tdg b n (tS tbl b n p) - tS tbl b n p) 5 = 5 := by omega
      rcases this with z | z | z | z | z | z <;> (rw [z]; decide)
    refine xP_b (R170 (lo := 0) (hi := 99999) hF (rN_t N c1) (rC_t c1)) (fun r2 m2 q2 => ?_)
    simp only [tsk, tde, tS_id] at q2
    rw [show (0 : Int32).toInt = 0 from rfl, show (99999 : Int32).toInt = 99999 from rfl] at q2
    dsimp only
    rcases q2 with ⟨z, -⟩ | ⟨-, ⟨z, rfl, q2⟩ | ⟨z, rfl, q2⟩⟩
    · exact absurd nd z
    · have z5 : 5 < tS tdg b n (tS tbl b n p) - tS tbl b n p := by
        rcases z with z | z | z
        · exact z
        · omega
        · omega
      have c2 := rC_T c1 q2
      rw [show trf 0 (1 + 8 * ((tS tbl b n p : Nat) : Int) + 1) = 1 + 8 * ((tS tbl b n p : Nat) : Int) + 1 from if_pos rfl] at c2
      refine xP_i (fun _ => xP_r (Or.inl ⟨_, if_pos z5, ?_, rfl, ?_⟩)) (fun e => absurd e (by decide))
      · show 1 + 8 * ((tS tbl b n p : Nat) : Int) + 1 ≠ 0
        omega
      · exact ⟨_, _, _, _, _, _, _, _, _, _, hT, c2⟩
    · have z5 : ¬ 5 < tS tdg b n (tS tbl b n p) - tS tbl b n p := fun y => z (Or.inl y)
      have c2 := rC_T c1 q2
      rw [show min (tS tdg b n (tS tbl b n p) - tS tbl b n p) 5 = tS tdg b n (tS tbl b n p) - tS tbl b n p by omega] at c2 tb tb2
      refine xP_i (fun e => absurd e (by decide)) (fun _ => ?_)
      refine xP_b (R173 (a := mx.1 70 8) c2 hk (by omega) (by omega)) (fun r3 m3 q5 => ?_)
      dsimp only
      rcases q5 with ⟨z6, rfl, q5⟩ | ⟨z6, rfl, q5⟩
      · refine xP_i (fun e => absurd e (by decide)) (fun _ => xP_r (Or.inl ⟨_, (if_neg z5).trans (if_pos z6), ?_, rfl, ?_⟩))
        · show 1 + 8 * ((tS tbl b n p : Nat) : Int) + 3 ≠ 0
          omega
        · rw [h3.1] at q5
          exact ⟨_, _, _, _, _, _, _, _, _, _, hT, q5⟩
      · refine xP_i (fun _ => ?_) (fun e => absurd e (by decide))
        have h5 := q5.2.2.2.2.1
        have e16 : (0 + 16 * (m3.1 70 10)).toInt = 16 * tv b (tS tbl b n p) (tS tdg b n (tS tbl b n p) - tS tbl b n p) := by
          have e1 : (16 * (m3.1 70 10)).toInt = 16 * (m3.1 70 10).toInt := xm1 (by show _ ≤ (16 : Int) * _; omega) (by show (16 : Int) * _ ≤ _; omega)
          exact (xa1 (by show _ ≤ (0 : Int) + _; omega) (by show (0 : Int) + _ ≤ _; omega)).trans (by rw [e1, h5]; exact Int.zero_add _)
        refine xP_b (R172 (s := 0) (v := m3.1 70 10) ht hT q5 l e16) (fun _ m5 q7 => xP_r (Or.inr ⟨_, _, _, (if_neg z5).trans (if_neg z6), rfl, ?_, q7.1⟩))
        show tenc (16 * tv b (tS tbl b n p) (tS tdg b n (tS tbl b n p) - tS tbl b n p)) = 40 + tv b (tS tbl b n p) (tS tdg b n (tS tbl b n p) - tS tbl b n p)
        unfold tenc
        rw [if_pos (by omega)]
        omega
end RV
end
section
/-! The reference's terms and sums: the machine does the same. -/
def stn (b : Nat → Int) (n : Nat) : Nat → tSt → Int ⊕ tSt
  | 0, s => .inr s
  | j + 1, s => match tstp b n s with
    | .inl f => .inl f
    | .inr s' => stn b n j s'
theorem stn_add {b : Nat → Int} {n : Nat} {j : Nat} : ∀ (i : Nat) {s s' : tSt}, stn b n i s = .inr s' → stn b n (i + j) s = stn b n j s' := by
  intro i
  induction i with
  | zero =>
    intro s s' h
    have h : Sum.inr s = (Sum.inr s' : Int ⊕ tSt) := h
    rw [Nat.zero_add, Sum.inr.inj h]
  | succ i ih =>
    intro s s' h
    rw [show i + 1 + j = (i + j) + 1 by omega]
    have h : (match tstp b n s with
      | .inl f => (Sum.inl f : Int ⊕ tSt)
      | .inr s' => stn b n i s') = (Sum.inr s' : Int ⊕ tSt) := h
    show (match tstp b n s with
      | .inl f => (Sum.inl f : Int ⊕ tSt)
      | .inr s' => stn b n (i + j) s') = _
    cases e : tstp b n s with
    | inl f => rw [e] at h; cases h
    | inr s1 =>
      rw [e] at h
      exact ih h
theorem stn_1 {b : Nat → Int} {n : Nat} {s : tSt} {x : Int ⊕ tSt} (h : tstp b n s = x) : stn b n 1 s = x := by
  show (match tstp b n s with
    | .inl f => .inl f
    | .inr s' => .inr s') = x
  rw [h]
  cases x <;> rfl
theorem tSe_stop {o : Int} {ws out : List Int} (h : ∀ w vs, ws = w :: vs → tcl w < tcl o) : tSe o ws out = (out, ws, 0) := by
  cases ws with
  | nil => rfl
  | cons w vs =>
    have := h w vs rfl
    exact if_neg (by omega)
theorem tSe_app {o : Int} {ws : List Int} (h : ∀ w vs, ws = w :: vs → tcl w < tcl o) : ∀ (Z out : List Int), (∀ z ∈ Z, tcl o ≤ tcl z) → (tSe o (Z ++ ws) out).1 = Z.reverse ++ out ∧ (tSe o (Z ++ ws) out).2.1 = ws := by
  intro Z
  induction Z with
  | nil =>
    intro out _
    rw [List.nil_append, tSe_stop h]
    exact ⟨rfl, rfl⟩
  | cons z Z ih =>
    intro out hz
    have e : tSe o (z :: (Z ++ ws)) out = ((tSe o (Z ++ ws) (z :: out)).1, (tSe o (Z ++ ws) (z :: out)).2.1, (tSe o (Z ++ ws) (z :: out)).2.2 + (if z = 3 then 1 else 0)) := if_pos (hz z List.mem_cons_self)
    obtain ⟨a1, a2⟩ := ih (z :: out) (fun y hy => hz y (List.mem_cons_of_mem _ hy))
    rw [List.cons_append, e]
    refine ⟨?_, a2⟩
    show (tSe o (Z ++ ws) (z :: out)).1 = _
    rw [a1, List.reverse_cons, List.append_assoc]
    rfl
theorem tval_eq {b : Nat → Int} {n p q k : Nat} (h : tsk b n p = tsk b n q) : tval b n p k = tval b n q k := by
  have h : tS tbl b n p = tS tbl b n q := h
  unfold tval tsk tde twd tle
  rw [h]
theorem tval_lt {b : Nat → Int} {n p k : Nat} {x : Nat × Int} (pn : p ≤ n) (a1 : tval b n p k = .inr x) : tsk b n p < x.1 ∧ x.1 ≤ n ∧ k < 60 := by
  have l4 : tS tbl b n p ≤ n := tS_le p pn
  unfold tval at a1
  split at a1
  · next dg =>
    split at a1
    · cases a1
    · split at a1
      · cases a1
      · next z1 z2 =>
        have ln := tsg_lt (b := b) (n := n) (p := tsk b n p) rfl (fun z => by rw [z] at dg; cases dg)
        have ld : tS tbl b n p < tS tdg b n (tS tbl b n p) := tS_lt ln.1 (by rw [ln.2]; exact dg)
        have a1 := Sum.inr.inj a1
        rw [← a1]
        exact ⟨ld, tS_le _ l4, by omega⟩
  · split at a1
    · cases a1
    · next u hu =>
      split at a1
      · cases a1
      · next z2 =>
        have a1 := Sum.inr.inj a1
        rw [← a1]
        refine ⟨?_, tS_le _ l4, by omega⟩
        show tS tbl b n p < tS tlt b n (tS tbl b n p)
        have ne : twd b n p ≠ [] := fun z => by
          rw [z] at hu
          have : tix ([] : List Int) tw1004 = none := by decide
          rw [this] at hu
          cases hu
        have g3 : tS tbl b n p ≤ tS tlt b n (tS tbl b n p) := tS_ge _
        by_cases e : tS tlt b n (tS tbl b n p) = tS tbl b n p
        · exact absurd (show twd b n p = [] by show tw b (tS tbl b n p) (tS tlt b n (tS tbl b n p)) = []; rw [e, tw_nil]) ne
        · omega
section RS
variable {m0 m : xS} {b : Nat → Int} {n t : Nat} {cs : List (Int × Int × Int × Int)} {op : List Int} {dp ln : Int} {F : Nat} {s0 : tSt} {pm0 : Nat} {Wt : List Int} {cl wh : Nat} {rp ou : List Int}
/-- both stand behind a value; Z waits in the machine and stands in the code already -/
def rY (m0 : xS) (b : Nat → Int) (n t : Nat) (cs : List (Int × Int × Int × Int)) (op : List Int) (dp ln : Int) (rp ou : List Int) (s0 : tSt) (pm0 : Nat) (Wt : List Int) (cl wh : Nat) (lo : Int) (pr : Nat) (m : xS) : Prop := ∃ (j pm k : Nat) (nu : Int) (rc out Z : List Int), stn b n j s0 = .inr (pm, k, out ++ ou, Z ++ Wt, cl, 3, wh) ∧ pm0 + j ≤ pm ∧ pm ≤ pr ∧ tsk b n pr = tsk b n pm ∧ (∀ z ∈ Z, lo ≤ tcl z) ∧ rc.map tenc = Z.reverse ++ out ∧ (rp.length ≤ ou.length ∧ out.length + ou.length + Z.length + Wt.length + 1 ≤ pm) ∧ k ≤ 60 ∧ rC m0 n t pr 0 nu (k : Int) (rc ++ rp) cs op dp ln m
def rZ (m0 : xS) (b : Nat → Int) (n : Nat) (s0 : tSt) (pm0 : Nat) (m : xS) : Prop := ∃ (j : Nat) (g : Int), g ≠ 0 ∧ stn b n j s0 = .inl g ∧ pm0 + j ≤ n + 1 ∧ rF m0 g m
def rX (m0 : xS) (b : Nat → Int) (n t : Nat) (cs : List (Int × Int × Int × Int)) (op : List Int) (dp ln : Int) (rp ou : List Int) (s0 : tSt) (pm0 : Nat) (Wt : List Int) (cl wh : Nat) (lo : Int) (C : Int → Prop) (v : Int32) (m : xS) : Prop := (v = 0 ∧ rZ m0 b n s0 pm0 m) ∨ (v = 1 ∧ ∃ pr, C (tsg b n (tsk b n pr)) ∧ rY m0 b n t cs op dp ln rp ou s0 pm0 Wt cl wh lo pr m)
theorem rZ_tr {i : Nat} {s1 : tSt} {pm1 : Nat} (h : stn b n i s0 = .inr s1) (l : pm0 + i ≤ pm1) (z : rZ m0 b n s1 pm1 m) : rZ m0 b n s0 pm0 m := by
  obtain ⟨j, g, a1, a2, a3, a4⟩ := z
  exact ⟨i + j, g, a1, (stn_add i h).trans a2, by omega, a4⟩
theorem rY_tr {i : Nat} {s1 : tSt} {pm1 pr : Nat} {lo : Int} (h : stn b n i s0 = .inr s1) (l : pm0 + i ≤ pm1) (z : rY m0 b n t cs op dp ln rp ou s1 pm1 Wt cl wh lo pr m) : rY m0 b n t cs op dp ln rp ou s0 pm0 Wt cl wh lo pr m := by
  obtain ⟨j, pm, k, nu, rc, out, Z, a1, a2, a3⟩ := z
  exact ⟨i + j, pm, k, nu, rc, out, Z, (stn_add i h).trans a1, by omega, a3⟩
/-- a value: both read it -/
theorem R177s {pm pr k : Nat} {nu : Int} {rc out : List Int} (hF : 500 ≤ F) (N : rN m0 b n) (ht : t < 6) (hT : (m0.1 70 11).toInt = (t : Int)) (hs : tstp b n s0 = tvs b n pm k (out ++ ou) Wt cl wh) (l0 : pm0 ≤ pm) (l1 : pm ≤ pr) (e : tsk b n pr = tsk b n pm) (hr : rc.map tenc = out) (hl : rp.length ≤ ou.length ∧ out.length + ou.length + Wt.length + 1 ≤ pm) (hk : k ≤ 60) (h : rC m0 n t pr 0 nu (k : Int) (rc ++ rp) cs op dp ln m) : xP (D177 F m) (fun v m' => (v = 0 ∧ rZ m0 b n s0 pm0 m') ∨ (v = 1 ∧ ∃ (pr' : Nat) (nu' : Int) (rc' out' : List Int), stn b n 1 s0 = .inr (pr', k + 1, out' ++ ou, Wt, cl, 3, wh) ∧ pm0 + 1 ≤ pr' ∧ rc'.map tenc = out' ∧ (rp.length ≤ ou.length ∧ out'.length + ou.length + Wt.length + 1 ≤ pr') ∧ k + 1 ≤ 60 ∧ rC m0 n t pr' 0 nu' ((k + 1 : Nat) : Int) (rc' ++ rp) cs op dp ln m')) := by
  have n4 := N.2.1
  have prn : pr ≤ n := h.2.2.1.2
  have rl : rc.length = out.length := by rw [← hr, List.length_map]
  refine xP_m (R177 hF N ht hT h hk (by rw [List.length_append]; omega)) (fun v m' q => ?_)
  rcases q with ⟨f, a1, a2, a3, a4⟩ | ⟨x, c, nu', a1, a2, a3, a4⟩
  · refine Or.inl ⟨a3, 1, f, a2, ?_, by omega, a4⟩
    refine stn_1 (hs.trans ?_)
    unfold tvs
    rw [← tval_eq e, a1]
  · refine Or.inr ⟨a2, x.1, nu', c :: rc, x.2 :: out, ?_, ?_, ?_, ?_, ?_, a4⟩
    · refine stn_1 (hs.trans ?_)
      unfold tvs
      rw [← tval_eq e, a1]
      rfl
    · have := (tval_lt prn a1).1
      have g : pr ≤ tsk b n pr := tS_ge pr
      omega
    · rw [List.map_cons, hr, a3]
    · have := (tval_lt prn a1).1
      have g : pr ≤ tsk b n pr := tS_ge pr
      rw [List.length_cons]
      exact ⟨hl.1, by omega⟩
    · have := (tval_lt prn a1).2.2
      omega
abbrev cT (c : Int) : Prop := c ≠ 42 ∧ c ≠ 47 ∧ c ≠ 37
abbrev cS (c : Int) : Prop := topr c = -1
/-- behind an operation's sign: the machine joins, both read a value, the reference puts the operation -/
theorem R178_74 {o : Int} {w0 : Int32} {pr : Nat} {g : xS → Option (Int32 × xS)} (hF : 500 ≤ F) (N : rN m0 b n) (ht : t < 6) (hT : (m0.1 70 11).toInt = (t : Int)) (hw : wh ≠ 3) (hst : ∀ w vs, Wt = w :: vs → tcl w < 11) (h : rY m0 b n t cs op dp ln rp ou s0 pm0 Wt cl wh 11 pr m) (ps : tsk b n pr = pr) (ho : topr (tsg b n pr) = o) (o1 : tcl o = 11) (o2 : o ≠ -1) (lt : pr < n) (hc : tenc (w0 + 16 * 0 : Int32).toInt = o) (IH : ∀ m' pr', rY m0 b n t cs op dp ln rp ou s0 pm0 Wt cl wh 11 pr' m' → pr < pr' → xP (g m') (rX m0 b n t cs op dp ln rp ou s0 pm0 Wt cl wh 11 cT)) : xP (D178_74 F g w0 m) (rX m0 b n t cs op dp ln rp ou s0 pm0 Wt cl wh 11 cT) := by
  have n4 := N.2.1
  obtain ⟨j, pm, k, nu, rc, out, Z, a1, a2, a3, a4, a5, a6, a7, a8, a9⟩ := h
  have h3 := a9.2.2.1
  have hM := rC_T a9 (rT_p (v := m.1 70 8 + 1) (x := pr + 1) (rC_t a9) ((xa1 (by show _ ≤ _ + (1 : Int); omega) (by show _ + (1 : Int) ≤ _; omega)).trans (by rw [h3.1]; rfl)) n4 lt)
  have ea : tsk b n pm = pr := by rw [← a4, ps]
  have step : tstp b n (pm, k, out ++ ou, Z ++ Wt, cl, 3, wh) = .inr (pr + 1, k, (Z.reverse ++ out) ++ ou, o :: Wt, cl, 2, wh) := by
    have e2 := tSe_app (o := o) (ws := Wt) (by rw [o1]; exact hst) Z (out ++ ou) (by rw [o1]; exact a5)
    show tjnt b n pm k (out ++ ou) (Z ++ Wt) cl wh = _
    unfold tjnt
    rw [ea, ho, if_pos ⟨hw, o2⟩, e2.1, e2.2, List.append_assoc]
  have st2 : stn b n (j + 1) s0 = .inr (pr + 1, k, (Z.reverse ++ out) ++ ou, o :: Wt, cl, 2, wh) := (stn_add j a1).trans (stn_1 step)
  have rl : rc.length = Z.length + out.length := by
    have := congrArg List.length a6
    rw [List.length_map, List.length_append, List.length_reverse] at this
    exact this
  unfold D178_74
  refine xP_b (R177s (s0 := (pr + 1, k, (Z.reverse ++ out) ++ ou, o :: Wt, cl, 2, wh)) (pm0 := pr + 1) (pm := pr + 1) (pr := pr + 1) (Wt := o :: Wt) (cl := cl) (wh := wh) hF N ht hT rfl (Nat.le_refl _) (Nat.le_refl _) rfl a6 (by rw [List.length_append, List.length_reverse, List.length_cons]; exact ⟨a7.1, by omega⟩) a8 hM) (fun v m2 q => ?_)
  dsimp only
  rcases q with ⟨rfl, q⟩ | ⟨rfl, pr', nu', rc', out', b1, b2, b3, b4, b5, b6⟩
  · exact xP_i (fun c => absurd c (by decide)) (fun _ => xP_r (Or.inl ⟨rfl, rZ_tr st2 (by omega) q⟩))
  · refine xP_i (fun _ => ?_) (fun c => absurd c (by decide))
    have prn : pr' ≤ n := b6.2.2.1.2
    have rl' : rc'.length = out'.length := by rw [← b3, List.length_map]
    rw [List.length_cons] at b4
    refine xP_b (R172 (s := w0) (v := 0) (c := (w0 + 16 * 0 : Int32).toInt) ht hT b6 (by rw [List.length_append]; omega) rfl) (fun _ m3 q3 => ?_)
    refine IH m3 pr' ⟨j + 1 + 1, pr', k + 1, nu', (w0 + 16 * 0 : Int32).toInt :: rc', out', [o], ?_, by omega, Nat.le_refl _, rfl, ?_, ?_, ?_, b5, q3.1⟩ (by omega)
    · exact (stn_add (j + 1) st2).trans b1
    · intro z hz
      rw [List.mem_singleton.mp hz, o1]
      exact Int.le_refl _
    · rw [List.map_cons, hc, b3]
      rfl
    · show rp.length ≤ ou.length ∧ out'.length + ou.length + 1 + Wt.length + 1 ≤ pr'
      exact ⟨b4.1, by omega⟩
theorem rbyte {m : xS} {pr : Nat} {nu k : Int} {rc : List Int} {c : Int} (N : rN m0 b n) (h : rC m0 n t pr 0 nu k rc cs op dp ln m) (lt : pr < n) (hc : 0 ≤ c ∧ c < 128) : (m.1 71 pr).toInt = c ↔ b pr = c := by
  obtain ⟨z1, z2⟩ := (rN_t N h).2.2 pr lt
  rw [z2]
  split <;> omega
theorem R178_36 {pr : Nat} {g : xS → Option (Int32 × xS)} (hF : 500 ≤ F) (N : rN m0 b n) (ht : t < 6) (hT : (m0.1 70 11).toInt = (t : Int)) (hw : wh ≠ 3) (hst : ∀ w vs, Wt = w :: vs → tcl w < 11) (h : rY m0 b n t cs op dp ln rp ou s0 pm0 Wt cl wh 11 pr m) (ps : tsk b n pr = pr) (ho : tsg b n pr = 42 ∨ tsg b n pr = 47 ∨ tsg b n pr = 37) (IH : ∀ m' pr', rY m0 b n t cs op dp ln rp ou s0 pm0 Wt cl wh 11 pr' m' → pr < pr' → xP (g m') (rX m0 b n t cs op dp ln rp ou s0 pm0 Wt cl wh 11 cT)) : xP (D178_36 F g m) (rX m0 b n t cs op dp ln rp ou s0 pm0 Wt cl wh 11 cT) := by
  have n4 := N.2.1
  have h0 := h
  obtain ⟨j, pm, k, nu, rc, out, Z, a1, a2, a3, a4, a5, a6, a7, a8, a9⟩ := h
  have h3 := a9.2.2.1
  have lt : pr < n ∧ b pr = tsg b n pr := by
    rcases ho with z | z | z
    · exact ⟨(tsg_lt z (by decide)).1, (tsg_lt z (by decide)).2.trans z.symm⟩
    · exact ⟨(tsg_lt z (by decide)).1, (tsg_lt z (by decide)).2.trans z.symm⟩
    · exact ⟨(tsg_lt z (by decide)).1, (tsg_lt z (by decide)).2.trans z.symm⟩
  have xi : xib (m.1 70 8) 400 = true := xib_t (by omega) (by omega)
  unfold D178_36
  rw [rC_i a9]
  refine xP_g xi (xP_i (fun c => xP_g xi (xP_i (fun d => ?_) (fun d => ?_))) (fun c => ?_))
  · have c : (m.1 71 pr).toInt ≠ 42 := zt c
    have d : (m.1 71 pr).toInt ≠ 47 := zt d
    have e : tsg b n pr = 37 := by
      rcases ho with z | z | z
      · exact absurd ((rbyte N a9 lt.1 (by decide)).mpr (lt.2.trans z)) c
      · exact absurd ((rbyte N a9 lt.1 (by decide)).mpr (lt.2.trans z)) d
      · exact z
    exact R178_74 (o := 13) hF N ht hT hw hst h0 ps (by rw [e]; decide) (by decide) (by decide) lt.1 (by decide) IH
  · have d : (m.1 71 pr).toInt = 47 := Decidable.not_not.mp (zf d)
    have e : tsg b n pr = 47 := lt.2.symm.trans ((rbyte N a9 lt.1 (by decide)).mp d)
    exact R178_74 (o := 12) hF N ht hT hw hst h0 ps (by rw [e]; decide) (by decide) (by decide) lt.1 (by decide) IH
  · have c : (m.1 71 pr).toInt = 42 := Decidable.not_not.mp (zf c)
    have e : tsg b n pr = 42 := lt.2.symm.trans ((rbyte N a9 lt.1 (by decide)).mp c)
    exact R178_74 (o := 11) hF N ht hT hw hst h0 ps (by rw [e]; decide) (by decide) (by decide) lt.1 (by decide) IH
/-- see, where both stand behind a value -/
theorem R164y {pr : Nat} {lo : Int} (hF : 500 ≤ F) (N : rN m0 b n) (h : rY m0 b n t cs op dp ln rp ou s0 pm0 Wt cl wh lo pr m) : xP (D164 F m) (fun v m' => rY m0 b n t cs op dp ln rp ou s0 pm0 Wt cl wh lo (tsk b n pr) m' ∧ v.toInt = tsg b n (tsk b n pr)) := by
  obtain ⟨j, pm, k, nu, rc, out, Z, a1, a2, a3, a4, a5, a6, a7, a8, a9⟩ := h
  refine xP_m (R164 hF (rN_t N a9) (rC_t a9)) (fun v m' q => ⟨⟨j, pm, k, nu, rc, out, Z, a1, a2, ?_, ?_, a5, a6, a7, a8, rC_T a9 q.1⟩, q.2⟩)
  · have := tS_ge (P := tbl) (b := b) (n := n) pr
    exact Nat.le_trans a3 this
  · rw [show tsk b n (tsk b n pr) = tsk b n pr from tS_id pr, a4]
theorem R178_9 (hF : 500 ≤ F) (N : rN m0 b n) (ht : t < 6) (hT : (m0.1 70 11).toInt = (t : Int)) (hw : wh ≠ 3) (hst : ∀ w vs, Wt = w :: vs → tcl w < 11) : ∀ (f : Nat) {pr : Nat} {m : xS}, rY m0 b n t cs op dp ln rp ou s0 pm0 Wt cl wh 11 pr m → n - pr < f → xP (D178_9 F f m) (rX m0 b n t cs op dp ln rp ou s0 pm0 Wt cl wh 11 cT) := by
  intro f
  induction f with
  | zero => intro pr m _ l; omega
  | succ f ih =>
    intro pr m h l
    have id : tsk b n (tsk b n pr) = tsk b n pr := tS_id pr
    have ge : pr ≤ tsk b n pr := tS_ge pr
    have go : ∀ {m' : xS}, rY m0 b n t cs op dp ln rp ou s0 pm0 Wt cl wh 11 (tsk b n pr) m' → (tsg b n (tsk b n pr) = 42 ∨ tsg b n (tsk b n pr) = 47 ∨ tsg b n (tsk b n pr) = 37) → xP (D178_36 F (D178_9 F f) m') (rX m0 b n t cs op dp ln rp ou s0 pm0 Wt cl wh 11 cT) := fun {m'} hh ho => R178_36 hF N ht hT hw hst hh id ho (fun m2 pr2 h2 l2 => by
      refine ih h2 ?_
      have : tsk b n pr < n := by
        rcases ho with z | z | z
        · exact (tsg_lt z (by decide)).1
        · exact (tsg_lt z (by decide)).1
        · exact (tsg_lt z (by decide)).1
      omega)
    unfold D178_9
    refine xP_b (R164y hF N h) (fun v1 m1 q1 => ?_)
    obtain ⟨q1, e1⟩ := q1
    dsimp only
    refine xP_i (fun c => go q1 (Or.inl (e1.symm.trans (zt c)))) (fun c => ?_)
    refine xP_b (R164y hF N q1) (fun v2 m2 q2 => ?_)
    rw [id] at q2
    obtain ⟨q2, e2⟩ := q2
    dsimp only
    refine xP_i (fun d => go q2 (Or.inr (Or.inl (e2.symm.trans (zt d))))) (fun d => ?_)
    refine xP_b (R164y hF N q2) (fun v3 m3 q3 => ?_)
    rw [id] at q3
    obtain ⟨q3, e3⟩ := q3
    dsimp only
    refine xP_i (fun e => xP_r (Or.inr ⟨rfl, tsk b n pr, ?_, q3⟩)) (fun e => ?_)
    · rw [id]
      exact ⟨fun z => (zf c : ¬ v1.toInt = 42) (e1.trans z), fun z => (zf d : ¬ v2.toInt = 47) (e2.trans z), fun z => (zt e : v3.toInt ≠ 37) (e3.trans z)⟩
    · have e : v3.toInt = 37 := Decidable.not_not.mp (zf e)
      exact go q3 (Or.inr (Or.inr (e3.symm.trans e)))
/-- term -/
theorem R178 {pm pr k : Nat} {nu : Int} {rc out : List Int} (hF : 500 ≤ F) (N : rN m0 b n) (ht : t < 6) (hT : (m0.1 70 11).toInt = (t : Int)) (hw : wh ≠ 3) (hst : ∀ w vs, Wt = w :: vs → tcl w < 11) (hs : tstp b n s0 = tvs b n pm k (out ++ ou) Wt cl wh) (l0 : pm0 ≤ pm) (l1 : pm ≤ pr) (e : tsk b n pr = tsk b n pm) (hr : rc.map tenc = out) (hl : rp.length ≤ ou.length ∧ out.length + ou.length + Wt.length + 1 ≤ pm) (hk : k ≤ 60) (h : rC m0 n t pr 0 nu (k : Int) (rc ++ rp) cs op dp ln m) : xP (D178 F m) (rX m0 b n t cs op dp ln rp ou s0 pm0 Wt cl wh 11 cT) := by
  have n4 := N.2.1
  unfold D178
  refine xP_b (R177s hF N ht hT hs l0 l1 e hr hl hk h) (fun v m2 q => ?_)
  dsimp only
  rcases q with ⟨rfl, q⟩ | ⟨rfl, pr', nu', rc', out', b1, b2, b3, b4, b5, b6⟩
  · exact xP_i (fun c => absurd c (by decide)) (fun _ => xP_r (Or.inl ⟨rfl, q⟩))
  · refine xP_i (fun _ => ?_) (fun c => absurd c (by decide))
    refine R178_9 hF N ht hT hw hst F (pr := pr') ⟨1, pr', k + 1, nu', rc', out', [], b1, b2, Nat.le_refl _, rfl, fun z hz => (by cases hz), ?_, ?_, b5, b6⟩ (by omega)
    · rw [b3]
      rfl
    · show rp.length ≤ ou.length ∧ out'.length + ou.length + 0 + Wt.length + 1 ≤ pr'
      exact ⟨b4.1, by omega⟩
end RS
end
section
/-! The reference's sums and facts with a sign: the machine does the same. -/
section RCM
variable {m0 m : xS} {b : Nat → Int} {n t : Nat} {cs : List (Int × Int × Int × Int)} {op : List Int} {dp ln : Int} {F : Nat} {s0 : tSt} {pm0 : Nat} {Wt : List Int} {cl wh : Nat} {rp ou : List Int}
theorem rY_lo {lo lo' : Int} {pr : Nat} (h : lo' ≤ lo) (z : rY m0 b n t cs op dp ln rp ou s0 pm0 Wt cl wh lo pr m) : rY m0 b n t cs op dp ln rp ou s0 pm0 Wt cl wh lo' pr m := by
  obtain ⟨j, pm, k, nu, rc, out, Z, a1, a2, a3, a4, a5, a6⟩ := z
  exact ⟨j, pm, k, nu, rc, out, Z, a1, a2, a3, a4, fun y hy => Int.le_trans h (a5 y hy), a6⟩
/-- the reference puts what waits last -/
theorem R172y {o lo lo' : Int} {w0 : Int32} {pr : Nat} {s1 : tSt} {pm1 : Nat} (N : rN m0 b n) (ht : t < 6) (hT : (m0.1 70 11).toInt = (t : Int)) (h : rY m0 b n t cs op dp ln rp ou s1 pm1 (o :: Wt) cl wh lo pr m) (ho : lo' ≤ tcl o) (hlo : lo' ≤ lo) (hc : tenc (w0 + 16 * 0 : Int32).toInt = o) : xP (D172 F w0 0 m) (fun _ m' => rY m0 b n t cs op dp ln rp ou s1 pm1 Wt cl wh lo' pr m') := by
  have n4 := N.2.1
  obtain ⟨j, pm, k, nu, rc, out, Z, a1, a2, a3, a4, a5, a6, a7, a8, a9⟩ := h
  have prn : pr ≤ n := a9.2.2.1.2
  have rl : rc.length = Z.length + out.length := by
    have := congrArg List.length a6
    rw [List.length_map, List.length_append, List.length_reverse] at this
    exact this
  rw [List.length_cons] at a7
  refine xP_m (R172 (s := w0) (v := 0) (c := (w0 + 16 * 0 : Int32).toInt) ht hT a9 (by rw [List.length_append]; omega) rfl) (fun _ m3 q3 => ⟨j, pm, k, nu, (w0 + 16 * 0 : Int32).toInt :: rc, out, Z ++ [o], ?_, a2, a3, a4, ?_, ?_, ?_, a8, q3.1⟩)
  · rw [List.append_assoc]
    exact a1
  · intro y hy
    rcases List.mem_append.mp hy with hy | hy
    · exact Int.le_trans hlo (a5 y hy)
    · rw [List.mem_singleton.mp hy]
      exact ho
  · rw [List.map_cons, hc, a6, List.reverse_append]
    rfl
  · rw [List.length_append, List.length_singleton]
    exact ⟨a7.1, by omega⟩
theorem R179_46 {o : Int} {w0 : Int32} {pr : Nat} {g : xS → Option (Int32 × xS)} (hF : 500 ≤ F) (N : rN m0 b n) (ht : t < 6) (hT : (m0.1 70 11).toInt = (t : Int)) (hw : wh ≠ 3) (hst : ∀ w vs, Wt = w :: vs → tcl w < 9) (h : rY m0 b n t cs op dp ln rp ou s0 pm0 Wt cl wh 9 pr m) (ps : tsk b n pr = pr) (ho : topr (tsg b n pr) = o) (o1 : tcl o = 9) (o2 : o ≠ -1) (lt : pr < n) (hc : tenc (w0 + 16 * 0 : Int32).toInt = o) (IH : ∀ m' pr', rY m0 b n t cs op dp ln rp ou s0 pm0 Wt cl wh 9 pr' m' → cT (tsg b n (tsk b n pr')) → pr < pr' → xP (g m') (rX m0 b n t cs op dp ln rp ou s0 pm0 Wt cl wh 9 cS)) : xP (D179_46 F g w0 m) (rX m0 b n t cs op dp ln rp ou s0 pm0 Wt cl wh 9 cS) := by
  have n4 := N.2.1
  obtain ⟨j, pm, k, nu, rc, out, Z, a1, a2, a3, a4, a5, a6, a7, a8, a9⟩ := h
  have h3 := a9.2.2.1
  have hM := rC_T a9 (rT_p (v := m.1 70 8 + 1) (x := pr + 1) (rC_t a9) ((xa1 (by show _ ≤ _ + (1 : Int); omega) (by show _ + (1 : Int) ≤ _; omega)).trans (by rw [h3.1]; rfl)) n4 lt)
  have ea : tsk b n pm = pr := by rw [← a4, ps]
  have step : tstp b n (pm, k, out ++ ou, Z ++ Wt, cl, 3, wh) = .inr (pr + 1, k, (Z.reverse ++ out) ++ ou, o :: Wt, cl, 2, wh) := by
    have e2 := tSe_app (o := o) (ws := Wt) (by rw [o1]; exact hst) Z (out ++ ou) (by rw [o1]; exact a5)
    show tjnt b n pm k (out ++ ou) (Z ++ Wt) cl wh = _
    unfold tjnt
    rw [ea, ho, if_pos ⟨hw, o2⟩, e2.1, e2.2, List.append_assoc]
  have st2 : stn b n (j + 1) s0 = .inr (pr + 1, k, (Z.reverse ++ out) ++ ou, o :: Wt, cl, 2, wh) := (stn_add j a1).trans (stn_1 step)
  unfold D179_46
  refine xP_b (R178 (s0 := (pr + 1, k, (Z.reverse ++ out) ++ ou, o :: Wt, cl, 2, wh)) (pm0 := pr + 1) (pm := pr + 1) (pr := pr + 1) (Wt := o :: Wt) (cl := cl) (wh := wh) hF N ht hT hw (fun w vs z => by rw [← (List.cons.inj z).1, o1]; decide) rfl (Nat.le_refl _) (Nat.le_refl _) rfl a6 (by rw [List.length_append, List.length_reverse, List.length_cons]; exact ⟨a7.1, by omega⟩) a8 hM) (fun v m2 q => ?_)
  dsimp only
  rcases q with ⟨rfl, q⟩ | ⟨rfl, pr', c1, q⟩
  · exact xP_i (fun c => absurd c (by decide)) (fun _ => xP_r (Or.inl ⟨rfl, rZ_tr st2 (by omega) q⟩))
  · refine xP_i (fun _ => ?_) (fun c => absurd c (by decide))
    have lp : pr < pr' := by
      obtain ⟨j2, pm2, k2, nu2, rc2, out2, Z2, -, y2, y3, -⟩ := q
      omega
    refine xP_b (R172y (lo' := 9) N ht hT q (by rw [o1]; decide) (by decide) hc) (fun _ m3 q3 => ?_)
    exact IH m3 pr' (rY_tr st2 (by omega) q3) c1 lp
theorem R179_9 (hF : 500 ≤ F) (N : rN m0 b n) (ht : t < 6) (hT : (m0.1 70 11).toInt = (t : Int)) (hw : wh ≠ 3) (hst : ∀ w vs, Wt = w :: vs → tcl w < 9) : ∀ (f : Nat) {pr : Nat} {m : xS}, rY m0 b n t cs op dp ln rp ou s0 pm0 Wt cl wh 9 pr m → cT (tsg b n (tsk b n pr)) → n - pr < f → xP (D179_9 F f m) (rX m0 b n t cs op dp ln rp ou s0 pm0 Wt cl wh 9 cS) := by
  intro f
  induction f with
  | zero => intro pr m _ _ l; omega
  | succ f ih =>
    intro pr m h hT1 l
    have n4 := N.2.1
    have id : tsk b n (tsk b n pr) = tsk b n pr := tS_id pr
    have ge : pr ≤ tsk b n pr := tS_ge pr
    have go : ∀ {m' : xS}, rY m0 b n t cs op dp ln rp ou s0 pm0 Wt cl wh 9 (tsk b n pr) m' → (tsg b n (tsk b n pr) = 43 ∨ tsg b n (tsk b n pr) = 45) → xP (D179_27 F (D179_9 F f) m') (rX m0 b n t cs op dp ln rp ou s0 pm0 Wt cl wh 9 cS) := fun {m'} hh ho => by
      have lt : tsk b n pr < n ∧ b (tsk b n pr) = tsg b n (tsk b n pr) := by
        rcases ho with z | z
        · exact ⟨(tsg_lt z (by decide)).1, (tsg_lt z (by decide)).2.trans z.symm⟩
        · exact ⟨(tsg_lt z (by decide)).1, (tsg_lt z (by decide)).2.trans z.symm⟩
      have IH : ∀ m2 pr2, rY m0 b n t cs op dp ln rp ou s0 pm0 Wt cl wh 9 pr2 m2 → cT (tsg b n (tsk b n pr2)) → tsk b n pr < pr2 → xP (D179_9 F f m2) (rX m0 b n t cs op dp ln rp ou s0 pm0 Wt cl wh 9 cS) := fun m2 pr2 h2 c2 l2 => ih h2 c2 (by omega)
      have h0 := hh
      obtain ⟨j, pm, k, nu, rc, out, Z, a1, a2, a3, a4, a5, a6, a7, a8, a9⟩ := hh
      have h3 := a9.2.2.1
      have xi : xib (m'.1 70 8) 400 = true := xib_t (by omega) (by omega)
      unfold D179_27
      rw [rC_i a9]
      refine xP_g xi (xP_i (fun c => ?_) (fun c => ?_))
      · have c : (m'.1 71 (tsk b n pr)).toInt ≠ 43 := zt c
        have e : tsg b n (tsk b n pr) = 45 := by
          rcases ho with z | z
          · exact absurd ((rbyte N a9 lt.1 (by decide)).mpr (lt.2.trans z)) c
          · exact z
        exact R179_46 (o := 10) hF N ht hT hw hst h0 id (by rw [e]; decide) (by decide) (by decide) lt.1 (by decide) IH
      · have c : (m'.1 71 (tsk b n pr)).toInt = 43 := Decidable.not_not.mp (zf c)
        have e : tsg b n (tsk b n pr) = 43 := lt.2.symm.trans ((rbyte N a9 lt.1 (by decide)).mp c)
        exact R179_46 (o := 9) hF N ht hT hw hst h0 id (by rw [e]; decide) (by decide) (by decide) lt.1 (by decide) IH
    unfold D179_9
    refine xP_b (R164y hF N h) (fun v1 m1 q1 => ?_)
    obtain ⟨q1, e1⟩ := q1
    dsimp only
    refine xP_i (fun c => go q1 (Or.inl (e1.symm.trans (zt c)))) (fun c => ?_)
    refine xP_b (R164y hF N q1) (fun v2 m2 q2 => ?_)
    rw [id] at q2
    obtain ⟨q2, e2⟩ := q2
    dsimp only
    refine xP_i (fun d => xP_r (Or.inr ⟨rfl, tsk b n pr, ?_, q2⟩)) (fun d => ?_)
    · have c : v1.toInt ≠ 43 := zf c
      have d : v2.toInt ≠ 45 := zt d
      rw [id]
      show topr (tsg b n (tsk b n pr)) = -1
      unfold topr
      rw [if_neg (fun z => c (e1.trans z)), if_neg (fun z => d (e2.trans z)), if_neg hT1.1, if_neg hT1.2.1, if_neg hT1.2.2]
    · have d : v2.toInt = 45 := Decidable.not_not.mp (zf d)
      exact go q2 (Or.inr (e2.symm.trans d))
/-- sum -/
theorem R179 {pm pr k : Nat} {nu : Int} {rc out : List Int} (hF : 500 ≤ F) (N : rN m0 b n) (ht : t < 6) (hT : (m0.1 70 11).toInt = (t : Int)) (hw : wh ≠ 3) (hst : ∀ w vs, Wt = w :: vs → tcl w < 9) (hs : tstp b n s0 = tvs b n pm k (out ++ ou) Wt cl wh) (l0 : pm0 ≤ pm) (l1 : pm ≤ pr) (e : tsk b n pr = tsk b n pm) (hr : rc.map tenc = out) (hl : rp.length ≤ ou.length ∧ out.length + ou.length + Wt.length + 1 ≤ pm) (hk : k ≤ 60) (h : rC m0 n t pr 0 nu (k : Int) (rc ++ rp) cs op dp ln m) : xP (D179 F m) (rX m0 b n t cs op dp ln rp ou s0 pm0 Wt cl wh 9 cS) := by
  have n4 := N.2.1
  unfold D179
  refine xP_b (R178 hF N ht hT hw (fun w vs z => by have := hst w vs z; omega) hs l0 l1 e hr hl hk h) (fun v m2 q => ?_)
  dsimp only
  rcases q with ⟨rfl, q⟩ | ⟨rfl, pr', c1, q⟩
  · exact xP_i (fun c => absurd c (by decide)) (fun _ => xP_r (Or.inl ⟨rfl, q⟩))
  · refine xP_i (fun _ => ?_) (fun c => absurd c (by decide))
    exact R179_9 hF N ht hT hw hst F (rY_lo (by decide) q) c1 (by omega)
/-- behind a sign -/
theorem R180_152 {o : Int} {w0 : Int32} {q k : Nat} {nu : Int} {rc out : List Int} {a1 a2 a3 : Int32} (hF : 500 ≤ F) (N : rN m0 b n) (ht : t < 6) (hT : (m0.1 70 11).toInt = (t : Int)) {j : Nat} (hst : ∀ w vs, Wt = w :: vs → tcl w < 4) (st : stn b n j s0 = .inr (q, k, out ++ ou, o :: Wt, cl, 2, 2)) (l0 : pm0 + j ≤ q) (o1 : tcl o = 4) (hr : rc.map tenc = out) (hl : rp.length ≤ ou.length ∧ out.length + ou.length + Wt.length + 2 ≤ q) (hk : k ≤ 60) (hc : tenc (6 + w0 + 16 * 0 : Int32).toInt = o) (h : rC m0 n t q 0 nu (k : Int) (rc ++ rp) cs op dp ln m) : xP (D180_152 F a1 a2 a3 w0 m) (rX m0 b n t cs op dp ln rp ou s0 pm0 Wt cl 2 4 cS) := by
  unfold D180_152
  refine xP_b (R179 (s0 := (q, k, out ++ ou, o :: Wt, cl, 2, 2)) (pm0 := q) (pm := q) (pr := q) (Wt := o :: Wt) (cl := cl) (wh := 2) hF N ht hT (by decide) (fun w vs z => by rw [← (List.cons.inj z).1, o1]; decide) rfl (Nat.le_refl _) (Nat.le_refl _) rfl hr (by rw [List.length_cons]; exact ⟨hl.1, by omega⟩) hk h) (fun v m2 z => ?_)
  dsimp only
  rcases z with ⟨rfl, z⟩ | ⟨rfl, pr', c1, z⟩
  · exact xP_i (fun c => absurd c (by decide)) (fun _ => xP_r (Or.inl ⟨rfl, rZ_tr st l0 z⟩))
  · refine xP_i (fun _ => ?_) (fun c => absurd c (by decide))
    refine xP_b (R172y (lo' := 4) N ht hT z (by rw [o1]; decide) (by decide) hc) (fun _ m3 q3 => xP_r (Or.inr ⟨rfl, pr', c1, rY_tr st l0 q3⟩))
/-- compare -/
theorem R180 {pm pr k : Nat} {nu : Int} {rc out : List Int} (hF : 500 ≤ F) (N : rN m0 b n) (ht : t < 6) (hT : (m0.1 70 11).toInt = (t : Int)) (hst : ∀ w vs, Wt = w :: vs → tcl w < 4) (hs : tstp b n s0 = tvs b n pm k (out ++ ou) Wt cl 1) (l0 : pm0 ≤ pm) (l1 : pm ≤ pr) (e : tsk b n pr = tsk b n pm) (hr : rc.map tenc = out) (hl : rp.length ≤ ou.length ∧ out.length + ou.length + Wt.length + 1 ≤ pm) (hk : k ≤ 60) (h : rC m0 n t pr 0 nu (k : Int) (rc ++ rp) cs op dp ln m) : xP (D180 F m) (rX m0 b n t cs op dp ln rp ou s0 pm0 Wt cl 2 4 cS) := by
  have n4 := N.2.1
  unfold D180
  refine xP_b (R179 hF N ht hT (by decide) (fun w vs z => by have := hst w vs z; omega) hs l0 l1 e hr hl hk h) (fun v m2 q => ?_)
  dsimp only
  rcases q with ⟨rfl, q⟩ | ⟨rfl, pr1, c1, q⟩
  · exact xP_i (fun c => absurd c (by decide)) (fun _ => xP_r (Or.inl ⟨rfl, q⟩))
  · refine xP_i (fun _ => ?_) (fun c => absurd c (by decide))
    refine xP_b (R164y hF N q) (fun v1 m1 q1 => ?_)
    obtain ⟨q1, e1⟩ := q1
    have id : tsk b n (tsk b n pr1) = tsk b n pr1 := tS_id pr1
    generalize hs1 : tsk b n pr1 = s at *
    obtain ⟨j, pm1, k1, nu1, rc1, out1, Z, a1, a2, a3, a4, a5, a6, a7, a8, a9⟩ := q1
    have h3 := a9.2.2.1
    have ea : tsk b n pm1 = s := by rw [← a4, id]
    have cS1 : topr (tsg b n s) = -1 := c1
    have jn : tstp b n (pm1, k1, out1 ++ ou, Z ++ Wt, cl, 3, 1) = tsig b n pm1 k1 (out1 ++ ou) (Z ++ Wt) cl := by
      show tjnt b n pm1 k1 (out1 ++ ou) (Z ++ Wt) cl 1 = _
      unfold tjnt
      rw [ea, if_neg (fun z => z.2 cS1)]
      rfl
    have cut : ∀ o : Int, tcl o = 4 → (tSe o (Z ++ Wt) (out1 ++ ou)).1 = (Z.reverse ++ out1) ++ ou ∧ (tSe o (Z ++ Wt) (out1 ++ ou)).2.1 = Wt := fun o ho => by
      rw [List.append_assoc]
      exact tSe_app (by rw [ho]; exact hst) Z (out1 ++ ou) (fun z hz => by rw [ho]; have := a5 z hz; omega)
    have rest : ∀ {v3 w0 : Int32} {o : Int} {q2 : Nat} {m : xS}, (tsg b n s = 60 ∨ tsg b n s = 61 ∨ tsg b n s = 62) → tcl o = 4 → tenc (6 + w0 + 16 * 0 : Int32).toInt = o → s + 1 ≤ q2 → (¬ 60 ≤ k1 → tsig b n pm1 k1 (out1 ++ ou) (Z ++ Wt) cl = .inr (q2, k1 + 1, (Z.reverse ++ out1) ++ ou, o :: Wt, cl, 2, 2)) → rC m0 n t q2 0 nu1 ((k1 + 1 : Nat) : Int) (rc1 ++ rp) cs op dp ln m → ¬ 60 ≤ k1 → xP (D180_152 F v1 (m1.1 70 8) v3 w0 m) (rX m0 b n t cs op dp ln rp ou s0 pm0 Wt cl 2 4 cS) := fun {v3 w0 o q2 m} cs' o1 hc lq ts hM z => R180_152 (j := j + 1) hF N ht hT hst ((stn_add j a1).trans (stn_1 (jn.trans (ts z)))) (by omega) o1 a6 (by rw [List.length_append, List.length_reverse]; exact ⟨a7.1, by omega⟩) (by omega) hc hM
    have r105 : ∀ {v3 : Int32} {q2 : Nat} {m : xS}, (tsg b n s = 60 ∨ tsg b n s = 61 ∨ tsg b n s = 62) → v1.toInt = tsg b n s → s + 1 ≤ q2 → (¬ 60 ≤ k1 → tsig b n pm1 k1 (out1 ++ ou) (Z ++ Wt) cl = .inr (q2, k1 + 1, (Z.reverse ++ out1) ++ ou, (if tsg b n s = 60 then (if v3 = 0 then 4 else 5) else if tsg b n s = 61 then 6 else if v3 = 0 then 8 else 7) :: Wt, cl, 2, 2)) → rC m0 n t q2 0 nu1 (k1 : Int) (rc1 ++ rp) cs op dp ln m → xP (D180_105 F v1 (m1.1 70 8) v3 m) (rX m0 b n t cs op dp ln rp ou s0 pm0 Wt cl 2 4 cS) := by
      intro v3 q2 m cc ev lq ts hM
      unfold D180_105
      refine xP_b (R173 (a := m1.1 70 8) hM a8 (by omega) (by omega)) (fun r m5 q5 => ?_)
      dsimp only
      rcases q5 with ⟨z, rfl, q5⟩ | ⟨z, rfl, q5⟩
      · refine xP_i (fun c => absurd c (by decide)) (fun _ => xP_r (Or.inl ⟨rfl, j + 1, 1 + 8 * (s : Int) + 3, by omega, ?_, by omega, ?_⟩))
        · refine (stn_add j a1).trans (stn_1 (jn.trans ?_))
          unfold tsig
          rw [ea, if_pos cc, if_pos z]
        · rw [h3.1] at q5
          exact ⟨_, _, _, _, _, _, _, _, _, _, hT, q5⟩
      · refine xP_i (fun _ => ?_) (fun c => absurd c (by decide))
        refine xP_i (fun c => ?_) (fun c => ?_)
        · have c : v1.toInt ≠ 60 := zt c
          rw [if_neg (fun y => c (ev.trans y))] at ts
          refine xP_i (fun d => ?_) (fun d => ?_)
          · have d : v1.toInt ≠ 61 := zt d
            rw [if_neg (fun y => d (ev.trans y))] at ts
            refine xP_i (fun g => ?_) (fun g => ?_)
            · rw [if_pos (zeq g)] at ts
              exact rest cc (by decide) (by decide) lq ts q5 z
            · rw [if_neg (zneq g)] at ts
              exact rest cc (by decide) (by decide) lq ts q5 z
          · have d : v1.toInt = 61 := Decidable.not_not.mp (zf d)
            rw [if_pos (ev.symm.trans d)] at ts
            exact rest cc (by decide) (by decide) lq ts q5 z
        · have c : v1.toInt = 60 := Decidable.not_not.mp (zf c)
          rw [if_pos (ev.symm.trans c)] at ts
          refine xP_i (fun g => ?_) (fun g => ?_)
          · rw [if_pos (zeq g)] at ts
            exact rest cc (by decide) (by decide) lq ts q5 z
          · rw [if_neg (zneq g)] at ts
            exact rest cc (by decide) (by decide) lq ts q5 z
    have r44 : (tsg b n s = 60 ∨ tsg b n s = 61 ∨ tsg b n s = 62) → v1.toInt = tsg b n s → xP (D180_44 F v1 (m1.1 70 8) m1) (rX m0 b n t cs op dp ln rp ou s0 pm0 Wt cl 2 4 cS) := by
      intro cc ev
      have ls : s < n := by
        rcases cc with z | z | z
        · exact (tsg_lt z (by decide)).1
        · exact (tsg_lt z (by decide)).1
        · exact (tsg_lt z (by decide)).1
      have e8 : (m1.1 70 8 + 1).toInt = ((s + 1 : Nat) : Int) := (xa1 (by show _ ≤ _ + (1 : Int); omega) (by show _ + (1 : Int) ≤ _; omega)).trans (by rw [h3.1]; rfl)
      have hM1 := rC_T a9 (rT_p (v := m1.1 70 8 + 1) (x := s + 1) (rC_t a9) e8 n4 ls)
      have e9 : (m1.1 70 8 + 1).toNatClampNeg = s + 1 := by show (m1.1 70 8 + 1).toInt.toNat = s + 1; omega
      have k1n : (m1.1 70 1).toInt = (n : Int) := (rN_t N a9).1
      -- no = behind it
      have no : (tsg b n s = 61 ∨ tsg b n (s + 1) ≠ 61) → xP (D180_89 F v1 (m1.1 70 8) (xu m1 70 8 (m1.1 70 8 + 1))) (rX m0 b n t cs op dp ln rp ou s0 pm0 Wt cl 2 4 cS) := by
        intro hn
        unfold D180_89 D180_90
        refine xP_i (fun _ => ?_) (fun c => absurd c (by decide))
        refine r105 cc ev (Nat.le_refl _) (fun z => ?_) hM1
        unfold tsig
        rw [ea, if_pos cc, if_neg z]
        by_cases c61 : tsg b n s = 61
        · rw [if_pos c61, if_neg (by omega), if_pos c61, (cut 6 (by decide)).1, (cut 6 (by decide)).2]
        · rw [if_neg c61, if_neg (by omega)]
          by_cases c60 : tsg b n s = 60
          · rw [if_pos c60, if_pos c60, if_pos rfl, (cut 4 (by decide)).1, (cut 4 (by decide)).2]
          · rw [if_neg c60, if_neg c60, if_neg c61, if_pos rfl, (cut 8 (by decide)).1, (cut 8 (by decide)).2]
      unfold D180_44
      refine xP_i (fun c => no (Or.inl (ev.symm.trans (zt c)))) (fun c => ?_)
      have c : v1.toInt ≠ 61 := zf c
      have c61 : ¬ tsg b n s = 61 := fun z => c (ev.trans z)
      refine xP_i (fun d => no (Or.inr ?_)) (fun d => ?_)
      · have d : (m1.1 70 1).toInt ≤ (m1.1 70 8 + 1).toInt := zt d
        unfold tsg
        rw [if_neg (by omega)]
        decide
      · have d : ¬ (m1.1 70 1).toInt ≤ (m1.1 70 8 + 1).toInt := zf d
        have l1 : s + 1 < n := by omega
        refine xP_g (xib_t (by omega) (by omega)) ?_
        have bs : tsg b n (s + 1) = b (s + 1) := if_pos l1
        obtain ⟨z1, z2⟩ := (rN_t N a9).2.2 (s + 1) l1
        rw [e9]
        refine xP_i (fun g => no (Or.inr ?_)) (fun g => ?_)
        · have g : (m1.1 71 (s + 1)).toInt ≠ 61 := zt g
          intro z
          rw [bs] at z
          rw [z2, if_pos (by omega)] at g
          exact g z
        · have g : (m1.1 71 (s + 1)).toInt = 61 := Decidable.not_not.mp (zf g)
          have c2 : tsg b n (s + 1) = 61 := by
            rw [bs]
            rw [z2] at g
            split at g <;> omega
          have h3b := hM1.2.2.1
          have hM2 := rC_T hM1 (rT_p (v := (xu m1 70 8 (m1.1 70 8 + 1)).1 70 8 + 1) (x := s + 2) (rC_t hM1) ((xa1 (by show _ ≤ _ + (1 : Int); omega) (by show _ + (1 : Int) ≤ _; omega)).trans (by rw [h3b.1]; rfl)) n4 l1)
          unfold D180_90
          refine xP_i (fun c => absurd c (by decide)) (fun _ => ?_)
          refine r105 cc ev (by omega) (fun z => ?_) hM2
          unfold tsig
          rw [ea, if_pos cc, if_neg z, if_neg c61, if_pos c2]
          by_cases c60 : tsg b n s = 60
          · rw [if_pos c60, if_pos c60, if_neg (by decide), (cut 5 (by decide)).1, (cut 5 (by decide)).2]
          · rw [if_neg c60, if_neg c60, if_neg c61, if_neg (by decide), (cut 7 (by decide)).1, (cut 7 (by decide)).2]
    dsimp only
    refine xP_i (fun c => r44 (Or.inl (e1.symm.trans (zt c))) e1) (fun c => ?_)
    refine xP_i (fun d => r44 (Or.inr (Or.inl (e1.symm.trans (zt d)))) e1) (fun d => ?_)
    refine xP_i (fun g => r44 (Or.inr (Or.inr (e1.symm.trans (zt g)))) e1) (fun g => ?_)
    have c : v1.toInt ≠ 60 := zf c
    have d : v1.toInt ≠ 61 := zf d
    have g : v1.toInt ≠ 62 := zf g
    refine xP_b (R163c a9 (by omega) (by omega) (by decide) (by decide)) (fun r m5 q5 => ?_)
    obtain ⟨rfl, q5⟩ := q5
    refine xP_g (show xbo (0 : Int32) = true by decide) (xP_r (Or.inl ⟨rfl, j + 1, 1 + 8 * (s : Int), by omega, ?_, by omega, ?_⟩))
    · refine (stn_add j a1).trans (stn_1 (jn.trans ?_))
      unfold tsig
      rw [ea, if_neg (fun z => z.elim (fun z => c (e1.trans z)) (fun z => z.elim (fun z => d (e1.trans z)) (fun z => g (e1.trans z))))]
    · rw [h3.1, show (1 + 8 * (s : Int) + (0 : Int32).toInt) = 1 + 8 * (s : Int) from Int.add_zero _] at q5
      exact ⟨_, _, _, _, _, _, _, _, _, _, hT, q5⟩
end RCM
end
