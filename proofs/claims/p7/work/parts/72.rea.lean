/-! The class's reader of rules: each method does a step of the machine. -/
def kF (m0 : xS) (n : Nat) (f : Int) (m : xS) : Prop := ∃ (p bg : Nat) (out wait : List Int) (cl k dp br ex wh : Int), kC m0 n p bg f out wait cl k dp br ex wh m
def kI (s : tSt) : Prop := s.2.2.1.length + s.2.2.2.1.length + (if s.2.2.2.2.2.1 = 0 ∨ s.2.2.2.2.2.1 = 4 then 0 else 1) ≤ s.1 ∧ s.2.1 ≤ 60 ∧ s.2.2.2.2.1 ≤ 12 ∧ ∀ w ∈ s.2.2.2.1, 0 ≤ w ∧ w ≤ (13 : Int)
def kS (m0 : xS) (n : Nat) (s : tSt) (m : xS) : Prop := (∃ bg : Nat, kC m0 n s.1 bg 0 s.2.2.1 s.2.2.2.1 (s.2.2.2.2.1 : Int) (s.2.1 : Int) (tdp s.2.2.2.1 : Int) (tbr s.2.2.2.1 : Int) (s.2.2.2.2.2.1 : Int) (s.2.2.2.2.2.2 : Int) m) ∧ kI s
def kR (m0 : xS) (n : Nat) (r : Int ⊕ tSt) (m : xS) : Prop := match r with
  | .inl f => f ≠ 0 ∧ kF m0 n f m
  | .inr s => kS m0 n s m
section KRD
variable {m0 m : xS} {b : Nat → Int} {n p bg : Nat} {ft : Int} {out wait : List Int} {cl k dp br ex wh : Int} {F : Nat}
theorem P48 {v : Int32} (h : kC m0 n p bg ft out wait cl k dp br ex wh m) (l : out.length < 400) : xP (D48_6 F v m) (fun _ m' => kC m0 n p bg ft (v.toInt :: out) wait cl k dp br ex wh m' ∧ m'.1 8 = m.1 8) := by
  have h6 := h.2.2.2.2.2.1.1
  have ei : (m.1 6 1).toNatClampNeg = out.length := by show (m.1 6 1).toInt.toNat = _; omega
  unfold D48_6
  refine xP_i (fun c => ?_) (fun c => xP_g (xib_t (by omega) (by omega)) (xP_r ?_))
  · have c : (400 : Int) ≤ (m.1 6 1).toInt := zt c
    omega
  · rw [ei]
    exact ⟨kC_out h l ((xa1 (by show _ ≤ _ + (1 : Int); omega) (by show _ + (1 : Int) ≤ _; omega)).trans (by rw [h6]; rfl)), (xu_row (by decide)).trans (xu_row (by decide))⟩
theorem P47 {v : Int32} (h : kC m0 n p bg ft out wait cl k dp br ex wh m) (l : wait.length < 400) : xP (D47_6 F v m) (fun _ m' => kC m0 n p bg ft out (v.toInt :: wait) cl k dp br ex wh m') := by
  have h7 := h.2.2.2.2.2.2.1.1
  have ei : (m.1 6 3).toNatClampNeg = wait.length := by show (m.1 6 3).toInt.toNat = _; omega
  unfold D47_6
  refine xP_i (fun c => ?_) (fun c => xP_g (xib_t (by omega) (by omega)) (xP_r ?_))
  · have c : (400 : Int) ≤ (m.1 6 3).toInt := zt c
    omega
  · rw [ei]
    exact kC_wait h l ((xa1 (by show _ ≤ _ + (1 : Int); omega) (by show _ + (1 : Int) ≤ _; omega)).trans (by rw [h7]; rfl))
theorem P26 {v : Int32} : xP (D26 F v m) (fun r m' => m' = m ∧ r.toInt = tcl v.toInt) := by
  unfold D26 tcl
  refine xP_i (fun c => xP_i (fun d => xP_i (fun e => xP_r ⟨rfl, ?_⟩) (fun e => xP_r ⟨rfl, ?_⟩)) (fun d => xP_r ⟨rfl, ?_⟩)) (fun c => xP_r ⟨rfl, ?_⟩)
  · have c : (3 : Int) < v.toInt := zt c
    have d : (8 : Int) < v.toInt := zt d
    have e : (10 : Int) < v.toInt := zt e
    rw [if_neg (by omega), if_neg (by omega), if_neg (by omega)]
    rfl
  · have c : (3 : Int) < v.toInt := zt c
    have d : (8 : Int) < v.toInt := zt d
    have e : ¬ (10 : Int) < v.toInt := zf e
    rw [if_neg (by omega), if_neg (by omega), if_pos (by omega)]
    rfl
  · have c : (3 : Int) < v.toInt := zt c
    have d : ¬ (8 : Int) < v.toInt := zf d
    rw [if_neg (by omega), if_pos (by omega)]
    rfl
  · have c : ¬ (3 : Int) < v.toInt := zf c
    rw [if_pos (by omega)]
theorem P46_0 {o : Int32} : ∀ (f : Nat) {out wait : List Int} {dp : Int} {m : xS}, kC m0 n p bg ft out wait cl k dp br ex wh m → out.length + wait.length ≤ 400 → wait.length < f → (wait.length : Int) ≤ dp + 1000 → dp ≤ 1000 → xP (D46_6_0 F f o m) (fun _ m' => kC m0 n p bg ft (tSe o.toInt wait out).1 (tSe o.toInt wait out).2.1 cl k (dp - ((tSe o.toInt wait out).2.2 : Nat)) br ex wh m') := by
  intro f
  induction f with
  | zero => intro out wait dp m _ _ l; omega
  | succ f ih =>
    intro out wait dp m h l1 l2 l3 l4
    have h7 := h.2.2.2.2.2.2.1.1
    have h10 := h.2.2.2.2.2.2.2.2.2.1
    unfold D46_6_0
    cases wait with
    | nil =>
      refine xP_i (fun c => xP_r ?_) (fun c => ?_)
      · show kC m0 n p bg ft out [] cl k (dp - ((0 : Nat) : Int)) br ex wh m
        rw [show dp - ((0 : Nat) : Int) = dp from Int.sub_zero dp]
        exact h
      · have c : ¬ (m.1 6 3).toInt ≤ 0 := zf c
        have : (m.1 6 3).toInt = 0 := h7
        omega
    | cons w ws =>
      rw [List.length_cons] at l1 l2 l3 h7
      have s1 : ((m.1 6 3) - 1).toInt = (ws.length : Int) := (xs1 (by show _ ≤ _ - (1 : Int); omega) (by show _ - (1 : Int) ≤ _; omega)).trans (by show _ - (1 : Int) = _; omega)
      have ei : ((m.1 6 3) - 1).toNatClampNeg = ws.length := by show ((m.1 6 3) - 1).toInt.toNat = _; omega
      obtain ⟨hp, hw⟩ := kC_pop (v := (m.1 6 3) - 1) h s1
      refine xP_i (fun c => ?_) (fun c => ?_)
      · have c : (m.1 6 3).toInt ≤ 0 := zt c
        omega
      · refine xP_g (xib_t (by omega) (by omega)) ?_
        refine xP_b P26 (fun r1 m1 q1 => ?_)
        obtain ⟨rfl, q1⟩ := q1
        refine xP_b P26 (fun r2 m2 q2 => ?_)
        obtain ⟨rfl, q2⟩ := q2
        dsimp only at q1 q2 ⊢
        rw [ei] at q1 ⊢
        rw [hw] at q1
        refine xP_i (fun d => xP_r ?_) (fun d => ?_)
        · have d : r1.toInt < r2.toInt := zt d
          unfold tSe
          rw [if_neg (by omega)]
          show kC m0 n p bg ft out (w :: ws) cl k (dp - ((0 : Nat) : Int)) br ex wh m2
          rw [show dp - ((0 : Nat) : Int) = dp from Int.sub_zero dp]
          exact h
        · have d : ¬ r1.toInt < r2.toInt := zf d
          refine xP_g (xib_t (by omega) (by omega)) ?_
          refine xP_b (P48 (v := m2.1 8 ws.length) hp (by omega)) (fun _ m3 q3 => ?_)
          obtain ⟨q3, q4⟩ := q3
          rw [hw] at q3
          have h7b := q3.2.2.2.2.2.2.1.1
          have e3 : (m3.1 6 3).toNatClampNeg = ws.length := by show (m3.1 6 3).toInt.toNat = _; omega
          have e4 : m3.1 8 ws.length = m2.1 8 ws.length := by rw [q4, xu_row (by decide)]
          dsimp only
          refine xP_g (xib_t (by omega) (by omega)) ?_
          rw [e3, e4]
          have un : tSe o.toInt (w :: ws) out = ((tSe o.toInt ws (w :: out)).1, (tSe o.toInt ws (w :: out)).2.1, (tSe o.toInt ws (w :: out)).2.2 + (if w = 3 then 1 else 0)) := if_pos (by omega)
          rw [un]
          refine xP_i (fun g => ?_) (fun g => ?_)
          · have g : (m2.1 8 ws.length).toInt ≠ 3 := zt g
            rw [if_neg (by omega)]
            exact ih q3 (by rw [List.length_cons]; omega) (by omega) (by omega) l4
          · have g : (m2.1 8 ws.length).toInt = 3 := Decidable.not_not.mp (zf g)
            rw [if_pos (by omega)]
            have h10b := q3.2.2.2.2.2.2.2.2.2.1
            have z := ih (kC_dp (v := m3.1 6 6 - 1) (x := dp - 1) q3 ((xs1 (by show _ ≤ _ - (1 : Int); omega) (by show _ - (1 : Int) ≤ _; omega)).trans (by rw [h10b]; rfl))) (by rw [List.length_cons]; omega) (by omega) (by omega) (by omega)
            rw [show dp - 1 - (((tSe o.toInt ws (w :: out)).2.2 : Nat) : Int) = dp - (((tSe o.toInt ws (w :: out)).2.2 + 1 : Nat) : Int) by omega] at z
            exact z
theorem P46 {o : Int32} (hF : 500 ≤ F) (h : kC m0 n p bg ft out wait cl k dp br ex wh m) (l : out.length + wait.length ≤ 400) (l3 : (wait.length : Int) ≤ dp + 1000) (l4 : dp ≤ 1000) : xP (D46_6 F o m) (fun _ m' => kC m0 n p bg ft (tSe o.toInt wait out).1 (tSe o.toInt wait out).2.1 cl k (dp - ((tSe o.toInt wait out).2.2 : Nat)) br ex wh m') := P46_0 F h l (by omega) l3 l4
theorem P45 {o : Int32} (hF : 500 ≤ F) (h : kC m0 n p bg ft out wait cl k dp br ex wh m) (l : out.length + wait.length < 400) (l3 : (wait.length : Int) ≤ dp + 1000) (l4 : dp ≤ 1000) : xP (D45_6 F o m) (fun _ m' => kC m0 n p bg ft (tSe o.toInt wait out).1 (o.toInt :: (tSe o.toInt wait out).2.1) cl k (dp - ((tSe o.toInt wait out).2.2 : Nat)) br ex wh m') := by
  unfold D45_6
  refine xP_b (P46 hF h (by omega) l3 l4) (fun _ m1 q => ?_)
  have := tSe_len o.toInt wait out
  refine xP_b (P47 q (by omega)) (fun _ m2 q2 => xP_r q2)
/-- countOne -/
theorem P37 {a : Int32} (h : kC m0 n p bg ft out wait cl k dp br ex wh m) (a1 : 0 ≤ a.toInt) (a2 : a.toInt ≤ 400) (k1 : 0 ≤ k) (k2 : k ≤ 1000) : xP (D37_6_2 F a m) (fun _ m' => kC m0 n p bg (if 60 ≤ k then trf ft (1 + 8 * a.toInt + 3) else ft) out wait cl (k + 1) dp br ex wh m') := by
  have h9 := h.2.2.2.2.2.2.2.2.1
  have inc : ∀ {ft : Int} {m : xS}, kC m0 n p bg ft out wait cl k dp br ex wh m → kC m0 n p bg ft out wait cl (k + 1) dp br ex wh (xu m 6 5 ((m.1 6 5) + 1)) := fun {ft m} h => kC_k h (by
    have h9 := h.2.2.2.2.2.2.2.2.1
    exact (xa1 (by show _ ≤ _ + (1 : Int); omega) (by show _ + (1 : Int) ≤ _; omega)).trans (by rw [h9]; rfl))
  unfold D37_6_2 D37_6_2_15
  refine xP_i (fun c => xP_r ?_) (fun c => ?_)
  · have c : (m.1 6 5).toInt < 60 := zt c
    rw [if_neg (by omega)]
    exact inc h
  · have c : ¬ (m.1 6 5).toInt < 60 := zf c
    rw [if_pos (by omega)]
    exact xP_b (P52 h a1 a2 (by decide) (by decide)) (fun _ m1 q => xP_r (inc q))
/-- readValue -/
theorem P36 {kk : Nat} (hF : 500 ≤ F) (N : kN m0 b n) (h : kC m0 n p bg 0 out wait cl (kk : Int) dp br ex wh m) (l : out.length < 400) (hk : kk ≤ 60) : xP (D36_6_2 F m) (fun _ m' => (∃ f, tval b n p kk = .inl f ∧ f ≠ 0 ∧ kF m0 n f m') ∨ (∃ x bg', tval b n p kk = .inr x ∧ kC m0 n x.1 bg' 0 (x.2 :: out) wait cl ((kk + 1 : Nat) : Int) dp br 3 wh m')) := by
  have n4 := N.2.1
  have pn : p ≤ n := h.2.2.1.2
  have fin : ∀ {p' : Nat} {ft : Int} {c : Int} {m : xS}, kC m0 n p' (tS tbl b n p) ft (c :: out) wait cl (kk : Int) dp br ex wh m → xP (D36_6_2_40 F m) (fun _ m' => kC m0 n p' (tS tbl b n p) (if (60 : Int) ≤ (kk : Int) then trf ft (1 + 8 * (tS tbl b n p : Int) + 3) else ft) (c :: out) wait cl ((kk : Int) + 1) dp br 3 wh m') := by
    intro p' ft c m h
    have h4 := h.2.2.2.1
    have l4 : tS tbl b n p ≤ n := tS_le p pn
    unfold D36_6_2_40
    refine xP_b (P37 h (by omega) (by omega) (by omega) (by omega)) (fun _ m1 q => xP_r ?_)
    rw [h4] at q
    exact kC_ex q rfl
  unfold D36_6_2
  refine xP_b (P53 hF N h) (fun v m1 q => ?_)
  obtain ⟨q, qv⟩ := q
  have lp : tS tbl b n p ≤ n := q.2.2.1.2
  refine xP_b P56 (fun r mx q1 => ?_)
  obtain ⟨rfl, q1⟩ := q1
  dsimp only at q1 ⊢
  rw [qv] at q1
  refine xP_i (fun c => ?_) (fun c => ?_)
  · have dg : tdg (tsg b n (tsk b n p)) = false := by
      rcases q1 with q1 | q1
      · rw [q1.1] at c
        cases c
      · exact q1.2
    have tv0 : tval b n p kk = (match tix (twd b n p) tw1004 with
      | none => .inl (1 + 8 * (tsk b n p : Int))
      | some u => if 60 ≤ kk then .inl (1 + 8 * (tsk b n p : Int) + 3) else .inr (tle b n p, 20 + (u : Int))) := by
      unfold tval
      rw [if_neg (by rw [dg]; decide)]
      cases tix (twd b n p) tw1004 <;> rfl
    refine xP_b (P60_1004 hF N q) (fun r2 m2 q2 => ?_)
    rw [tS_id] at q2
    rcases q2 with ⟨u, a1, a2, a3⟩ | ⟨a1, a2, a3⟩
    · have ub : u < 13 := by
        have : ∀ (ws : List (List Int)) (w : List Int) (u : Nat), tix w ws = some u → u < ws.length := by
          intro ws
          induction ws with
          | nil => intro w u z; cases z
          | cons y ys ih =>
            intro w u z
            unfold tix at z
            split at z
            · cases z
              exact Nat.succ_pos _
            · cases t : tix w ys with
              | none => rw [t] at z; cases z
              | some t2 =>
                rw [t] at z
                have := ih w t2 t
                have z : t2 + 1 = u := Option.some.inj z
                rw [List.length_cons]
                omega
        exact this _ _ _ a1
      have ev : (20 + r2).toInt = 20 + (u : Int) := (xa1 (by show _ ≤ (20 : Int) + _; omega) (by show (20 : Int) + _ ≤ _; omega)).trans (by rw [a2]; rfl)
      refine xP_b (P48 (v := 20 + r2) a3 l) (fun _ m3 q3 => ?_)
      obtain ⟨q3, -⟩ := q3
      rw [ev] at q3
      refine xP_m (fin q3) (fun _ m4 q4 => ?_)
      rw [tv0]
      have a1 : tix (twd b n p) tw1004 = some u := a1
      rw [a1]
      by_cases z : 60 ≤ kk
      · rw [if_pos (by omega)] at q4
        refine Or.inl ⟨_, if_pos z, ?_, _, _, _, _, _, _, _, _, _, _, q4⟩
        show (1 + 8 * (tS tbl b n p : Int) + 3) ≠ 0
        omega
      · rw [if_neg (by omega)] at q4
        exact Or.inr ⟨_, _, if_neg z, q4⟩
    · refine xP_b (P48 (v := 20 + r2) a3 l) (fun _ m3 q3 => ?_)
      obtain ⟨q3, -⟩ := q3
      refine xP_m (fin q3) (fun _ m4 q4 => ?_)
      rw [tv0]
      have a1 : tix (twd b n p) tw1004 = none := a1
      rw [a1]
      have e5 : trf 0 (1 + 8 * (tS tbl b n p : Int)) = 1 + 8 * (tS tbl b n p : Int) := if_pos rfl
      have e6 : trf (1 + 8 * (tS tbl b n p : Int)) (1 + 8 * (tS tbl b n p : Int) + 3) = 1 + 8 * (tS tbl b n p : Int) := if_neg (by omega)
      rw [e5, e6, ite_self] at q4
      refine Or.inl ⟨_, rfl, ?_, _, _, _, _, _, _, _, _, _, _, q4⟩
      show (1 + 8 * (tS tbl b n p : Int)) ≠ 0
      omega
  · have dg : tdg (tsg b n (tsk b n p)) = true := by
      rcases q1 with q1 | q1
      · exact q1.2
      · rw [q1.1] at c
        cases c
    have ln : tS tbl b n p < n := by
      by_cases z : tS tbl b n p < n
      · exact z
      · unfold tsg tsk at dg
        rw [if_neg z] at dg
        cases dg
    have dg2 : tdg (b (tS tbl b n p)) = true := by
      unfold tsg tsk at dg
      rw [if_pos ln] at dg
      exact dg
    have ld : tS tbl b n p < tS tdg b n (tS tbl b n p) := tS_lt ln dg2
    have tv0 : tval b n p kk = (if 5 < tde b n p - tsk b n p then .inl (1 + 8 * (tsk b n p : Int) + 1) else if 60 ≤ kk then .inl (1 + 8 * (tsk b n p : Int) + 3) else .inr (tde b n p, 40 + tv b (tsk b n p) (tde b n p - tsk b n p))) := by
      unfold tval
      rw [if_pos dg]
    refine xP_b (P58 hF N q) (fun r2 m2 q2 => ?_)
    rw [tS_id] at q2
    obtain ⟨a2, a3⟩ := q2
    have tb := tv_b (b := b) (p := tS tbl b n p) (n := tS tdg b n (tS tbl b n p) - tS tbl b n p) (fun j j1 j2 j3 => by
      have := (tS_in (P := tdg) (b := b) (n := n) (tS tbl b n p) j j1 (by omega)).2
      unfold tdg at this
      simp only [Bool.and_eq_true, decide_eq_true_eq] at this
      exact this) (min (tS tdg b n (tS tbl b n p) - tS tbl b n p) 5) (Nat.min_le_right _ _) (Nat.min_le_left _ _)
    have tb2 : r2.toInt < 100000 := by
      rw [a2]
      refine Int.lt_of_lt_of_le tb.2 ?_
      have : min (tS tdg b n (tS tbl b n p) - tS tbl b n p) 5 = 0 ∨ min (tS tdg b n (tS tbl b n p) - tS tbl b n p) 5 = 1 ∨ min (tS tdg b n (tS tbl b n p) - tS tbl b n p) 5 = 2 ∨ min (tS tdg b n (tS tbl b n p) - tS tbl b n p) 5 = 3 ∨ min (tS tdg b n (tS tbl b n p) - tS tbl b n p) 5 = 4 ∨ min (tS tdg b n (tS tbl b n p) - tS tbl b n p) 5 = 5 := by omega
      rcases this with z | z | z | z | z | z <;> (rw [z]; decide)
    have tb1 : 0 ≤ r2.toInt := by rw [a2]; exact tb.1
    have ev : (40 + r2).toInt = 40 + r2.toInt := (xa1 (by show _ ≤ (40 : Int) + _; omega) (by show (40 : Int) + _ ≤ _; omega)).trans rfl
    refine xP_b (P48 (v := 40 + r2) a3 l) (fun _ m3 q3 => ?_)
    obtain ⟨q3, -⟩ := q3
    rw [ev] at q3
    refine xP_m (fin q3) (fun _ m4 q4 => ?_)
    rw [tv0]
    have lo0 : (0 : Int32).toInt = 0 := rfl
    have hi0 : (99999 : Int32).toInt = 99999 := rfl
    rw [lo0, hi0] at q4
    by_cases z : 5 < tS tdg b n (tS tbl b n p) - tS tbl b n p
    · have e5 : tnf 0 99999 (tS tbl b n p) (tS tdg b n (tS tbl b n p)) r2.toInt 0 = 1 + 8 * (tS tbl b n p : Int) + 1 := by
        unfold tnf
        rw [if_neg (by omega), if_pos (Or.inl z)]
        exact if_pos rfl
      have e6 : trf (1 + 8 * (tS tbl b n p : Int) + 1) (1 + 8 * (tS tbl b n p : Int) + 3) = 1 + 8 * (tS tbl b n p : Int) + 1 := if_neg (by omega)
      rw [e5, e6, ite_self] at q4
      refine Or.inl ⟨_, if_pos z, ?_, _, _, _, _, _, _, _, _, _, _, q4⟩
      show (1 + 8 * (tS tbl b n p : Int) + 1) ≠ 0
      omega
    · have e5 : tnf 0 99999 (tS tbl b n p) (tS tdg b n (tS tbl b n p)) r2.toInt 0 = 0 := by
        unfold tnf
        rw [if_neg (by omega), if_neg (by omega)]
      have e7 : r2.toInt = tv b (tS tbl b n p) (tS tdg b n (tS tbl b n p) - tS tbl b n p) := by rw [a2, show min (tS tdg b n (tS tbl b n p) - tS tbl b n p) 5 = tS tdg b n (tS tbl b n p) - tS tbl b n p by omega]
      rw [e5] at q4
      by_cases z2 : 60 ≤ kk
      · rw [if_pos (by omega)] at q4
        refine Or.inl ⟨_, (if_neg z).trans (if_pos z2), ?_, _, _, _, _, _, _, _, _, _, _, q4⟩
        show (1 + 8 * (tS tbl b n p : Int) + 3) ≠ 0
        omega
      · rw [if_neg (by omega), e7] at q4
        exact Or.inr ⟨_, _, (if_neg z).trans (if_neg z2), q4⟩
end KRD
