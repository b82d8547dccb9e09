/-! The class's text: what its methods come to. -/
def tsg (b : Nat → Int) (n p : Nat) : Int := if p < n then b p else -1
/-- the first fault stays -/
def trf (ft x : Int) : Int := if ft = 0 then x else ft
section KT
variable {m0 m : xS} {b : Nat → Int} {n p bg : Nat} {ft : Int} {out wait : List Int} {cl k dp br ex wh : Int} {F : Nat}
theorem kC_i (h : kC m0 n p bg ft out wait cl k dp br ex wh m) : (m.1 2 2).toNatClampNeg = p := by
  have := h.2.2.1.1
  show (m.1 2 2).toInt.toNat = p
  omega
theorem kft {a c : Int32} (a1 : 0 ≤ a.toInt) (a2 : a.toInt ≤ 400) (c1 : 0 ≤ c.toInt) (c2 : c.toInt ≤ 4) : ((1 + (8 * a)) + c).toInt = 1 + 8 * a.toInt + c.toInt := by
  have e1 : (8 * a).toInt = 8 * a.toInt := xm1 (by show _ ≤ (8 : Int) * _; omega) (by show (8 : Int) * _ ≤ _; omega)
  have e2 : (1 + 8 * a).toInt = 1 + 8 * a.toInt := (xa1 (by show _ ≤ (1 : Int) + _; omega) (by show (1 : Int) + _ ≤ _; omega)).trans (by rw [e1]; rfl)
  exact (xa1 (by omega) (by omega)).trans (by rw [e2])
/-- refuse -/
theorem P52 {a c : Int32} (h : kC m0 n p bg ft out wait cl k dp br ex wh m) (a1 : 0 ≤ a.toInt) (a2 : a.toInt ≤ 400) (c1 : 0 ≤ c.toInt) (c2 : c.toInt ≤ 4) : xP (D52_2 F a c m) (fun _ m' => kC m0 n p bg (trf ft (1 + 8 * a.toInt + c.toInt)) out wait cl k dp br ex wh m') := by
  have h5 := h.2.2.2.2.1
  unfold D52_2 trf
  refine xP_i (fun q => xP_r ?_) (fun q => xP_r ?_)
  · have q : (m.1 2 4).toInt ≠ 0 := zt q
    rw [if_neg (by omega)]
    exact h
  · have q : (m.1 2 4).toInt = 0 := Decidable.not_not.mp (zf q)
    rw [if_pos (by omega)]
    exact kC_ft h (kft a1 a2 c1 c2) (by omega) (by omega)
/-- pass -/
theorem P54 (N : kN m0 b n) (h : kC m0 n p bg ft out wait cl k dp br ex wh m) (l : p < n) : xP (D54_2 F m) (fun _ m' => kC m0 n (p + 1) bg ft out wait cl k dp br ex wh m') := by
  have h3 := h.2.2.1.1
  have n4 := N.2.1
  unfold D54_2
  exact xP_r (kC_p h ((xa1 (by show _ ≤ _ + (1 : Int); omega) (by show _ + (1 : Int) ≤ _; omega)).trans (by rw [h3]; rfl)) N.2.1 l)
/-- sign -/
theorem P53_38 (N : kN m0 b n) (h : kC m0 n p bg ft out wait cl k dp br ex wh m) : xP (D53_2_38 F m) (fun v m' => m' = m ∧ v.toInt = tsg b n p) := by
  obtain ⟨k1, k2⟩ := kC_n N h
  have h3 := h.2.2.1
  have n4 := N.2.1
  unfold D53_2_38 tsg
  refine xP_i (fun c => xP_r ⟨rfl, ?_⟩) (fun c => xP_g ?_ (xP_r ⟨rfl, ?_⟩))
  · have c : (m.1 2 1).toInt ≤ (m.1 2 2).toInt := zt c
    rw [if_neg (by omega)]
    rfl
  · have c : ¬ (m.1 2 1).toInt ≤ (m.1 2 2).toInt := zf c
    exact xib_t (by omega) (by omega)
  · have c : ¬ (m.1 2 1).toInt ≤ (m.1 2 2).toInt := zf c
    rw [kC_i h, if_pos (by omega)]
    exact k2 p (by omega)
theorem P53_0 (N : kN m0 b n) : ∀ (f : Nat) {p : Nat} {m : xS}, kC m0 n p bg ft out wait cl k dp br ex wh m → n - p < f → xP (D53_2_0 F f m) (fun v m' => kC m0 n (tS tbl b n p) bg ft out wait cl k dp br ex wh m' ∧ v.toInt = tsg b n (tS tbl b n p)) := by
  intro f
  induction f with
  | zero => intro p m _ l; omega
  | succ f ih =>
    intro p m h l
    obtain ⟨k1, k2⟩ := kC_n N h
    have h3 := h.2.2.1
    have n4 := N.2.1
    unfold D53_2_0
    refine xP_i (fun c => ?_) (fun c => ?_)
    · have c : (m.1 2 1).toInt ≤ (m.1 2 2).toInt := zt c
      rw [tS_f (fun z => by omega)]
      exact xP_m (P53_38 N h) (fun v m' q => by obtain ⟨rfl, q⟩ := q; exact ⟨h, q⟩)
    · have c : ¬ (m.1 2 1).toInt ≤ (m.1 2 2).toInt := zf c
      refine xP_g (xib_t (by omega) (by omega)) (xP_i (fun d => ?_) (fun d => ?_))
      · rw [kC_i h] at d
        have d : (m.1 1 p).toInt ≠ 32 := zt d
        rw [k2 p (by omega)] at d
        rw [tS_f (P := tbl) (b := b) (n := n) (p := p) (fun z => d (eq_of_beq (show (b p == 32) = true from z.2)))]
        exact xP_m (P53_38 N h) (fun v m' q => by obtain ⟨rfl, q⟩ := q; exact ⟨h, q⟩)
      · rw [kC_i h] at d
        have d : (m.1 1 p).toInt = 32 := Decidable.not_not.mp (zf d)
        rw [k2 p (by omega)] at d
        rw [tS_t (P := tbl) (show p < n by omega) (by unfold tbl; rw [d]; rfl)]
        exact ih (kC_p h ((xa1 (by show _ ≤ _ + (1 : Int); omega) (by show _ + (1 : Int) ≤ _; omega)).trans (by rw [h3.1]; rfl)) N.2.1 (by omega)) (by omega)
theorem P53 (hF : 500 ≤ F) (N : kN m0 b n) (h : kC m0 n p bg ft out wait cl k dp br ex wh m) : xP (D53_2 F m) (fun v m' => kC m0 n (tS tbl b n p) bg ft out wait cl k dp br ex wh m' ∧ v.toInt = tsg b n (tS tbl b n p)) := P53_0 N F h (by have := N.2.1; omega)
/-- isDigit, isLetter -/
theorem P56 {v : Int32} : xP (D56 F v m) (fun r m' => m' = m ∧ ((r = 1 ∧ tdg v.toInt = true) ∨ (r = 0 ∧ tdg v.toInt = false))) := by
  unfold D56 D56_16 tdg
  refine xP_i (fun c => xP_r ⟨rfl, Or.inr ⟨rfl, ?_⟩⟩) (fun c => xP_i (fun d => xP_r ⟨rfl, Or.inr ⟨rfl, ?_⟩⟩) (fun d => xP_r ⟨rfl, Or.inl ⟨rfl, ?_⟩⟩))
  · have c : v.toInt < 48 := zt c
    rw [decide_eq_false (by omega)]
    rfl
  · have d : (57 : Int) < v.toInt := zt d
    rw [decide_eq_false (p := v.toInt ≤ 57) (by omega), Bool.and_false]
  · have c : ¬ v.toInt < 48 := zf c
    have d : ¬ (57 : Int) < v.toInt := zf d
    rw [decide_eq_true (by omega), decide_eq_true (by omega)]
    rfl
theorem P57 {v : Int32} : xP (D57 F v m) (fun r m' => m' = m ∧ ((r = 1 ∧ tlt v.toInt = true) ∨ (r = 0 ∧ tlt v.toInt = false))) := by
  unfold D57 D57_16 tlt
  refine xP_i (fun c => xP_r ⟨rfl, Or.inr ⟨rfl, ?_⟩⟩) (fun c => xP_i (fun d => xP_r ⟨rfl, Or.inr ⟨rfl, ?_⟩⟩) (fun d => xP_r ⟨rfl, Or.inl ⟨rfl, ?_⟩⟩))
  · have c : v.toInt < 97 := zt c
    rw [decide_eq_false (by omega)]
    rfl
  · have d : (122 : Int) < v.toInt := zt d
    rw [decide_eq_false (p := v.toInt ≤ 122) (by omega), Bool.and_false]
  · have c : ¬ v.toInt < 97 := zf c
    have d : ¬ (122 : Int) < v.toInt := zf d
    rw [decide_eq_true (by omega), decide_eq_true (by omega)]
    rfl
/-- numeral -/
def tnf (lo hi : Int) (bg e : Nat) (v ft : Int) : Int := if e = bg then trf ft (1 + 8 * bg + 0) else if 5 < e - bg ∨ v < lo ∨ hi < v then trf ft (1 + 8 * bg + 1) else ft
theorem P58_85 {lo hi v : Int32} (N : kN m0 b n) (h : kC m0 n p bg ft out wait cl k dp br ex wh m) (l : bg ≤ p) : xP (D58_2_85 F lo hi v m) (fun r m' => r = v ∧ kC m0 n p bg (tnf lo.toInt hi.toInt bg p v.toInt ft) out wait cl k dp br ex wh m') := by
  have h3 := h.2.2.1
  have h4 := h.2.2.2.1
  have n4 := N.2.1
  have sb : ((m.1 2 2) - (m.1 2 3)).toInt = (p : Int) - (bg : Int) := (xs1 (by omega) (by omega)).trans (by omega)
  have bad : 5 < p - bg ∨ v.toInt < lo.toInt ∨ hi.toInt < v.toInt → ¬ p = bg → xP (D58_2_131 F lo hi v m) (fun r m' => r = v ∧ kC m0 n p bg (tnf lo.toInt hi.toInt bg p v.toInt ft) out wait cl k dp br ex wh m') := fun c1 c2 => by
    unfold D58_2_131 D58_2_140 tnf
    rw [if_neg c2, if_pos c1]
    refine xP_b (P52 h (by omega) (by omega) (by decide) (by decide)) (fun _ m1 q => xP_r ⟨rfl, ?_⟩)
    rw [h4] at q
    exact q
  unfold D58_2_85
  refine xP_i (fun c => ?_) (fun c => ?_)
  · have c : (m.1 2 2).toInt ≠ (m.1 2 3).toInt := zt c
    refine xP_i (fun d => ?_) (fun d => ?_)
    · have d : (5 : Int) < ((m.1 2 2) - (m.1 2 3)).toInt := zt d
      exact bad (Or.inl (by omega)) (by omega)
    · have d : ¬ (5 : Int) < ((m.1 2 2) - (m.1 2 3)).toInt := zf d
      refine xP_i (fun e => ?_) (fun e => ?_)
      · have e : v.toInt < lo.toInt := zt e
        exact bad (Or.inr (Or.inl e)) (by omega)
      · have e : ¬ v.toInt < lo.toInt := zf e
        refine xP_i (fun g => ?_) (fun g => ?_)
        · have g : v.toInt ≤ hi.toInt := zt g
          unfold D58_2_140 tnf
          rw [if_neg (by omega), if_neg (by omega)]
          exact xP_r ⟨rfl, h⟩
        · have g : ¬ v.toInt ≤ hi.toInt := zf g
          exact bad (Or.inr (Or.inr (by omega))) (by omega)
  · have c : (m.1 2 2).toInt = (m.1 2 3).toInt := Decidable.not_not.mp (zf c)
    unfold D58_2_140 tnf
    rw [if_pos (by omega)]
    refine xP_b (P52 h (by omega) (by omega) (by decide) (by decide)) (fun _ m1 q => xP_r ⟨rfl, ?_⟩)
    rw [h4] at q
    exact q
theorem P58_15 {lo hi : Int32} (N : kN m0 b n) : ∀ (f : Nat) {p : Nat} {v : Int32} {m : xS}, kC m0 n p bg ft out wait cl k dp br ex wh m → bg ≤ p → n - p < f → (∀ j, bg ≤ j → j < p → tdg (b j) = true) → v.toInt = tv b bg (min (p - bg) 5) → xP (D58_2_15 F f lo hi v m) (fun r m' => r.toInt = tv b bg (min (tS tdg b n p - bg) 5) ∧ kC m0 n (tS tdg b n p) bg (tnf lo.toInt hi.toInt bg (tS tdg b n p) r.toInt ft) out wait cl k dp br ex wh m') := by
  intro f
  induction f with
  | zero => intro p v m _ _ l; omega
  | succ f ih =>
    intro p v m h l0 l dg hv
    obtain ⟨k1, k2⟩ := kC_n N h
    have h3 := h.2.2.1
    have h4 := h.2.2.2.1
    have n4 := N.2.1
    have sb : ((m.1 2 2) - (m.1 2 3)).toInt = (p : Int) - (bg : Int) := (xs1 (by omega) (by omega)).trans (by omega)
    unfold D58_2_15
    refine xP_i (fun c => ?_) (fun c => ?_)
    · have c : (m.1 2 1).toInt ≤ (m.1 2 2).toInt := zt c
      rw [tS_f (fun z => by omega)]
      exact xP_m (P58_85 N h l0) (fun r m' q => by obtain ⟨rfl, q⟩ := q; exact ⟨hv, q⟩)
    · have c : ¬ (m.1 2 1).toInt ≤ (m.1 2 2).toInt := zf c
      refine xP_g (xib_t (by omega) (by omega)) ?_
      refine xP_b P56 (fun r mx q => ?_)
      obtain ⟨rfl, q⟩ := q
      rw [kC_i h, k2 p (by omega)] at q
      dsimp only
      refine xP_i (fun d => ?_) (fun d => ?_)
      · have q : tdg (b p) = false := by
          rcases q with q | q
          · rw [q.1] at d
            cases d
          · exact q.2
        rw [tS_f (fun z => by rw [q] at z; cases z.2)]
        exact xP_m (P58_85 N h l0) (fun r m' q => by obtain ⟨rfl, q⟩ := q; exact ⟨hv, q⟩)
      · have q : tdg (b p) = true := by
          rcases q with q | q
          · exact q.2
          · rw [q.1] at d
            cases d
        have dg2 : ∀ j, bg ≤ j → j < p + 1 → tdg (b j) = true := fun j j1 j2 => by
          by_cases e : j = p
          · rw [e]
            exact q
          · exact dg j j1 (by omega)
        have dgn : ∀ j, bg ≤ j → j < p + 1 → 48 ≤ b j ∧ b j ≤ 57 := fun j j1 j2 => by
          have := dg2 j j1 j2
          unfold tdg at this
          simp only [Bool.and_eq_true, decide_eq_true_eq] at this
          exact this
        have hC := kC_p (v := mx.1 2 2 + 1) (x := p + 1) h ((xa1 (by show _ ≤ _ + (1 : Int); omega) (by show _ + (1 : Int) ≤ _; omega)).trans (by rw [h3.1]; rfl)) N.2.1 (by omega)
        rw [tS_t (P := tdg) (show p < n by omega) q]
        unfold D58_2_72
        refine xP_i (fun e => ?_) (fun e => ?_)
        · have e : (5 : Int) ≤ ((mx.1 2 2) - (mx.1 2 3)).toInt := zt e
          exact ih hC (by omega) (by omega) dg2 (by rw [show min (p + 1 - bg) 5 = min (p - bg) 5 by omega]; exact hv)
        · have e : ¬ (5 : Int) ≤ ((mx.1 2 2) - (mx.1 2 3)).toInt := zf e
          refine xP_g (xib_t (by omega) (by omega)) ?_
          refine ih hC (by omega) (by omega) dg2 ?_
          rw [kC_i h, show min (p + 1 - bg) 5 = (p - bg) + 1 by omega]
          rw [show min (p - bg) 5 = p - bg by omega] at hv
          have tb := tv_b (b := b) (p := bg) (n := p + 1 - bg) (fun j j1 j2 j3 => dgn j j1 (by omega)) (p - bg) (by omega) (by omega)
          have tb2 : tv b bg (p - bg) < 100000 := Int.lt_of_lt_of_le tb.2 (by
            have : p - bg = 0 ∨ p - bg = 1 ∨ p - bg = 2 ∨ p - bg = 3 ∨ p - bg = 4 := by omega
            rcases this with z | z | z | z | z <;> (rw [z]; decide))
          have bp := dgn p l0 (by omega)
          have kp := k2 p (by omega)
          show _ = 10 * tv b bg (p - bg) + b (bg + (p - bg)) - 48
          rw [show bg + (p - bg) = p by omega]
          have e1 : (10 * v).toInt = 10 * v.toInt := xm1 (by show _ ≤ (10 : Int) * _; omega) (by show (10 : Int) * _ ≤ _; omega)
          have e2 : (10 * v + mx.1 1 p).toInt = 10 * v.toInt + b p := (xa1 (by omega) (by omega)).trans (by rw [e1, kp])
          have e3 : (10 * v + mx.1 1 p - 48).toInt = 10 * v.toInt + b p - 48 := (xs1 (by show _ ≤ _ - (48 : Int); omega) (by show _ - (48 : Int) ≤ _; omega)).trans (by rw [e2]; rfl)
          rw [e3, hv]
theorem P58 {lo hi : Int32} (hF : 500 ≤ F) (N : kN m0 b n) (h : kC m0 n p bg ft out wait cl k dp br ex wh m) : xP (D58_2 F lo hi m) (fun r m' => r.toInt = tv b (tS tbl b n p) (min (tS tdg b n (tS tbl b n p) - tS tbl b n p) 5) ∧ kC m0 n (tS tdg b n (tS tbl b n p)) (tS tbl b n p) (tnf lo.toInt hi.toInt (tS tbl b n p) (tS tdg b n (tS tbl b n p)) r.toInt ft) out wait cl k dp br ex wh m') := by
  have n4 := N.2.1
  unfold D58_2
  refine xP_b (P53 hF N h) (fun v m1 q => ?_)
  obtain ⟨q, -⟩ := q
  have l1 : tS tbl b n p ≤ n := q.2.2.1.2
  dsimp only
  exact P58_15 N F (kC_bg q q.2.2.1.1 (by omega)) (Nat.le_refl _) (by omega) (fun j j1 j2 => by omega) (by rw [Nat.sub_self]; rfl)
end KT
