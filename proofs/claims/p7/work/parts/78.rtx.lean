/-! The reference's text: what its methods come to. -/
abbrev rM3 : yM := [(70, 70, 8), (70, 70, 9), (70, 70, 10)]
def rN (m0 : xS) (b : Nat → Int) (n : Nat) : Prop := (m0.1 70 1).toInt = (n : Int) ∧ n ≤ 400 ∧ ∀ j, j < n → (0 ≤ b j ∧ b j ≤ 255) ∧ (m0.1 71 j).toInt = (if b j < 128 then b j else b j - 256)
def rT (m0 : xS) (n p : Nat) (ft nu : Int) (m : xS) : Prop := xT m ∧ xfr rM3 m0 m ∧ ((m.1 70 8).toInt = (p : Int) ∧ p ≤ n) ∧ (m.1 70 9).toInt = ft ∧ (m.1 70 10).toInt = nu
theorem x255 {x : Int32} {c : Int} (h0 : 0 ≤ c) (h1 : c ≤ 255) (h : x.toInt = (if c < 128 then c else c - 256)) : (x &&& 255).toInt = c := by
  have e1 : (x &&& 255).toBitVec = x.toBitVec &&& 255#32 := rfl
  have e2 : (x &&& 255).toInt = (x &&& 255).toBitVec.toInt := rfl
  have e3 : (x.toBitVec &&& 255#32).toNat = x.toBitVec.toNat % 256 := by
    rw [BitVec.toNat_and]
    exact Nat.and_two_pow_sub_one_eq_mod x.toBitVec.toNat 8
  have e4 : x.toInt = x.toBitVec.toInt := rfl
  rw [e2, e1]
  have l1 : x.toBitVec.toNat % 256 < 256 := Nat.mod_lt _ (by decide)
  have e5 : (x.toBitVec &&& 255#32).toInt = ((x.toBitVec &&& 255#32).toNat : Int) := BitVec.toInt_eq_toNat_of_lt (by rw [e3]; omega)
  rw [e5, e3]
  have l2 := x.toBitVec.isLt
  have e6 := BitVec.toInt_eq_toNat_cond x.toBitVec
  rw [e4, e6] at h
  split at h <;> split at h <;> omega
section RT
variable {m0 m : xS} {b : Nat → Int} {n p : Nat} {ft nu : Int} {F : Nat}
theorem rT_p {v : Int32} {x : Nat} (h : rT m0 n p ft nu m) (e : v.toInt = (x : Int)) (hn : n ≤ 400) (l : x ≤ n) : rT m0 n x ft nu (xu m 70 8 v) := by
  obtain ⟨h1, h2, h3, h4, h5⟩ := h
  exact ⟨xT_c h1 (i := 70) (j := 8) rfl (by omega) (by omega), xfr_t h2 (xfr_u rfl), ⟨(congrArg Int32.toInt (xu_s _ _ _ _)).trans e, l⟩, (congrArg Int32.toInt (xu_o (by decide))).trans h4, (congrArg Int32.toInt (xu_o (by decide))).trans h5⟩
theorem rT_ft {v : Int32} {x : Int} (h : rT m0 n p ft nu m) (e : v.toInt = x) (l1 : 0 ≤ x) (l2 : x ≤ 4000) : rT m0 n p x nu (xu m 70 9 v) := by
  obtain ⟨h1, h2, h3, h4, h5⟩ := h
  exact ⟨xT_c h1 (i := 70) (j := 9) rfl (by omega) (by omega), xfr_t h2 (xfr_u rfl), ⟨(congrArg Int32.toInt (xu_o (by decide))).trans h3.1, h3.2⟩, (congrArg Int32.toInt (xu_s _ _ _ _)).trans e, (congrArg Int32.toInt (xu_o (by decide))).trans h5⟩
theorem rT_nu {v : Int32} {x : Int} (h : rT m0 n p ft nu m) (e : v.toInt = x) (l1 : 0 ≤ x) (l2 : x ≤ 99999) : rT m0 n p ft x (xu m 70 10 v) := by
  obtain ⟨h1, h2, h3, h4, h5⟩ := h
  exact ⟨xT_c h1 (i := 70) (j := 10) rfl (by omega) (by omega), xfr_t h2 (xfr_u rfl), ⟨(congrArg Int32.toInt (xu_o (by decide))).trans h3.1, h3.2⟩, (congrArg Int32.toInt (xu_o (by decide))).trans h4, (congrArg Int32.toInt (xu_s _ _ _ _)).trans e⟩
theorem rT_n (N : rN m0 b n) (h : rT m0 n p ft nu m) : (m.1 70 1).toInt = (n : Int) ∧ ∀ j, j < n → (0 ≤ b j ∧ b j ≤ 255) ∧ (m.1 71 j).toInt = (if b j < 128 then b j else b j - 256) := by
  have f := h.2.1
  refine ⟨(congrArg Int32.toInt (f.2 70 1 rfl)).trans N.1, fun j hj => ⟨(N.2.2 j hj).1, (congrArg Int32.toInt (f.2 71 j ?_)).trans (N.2.2 j hj).2⟩⟩
  unfold yinM
  rfl
theorem rT_i (h : rT m0 n p ft nu m) : (m.1 70 8).toNatClampNeg = p := by
  have := h.2.2.1.1
  show (m.1 70 8).toInt.toNat = p
  omega
/-- fails -/
theorem R163 {a c : Int32} (h : rT m0 n p ft nu m) (a1 : 0 ≤ a.toInt) (a2 : a.toInt ≤ 400) (c1 : 0 ≤ c.toInt) (c2 : c.toInt ≤ 4) : xP (D163 F c a m) (fun v m' => v = 0 ∧ rT m0 n p (trf ft (1 + 8 * a.toInt + c.toInt)) nu m') := by
  have h5 := h.2.2.2.1
  unfold D163 D163_19 trf
  refine xP_i (fun q => xP_r ⟨rfl, ?_⟩) (fun q => xP_r ⟨rfl, ?_⟩)
  · have q : (m.1 70 9).toInt ≠ 0 := zt q
    rw [if_neg (by omega)]
    exact h
  · have q : (m.1 70 9).toInt = 0 := Decidable.not_not.mp (zf q)
    rw [if_pos (by omega)]
    exact rT_ft h (kft a1 a2 c1 c2) (by omega) (by omega)
/-- see -/
theorem R164_38 (N : rN m0 b n) (h : rT m0 n p ft nu m) : xP (D164_38 F m) (fun v m' => m' = m ∧ v.toInt = tsg b n p) := by
  obtain ⟨k1, k2⟩ := rT_n N h
  have h3 := h.2.2.1
  have n4 := N.2.1
  unfold D164_38 tsg
  refine xP_i (fun c => xP_r ⟨rfl, ?_⟩) (fun c => xP_g ?_ (xP_r ⟨rfl, ?_⟩))
  · have c : (m.1 70 1).toInt ≤ (m.1 70 8).toInt := zt c
    rw [if_neg (by omega)]
    rfl
  · have c : ¬ (m.1 70 1).toInt ≤ (m.1 70 8).toInt := zf c
    exact xib_t (by omega) (by omega)
  · have c : ¬ (m.1 70 1).toInt ≤ (m.1 70 8).toInt := zf c
    obtain ⟨⟨z1, z2⟩, z3⟩ := k2 p (by omega)
    rw [rT_i h, if_pos (by omega)]
    exact x255 z1 z2 z3
theorem R164_0 (N : rN m0 b n) : ∀ (f : Nat) {p : Nat} {m : xS}, rT m0 n p ft nu m → n - p < f → xP (D164_0 F f m) (fun v m' => rT m0 n (tS tbl b n p) ft nu m' ∧ v.toInt = tsg b n (tS tbl b n p)) := by
  intro f
  induction f with
  | zero => intro p m _ l; omega
  | succ f ih =>
    intro p m h l
    obtain ⟨k1, k2⟩ := rT_n N h
    have h3 := h.2.2.1
    have n4 := N.2.1
    unfold D164_0
    refine xP_i (fun c => ?_) (fun c => ?_)
    · have c : (m.1 70 1).toInt ≤ (m.1 70 8).toInt := zt c
      rw [tS_f (fun z => by omega)]
      exact xP_m (R164_38 N h) (fun v m' q => by obtain ⟨rfl, q⟩ := q; exact ⟨h, q⟩)
    · have c : ¬ (m.1 70 1).toInt ≤ (m.1 70 8).toInt := zf c
      obtain ⟨⟨z1, z2⟩, z3⟩ := k2 p (by omega)
      refine xP_g (xib_t (by omega) (by omega)) (xP_i (fun d => ?_) (fun d => ?_))
      · rw [rT_i h] at d
        have d : (m.1 71 p).toInt ≠ 32 := zt d
        have d1 : b p ≠ 32 := fun z => d (by rw [z3, z]; decide)
        rw [tS_f (P := tbl) (b := b) (n := n) (p := p) (fun z => d1 (eq_of_beq (show (b p == 32) = true from z.2)))]
        exact xP_m (R164_38 N h) (fun v m' q => by obtain ⟨rfl, q⟩ := q; exact ⟨h, q⟩)
      · rw [rT_i h] at d
        have d : (m.1 71 p).toInt = 32 := Decidable.not_not.mp (zf d)
        have d1 : b p = 32 := by
          rw [z3] at d
          split at d <;> omega
        rw [tS_t (P := tbl) (show p < n by omega) (by unfold tbl; rw [d1]; rfl)]
        exact ih (rT_p h ((xa1 (by show _ ≤ _ + (1 : Int); omega) (by show _ + (1 : Int) ≤ _; omega)).trans (by rw [h3.1]; rfl)) N.2.1 (by omega)) (by omega)
theorem R164 (hF : 500 ≤ F) (N : rN m0 b n) (h : rT m0 n p ft nu m) : xP (D164 F m) (fun v m' => rT m0 n (tS tbl b n p) ft nu m' ∧ v.toInt = tsg b n (tS tbl b n p)) := R164_0 N F h (by have := N.2.1; omega)
/-- isDigit, isLetter at a place -/
theorem R165 {v : Int32} {q : Nat} (N : rN m0 b n) (h : rT m0 n p ft nu m) (hv : v.toInt = (q : Int)) : xP (D165 F v m) (fun r m' => m' = m ∧ ((r = 1 ∧ q < n ∧ tdg (b q) = true) ∨ (r = 0 ∧ ¬ (q < n ∧ tdg (b q) = true)))) := by
  obtain ⟨k1, k2⟩ := rT_n N h
  have n4 := N.2.1
  have ei : v.toNatClampNeg = q := by show v.toInt.toNat = q; omega
  unfold D165 D165_34 tdg
  refine xP_i (fun c => xP_r ⟨rfl, Or.inr ⟨rfl, fun z => ?_⟩⟩) (fun c => ?_)
  · have c : (m.1 70 1).toInt ≤ v.toInt := zt c
    omega
  · have c : ¬ (m.1 70 1).toInt ≤ v.toInt := zf c
    obtain ⟨⟨z1, z2⟩, z3⟩ := k2 q (by omega)
    rw [ei]
    simp only [Bool.and_eq_true, decide_eq_true_eq]
    refine xP_g (xib_t (by omega) (by omega)) (xP_i (fun d => xP_r ⟨rfl, Or.inr ⟨rfl, fun z => ?_⟩⟩) (fun d => xP_g (xib_t (by omega) (by omega)) (xP_i (fun e => xP_r ⟨rfl, Or.inr ⟨rfl, fun z => ?_⟩⟩) (fun e => xP_r ⟨rfl, Or.inl ⟨rfl, ?_⟩⟩))))
    · have d : (m.1 71 q).toInt < 48 := zt d
      rw [z3] at d
      split at d <;> omega
    · have e : (57 : Int) < (m.1 71 q).toInt := zt e
      rw [z3] at e
      split at e <;> omega
    · have d : ¬ (m.1 71 q).toInt < 48 := zf d
      have e : ¬ (57 : Int) < (m.1 71 q).toInt := zf e
      rw [z3] at d e
      split at d <;> omega
theorem R166 {v : Int32} {q : Nat} (N : rN m0 b n) (h : rT m0 n p ft nu m) (hv : v.toInt = (q : Int)) : xP (D166 F v m) (fun r m' => m' = m ∧ ((r = 1 ∧ q < n ∧ tlt (b q) = true) ∨ (r = 0 ∧ ¬ (q < n ∧ tlt (b q) = true)))) := by
  obtain ⟨k1, k2⟩ := rT_n N h
  have n4 := N.2.1
  have ei : v.toNatClampNeg = q := by show v.toInt.toNat = q; omega
  unfold D166 D166_34 tlt
  refine xP_i (fun c => xP_r ⟨rfl, Or.inr ⟨rfl, fun z => ?_⟩⟩) (fun c => ?_)
  · have c : (m.1 70 1).toInt ≤ v.toInt := zt c
    omega
  · have c : ¬ (m.1 70 1).toInt ≤ v.toInt := zf c
    obtain ⟨⟨z1, z2⟩, z3⟩ := k2 q (by omega)
    rw [ei]
    simp only [Bool.and_eq_true, decide_eq_true_eq]
    refine xP_g (xib_t (by omega) (by omega)) (xP_i (fun d => xP_r ⟨rfl, Or.inr ⟨rfl, fun z => ?_⟩⟩) (fun d => xP_g (xib_t (by omega) (by omega)) (xP_i (fun e => xP_r ⟨rfl, Or.inr ⟨rfl, fun z => ?_⟩⟩) (fun e => xP_r ⟨rfl, Or.inl ⟨rfl, ?_⟩⟩))))
    · have d : (m.1 71 q).toInt < 97 := zt d
      rw [z3] at d
      split at d <;> omega
    · have e : (122 : Int) < (m.1 71 q).toInt := zt e
      rw [z3] at e
      split at e <;> omega
    · have d : ¬ (m.1 71 q).toInt < 97 := zf d
      have e : ¬ (122 : Int) < (m.1 71 q).toInt := zf e
      rw [z3] at d e
      split at d <;> omega
/-- passWord -/
theorem R168_0 (N : rN m0 b n) : ∀ (f : Nat) {p : Nat} {m : xS}, rT m0 n p ft nu m → n - p < f → xP (D168_0 F f m) (fun _ m' => rT m0 n (tS tlt b n p) ft nu m') := by
  intro f
  induction f with
  | zero => intro p m _ l; omega
  | succ f ih =>
    intro p m h l
    have h3 := h.2.2.1
    have n4 := N.2.1
    unfold D168_0
    refine xP_b (R166 N h h3.1) (fun r mx q => ?_)
    obtain ⟨rfl, q⟩ := q
    dsimp only
    refine xP_i (fun c => xP_r ?_) (fun c => ?_)
    · have q : ¬ (p < n ∧ tlt (b p) = true) := by
        rcases q with q | q
        · rw [q.1] at c
          cases c
        · exact q.2
      rw [tS_f q]
      exact h
    · have q : p < n ∧ tlt (b p) = true := by
        rcases q with q | q
        · exact q.2
        · rw [q.1] at c
          cases c
      rw [tS_t q.1 q.2]
      exact ih (rT_p h ((xa1 (by show _ ≤ _ + (1 : Int); omega) (by show _ + (1 : Int) ≤ _; omega)).trans (by rw [h3.1]; rfl)) N.2.1 q.1) (by omega)
theorem R168 (hF : 500 ≤ F) (N : rN m0 b n) (h : rT m0 n p ft nu m) : xP (D168 F m) (fun _ m' => rT m0 n (tS tlt b n p) ft nu m') := R168_0 N F h (by have := N.2.1; omega)
end RT
