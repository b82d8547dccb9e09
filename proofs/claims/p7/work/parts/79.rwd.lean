/-! The reference's numbers and words. -/
def tpk (l : List Int) : Int := l.foldl (fun a c => 256 * a + c) 0
def tpr : List Int → Int
  | [] => 0
  | c :: l => 256 * tpr l + c
theorem tpk_snoc (l : List Int) (c : Int) : tpk (l ++ [c]) = 256 * tpk l + c := by
  unfold tpk
  rw [List.foldl_append]
  rfl
theorem tpk_tpr : ∀ l : List Int, tpk l.reverse = tpr l := by
  intro l
  induction l with
  | nil => rfl
  | cons c l ih =>
    rw [List.reverse_cons, tpk_snoc, ih]
    rfl
theorem tpr_ge : ∀ l : List Int, (∀ c ∈ l, 1 ≤ c ∧ c ≤ (255 : Int)) → 0 ≤ tpr l := by
  intro l
  induction l with
  | nil => intro _; exact Int.le_refl _
  | cons c l ih =>
    intro h
    have := ih (fun c hc => h c (List.mem_cons_of_mem _ hc))
    have h1 := h c List.mem_cons_self
    show 0 ≤ 256 * tpr l + c
    omega
theorem tpr_inj : ∀ l k : List Int, (∀ c ∈ l, 1 ≤ c ∧ c ≤ (255 : Int)) → (∀ c ∈ k, 1 ≤ c ∧ c ≤ (255 : Int)) → tpr l = tpr k → l = k := by
  intro l
  induction l with
  | nil =>
    intro k _ hk e
    cases k with
    | nil => rfl
    | cons c k =>
      have h1 := hk c List.mem_cons_self
      have h2 := tpr_ge k (fun c hc => hk c (List.mem_cons_of_mem _ hc))
      have e : (0 : Int) = 256 * tpr k + c := e
      omega
  | cons a l ih =>
    intro k hl hk e
    have a1 := hl a List.mem_cons_self
    have a2 := tpr_ge l (fun c hc => hl c (List.mem_cons_of_mem _ hc))
    cases k with
    | nil =>
      have e : 256 * tpr l + a = 0 := e
      omega
    | cons c k =>
      have h1 := hk c List.mem_cons_self
      have e : 256 * tpr l + a = 256 * tpr k + c := e
      have e1 : a = c := by omega
      rw [e1, ih k (fun c hc => hl c (List.mem_cons_of_mem _ hc)) (fun c hc => hk c (List.mem_cons_of_mem _ hc)) (by omega)]
theorem tpk_inj {l k : List Int} (hl : ∀ c ∈ l, 1 ≤ c ∧ c ≤ (255 : Int)) (hk : ∀ c ∈ k, 1 ≤ c ∧ c ≤ (255 : Int)) (e : tpk l = tpk k) : l = k := by
  have e1 := tpk_tpr l.reverse
  have e2 := tpk_tpr k.reverse
  rw [List.reverse_reverse] at e1 e2
  have := tpr_inj l.reverse k.reverse (fun c hc => hl c (List.mem_reverse.mp hc)) (fun c hc => hk c (List.mem_reverse.mp hc)) (by rw [← e1, ← e2, e])
  exact List.reverse_inj.mp this
theorem x64 {v : Int64} {c : Int32} {a x : Int} (hv : v.toInt = a) (h0 : 0 ≤ a) (h1 : a < 281474976710656) (hc : c.toInt = x) (x0 : 0 ≤ x) (x1 : x ≤ 127) : ((v <<< ((8 : Int32).toInt64 &&& 63)) ||| c.toInt64).toInt = 256 * a + x := by
  have e1 : ((v <<< ((8 : Int32).toInt64 &&& 63)) ||| c.toInt64).toBitVec = (v.toBitVec <<< 8) ||| c.toInt64.toBitVec := by
    have : ((8 : Int32).toInt64 &&& 63) = (8 : Int64) := by decide
    rw [this]
    rfl
  have e2 : v.toInt = v.toBitVec.toInt := rfl
  have n1 : (v.toBitVec.toNat : Int) = a := by
    have e := BitVec.toInt_eq_toNat_cond v.toBitVec
    rw [← e2, hv] at e
    have l := v.toBitVec.isLt
    split at e <;> omega
  have c2 : c.toInt64.toInt = x := (Int32.toInt_toInt64 c).trans hc
  have c3 : c.toInt64.toInt = c.toInt64.toBitVec.toInt := rfl
  have n2 : (c.toInt64.toBitVec.toNat : Int) = x := by
    have e := BitVec.toInt_eq_toNat_cond c.toInt64.toBitVec
    rw [← c3, c2] at e
    have l := c.toInt64.toBitVec.isLt
    split at e <;> omega
  have n3 : ((v.toBitVec <<< 8) ||| c.toInt64.toBitVec).toNat = 256 * v.toBitVec.toNat + c.toInt64.toBitVec.toNat := by
    rw [BitVec.toNat_or, BitVec.toNat_shiftLeft]
    have s1 : v.toBitVec.toNat <<< 8 = v.toBitVec.toNat * 256 := Nat.shiftLeft_eq _ _
    rw [s1, Nat.mod_eq_of_lt (by omega), ← s1, ← Nat.shiftLeft_add_eq_or_of_lt (show c.toInt64.toBitVec.toNat < 2 ^ 8 by omega), s1]
    omega
  show ((v <<< ((8 : Int32).toInt64 &&& 63)) ||| c.toInt64).toBitVec.toInt = _
  rw [e1, BitVec.toInt_eq_toNat_of_lt (by rw [n3]; omega), n3]
  omega
section RW
variable {m0 m : xS} {b : Nat → Int} {n p : Nat} {ft nu : Int} {F : Nat}
theorem R158 {x lo hi : Int32} : xP (D158 F x.toInt64 lo.toInt64 hi.toInt64 m) (fun r m' => m' = m ∧ ((r = 1 ∧ ¬ (x.toInt < lo.toInt ∨ hi.toInt < x.toInt)) ∨ (r = 0 ∧ (x.toInt < lo.toInt ∨ hi.toInt < x.toInt)))) := by
  have k1 := ylcmp x.toInt64 lo.toInt64
  have k2 := ylcmp x.toInt64 hi.toInt64
  rw [Int32.toInt_toInt64, Int32.toInt_toInt64] at k1 k2
  unfold D158 D158_17
  refine xP_i (fun c => xP_r ⟨rfl, Or.inr ⟨rfl, ?_⟩⟩) (fun c => xP_i (fun d => xP_r ⟨rfl, Or.inr ⟨rfl, ?_⟩⟩) (fun d => xP_r ⟨rfl, Or.inl ⟨rfl, ?_⟩⟩))
  · have c : (lg_cmp x.toInt64 lo.toInt64).toInt < 0 := zt c
    omega
  · have d : 0 < (lg_cmp x.toInt64 hi.toInt64).toInt := zt d
    omega
  · have c : ¬ (lg_cmp x.toInt64 lo.toInt64).toInt < 0 := zf c
    have d : ¬ 0 < (lg_cmp x.toInt64 hi.toInt64).toInt := zf d
    omega
theorem R170_34 {lo hi v3 : Int32} {bg : Nat} (N : rN m0 b n) (h3b : v3.toInt = (bg : Int)) : ∀ (f : Nat) {p : Nat} {nu : Int} {v : Int32} {m : xS}, rT m0 n p ft nu m → bg ≤ p → n - p < f → (∀ j, bg ≤ j → j < p → tdg (b j) = true) → v.toInt = tv b bg (min (p - bg) 5) → xP (D170_34 F f lo hi v3 v m) (fun r m' => ((5 < tS tdg b n p - bg ∨ tv b bg (min (tS tdg b n p - bg) 5) < lo.toInt ∨ hi.toInt < tv b bg (min (tS tdg b n p - bg) 5)) ∧ r = 0 ∧ rT m0 n (tS tdg b n p) (trf ft (1 + 8 * (bg : Int) + 1)) (tv b bg (min (tS tdg b n p - bg) 5)) m') ∨ (¬ (5 < tS tdg b n p - bg ∨ tv b bg (min (tS tdg b n p - bg) 5) < lo.toInt ∨ hi.toInt < tv b bg (min (tS tdg b n p - bg) 5)) ∧ r = 1 ∧ rT m0 n (tS tdg b n p) ft (tv b bg (min (tS tdg b n p - bg) 5)) m')) := by
  have n4 := N.2.1
  intro f
  induction f with
  | zero => intro p nu v m _ _ l; omega
  | succ f ih =>
    intro p nu v m h l0 l dg hv
    obtain ⟨k1, k2⟩ := rT_n N h
    have h3 := h.2.2.1
    have sb : ((m.1 70 8) - v3).toInt = (p : Int) - (bg : Int) := (xs1 (by omega) (by omega)).trans (by omega)
    have dgn : ∀ j, bg ≤ j → j < p → 48 ≤ b j ∧ b j ≤ 57 := fun j j1 j2 => by
      have := dg j j1 j2
      unfold tdg at this
      simp only [Bool.and_eq_true, decide_eq_true_eq] at this
      exact this
    have tb := tv_b (b := b) (p := bg) (n := p - bg) (fun j j1 j2 j3 => dgn j j1 (by omega)) (min (p - bg) 5) (Nat.min_le_right _ _) (Nat.min_le_left _ _)
    have tb2 : tv b bg (min (p - bg) 5) < 100000 := by
      refine Int.lt_of_lt_of_le tb.2 ?_
      have : min (p - bg) 5 = 0 ∨ min (p - bg) 5 = 1 ∨ min (p - bg) 5 = 2 ∨ min (p - bg) 5 = 3 ∨ min (p - bg) 5 = 4 ∨ min (p - bg) 5 = 5 := by omega
      rcases this with z | z | z | z | z | z <;> (rw [z]; decide)
    unfold D170_34
    refine xP_b (R165 N h h3.1) (fun r mx q => ?_)
    obtain ⟨rfl, q⟩ := q
    dsimp only
    refine xP_i (fun c => ?_) (fun c => ?_)
    · have q : ¬ (p < n ∧ tdg (b p) = true) := by
        rcases q with q | q
        · rw [q.1] at c
          cases c
        · exact q.2
      rw [tS_f q, ← hv]
      have hnu := rT_nu (v := v) (x := v.toInt) h rfl (by omega) (by omega)
      have bad : ∀ {m2 : xS}, m2 = xu mx 70 10 v → (5 < p - bg ∨ v.toInt < lo.toInt ∨ hi.toInt < v.toInt) → xP (D170_117 F lo hi v3 v m2) (fun r m' => ((5 < p - bg ∨ v.toInt < lo.toInt ∨ hi.toInt < v.toInt) ∧ r = 0 ∧ rT m0 n p (trf ft (1 + 8 * (bg : Int) + 1)) v.toInt m') ∨ (¬ (5 < p - bg ∨ v.toInt < lo.toInt ∨ hi.toInt < v.toInt) ∧ r = 1 ∧ rT m0 n p ft v.toInt m')) := fun e z => by
        subst e
        unfold D170_117
        refine xP_b (R163 hnu (by omega) (by omega) (by decide) (by decide)) (fun r2 m2 q2 => ?_)
        obtain ⟨rfl, q2⟩ := q2
        refine xP_i (fun _ => xP_r (Or.inl ⟨z, rfl, ?_⟩)) (fun d => absurd (show zcmp .eq (0 : Int32) 0 = false from d) (by decide))
        rw [h3b] at q2
        exact q2
      refine xP_i (fun d => ?_) (fun d => ?_)
      · have d : (5 : Int) < ((mx.1 70 8) - v3).toInt := zt d
        exact bad rfl (Or.inl (by omega))
      · have d : ¬ (5 : Int) < ((mx.1 70 8) - v3).toInt := zf d
        refine xP_b R158 (fun r2 m2 q2 => ?_)
        obtain ⟨e2, q2⟩ := q2
        dsimp only
        refine xP_i (fun g => ?_) (fun g => ?_)
        · unfold D170_126
          rcases q2 with ⟨-, q2⟩ | ⟨q2, -⟩
          · rw [e2]
            exact xP_r (Or.inr ⟨fun z => z.elim (fun z => by omega) q2, rfl, hnu⟩)
          · rw [q2] at g
            cases g
        · rcases q2 with ⟨q2, -⟩ | ⟨-, q2⟩
          · rw [q2] at g
            cases g
          · exact bad e2 (Or.inr q2)
    · have q : p < n ∧ tdg (b p) = true := by
        rcases q with q | q
        · exact q.2
        · rw [q.1] at c
          cases c
      have dg2 : ∀ j, bg ≤ j → j < p + 1 → tdg (b j) = true := fun j j1 j2 => by
        by_cases e : j = p
        · rw [e]
          exact q.2
        · exact dg j j1 (by omega)
      have bp : 48 ≤ b p ∧ b p ≤ 57 := by
        have := q.2
        unfold tdg at this
        simp only [Bool.and_eq_true, decide_eq_true_eq] at this
        exact this
      have hC := rT_p (v := mx.1 70 8 + 1) (x := p + 1) h ((xa1 (by show _ ≤ _ + (1 : Int); omega) (by show _ + (1 : Int) ≤ _; omega)).trans (by rw [h3.1]; rfl)) N.2.1 q.1
      rw [tS_t q.1 q.2]
      unfold D170_75
      refine xP_i (fun e => ?_) (fun e => ?_)
      · have e : (5 : Int) ≤ ((mx.1 70 8) - v3).toInt := zt e
        exact ih hC (by omega) (by omega) dg2 (by rw [show min (p + 1 - bg) 5 = min (p - bg) 5 by omega]; exact hv)
      · have e : ¬ (5 : Int) ≤ ((mx.1 70 8) - v3).toInt := zf e
        refine xP_g (xib_t (by omega) (by omega)) ?_
        refine ih hC (by omega) (by omega) dg2 ?_
        obtain ⟨-, z3⟩ := k2 p q.1
        rw [if_pos (by omega)] at z3
        rw [rT_i h, show min (p + 1 - bg) 5 = (p - bg) + 1 by omega]
        rw [show min (p - bg) 5 = p - bg by omega] at hv tb tb2
        show _ = 10 * tv b bg (p - bg) + b (bg + (p - bg)) - 48
        rw [show bg + (p - bg) = p by omega]
        have e1 : (10 * v).toInt = 10 * v.toInt := xm1 (by show _ ≤ (10 : Int) * _; omega) (by show (10 : Int) * _ ≤ _; omega)
        have e2 : (10 * v + mx.1 71 p).toInt = 10 * v.toInt + b p := (xa1 (by omega) (by omega)).trans (by rw [e1, z3])
        have e3 : (10 * v + mx.1 71 p - 48).toInt = 10 * v.toInt + b p - 48 := (xs1 (by show _ ≤ _ - (48 : Int); omega) (by show _ - (48 : Int) ≤ _; omega)).trans (by rw [e2]; rfl)
        rw [e3, hv]
/-- numberHere -/
theorem R170 {lo hi : Int32} (hF : 500 ≤ F) (N : rN m0 b n) (h : rT m0 n p ft nu m) : xP (D170 F lo hi m) (fun r m' => (¬ (tsk b n p < n ∧ tdg (b (tsk b n p)) = true) ∧ r = 0 ∧ rT m0 n (tsk b n p) (trf ft (1 + 8 * (tsk b n p : Int))) nu m') ∨ ((tsk b n p < n ∧ tdg (b (tsk b n p)) = true) ∧ (((5 < tde b n p - tsk b n p ∨ tv b (tsk b n p) (min (tde b n p - tsk b n p) 5) < lo.toInt ∨ hi.toInt < tv b (tsk b n p) (min (tde b n p - tsk b n p) 5)) ∧ r = 0 ∧ rT m0 n (tde b n p) (trf ft (1 + 8 * (tsk b n p : Int) + 1)) (tv b (tsk b n p) (min (tde b n p - tsk b n p) 5)) m') ∨ (¬ (5 < tde b n p - tsk b n p ∨ tv b (tsk b n p) (min (tde b n p - tsk b n p) 5) < lo.toInt ∨ hi.toInt < tv b (tsk b n p) (min (tde b n p - tsk b n p) 5)) ∧ r = 1 ∧ rT m0 n (tde b n p) ft (tv b (tsk b n p) (min (tde b n p - tsk b n p) 5)) m')))) := by
  have n4 := N.2.1
  unfold D170
  refine xP_b (R164 hF N h) (fun v m1 q => ?_)
  obtain ⟨q, -⟩ := q
  have h3 := q.2.2.1
  refine xP_b (R165 N q h3.1) (fun r mx q1 => ?_)
  obtain ⟨rfl, q1⟩ := q1
  dsimp only
  refine xP_i (fun c => ?_) (fun c => ?_)
  · have q1 : tS tbl b n p < n ∧ tdg (b (tS tbl b n p)) = true := by
      rcases q1 with q1 | q1
      · exact q1.2
      · rw [q1.1] at c
        cases c
    exact xP_m (R170_34 N h3.1 F q (Nat.le_refl _) (by omega) (fun j j1 j2 => by omega) (by rw [Nat.sub_self]; rfl)) (fun r2 m2 q2 => Or.inr ⟨q1, q2⟩)
  · have q1 : ¬ (tS tbl b n p < n ∧ tdg (b (tS tbl b n p)) = true) := by
      rcases q1 with q1 | q1
      · rw [q1.1] at c
        cases c
      · exact q1.2
    refine xP_b (R163 q (by omega) (by omega) (by decide) (by decide)) (fun r2 m2 q2 => ?_)
    obtain ⟨rfl, q2⟩ := q2
    refine xP_g (show xbo (0 : Int32) = true by decide) (xP_r (Or.inl ⟨q1, rfl, ?_⟩))
    rw [h3.1, show (1 + 8 * ((tS tbl b n p : Nat) : Int) + (0 : Int32).toInt) = 1 + 8 * ((tS tbl b n p : Nat) : Int) from Int.add_zero _] at q2
    exact q2
theorem tpk_b {l : List Int} (h : ∀ c ∈ l, 97 ≤ c ∧ c ≤ (122 : Int)) : ∀ k, l.length = k → k ≤ 6 → 0 ≤ tpk l ∧ tpk l < 281474976710656 := by
  have key : ∀ (l : List Int), (∀ c ∈ l, 97 ≤ c ∧ c ≤ (122 : Int)) → 0 ≤ tpr l ∧ tpr l < 256 ^ l.length := by
    intro l
    induction l with
    | nil => intro _; exact ⟨Int.le_refl _, by decide⟩
    | cons c l ih =>
      intro h
      obtain ⟨a1, a2⟩ := ih (fun c hc => h c (List.mem_cons_of_mem _ hc))
      have h1 := h c List.mem_cons_self
      rw [List.length_cons, Int.pow_succ]
      show 0 ≤ 256 * tpr l + c ∧ 256 * tpr l + c < _
      omega
  intro k hk k6
  have e := tpk_tpr l.reverse
  rw [List.reverse_reverse] at e
  obtain ⟨a1, a2⟩ := key l.reverse (fun c hc => h c (List.mem_reverse.mp hc))
  rw [List.length_reverse, hk] at a2
  rw [e]
  refine ⟨a1, Int.lt_of_lt_of_le a2 ?_⟩
  have : k = 0 ∨ k = 1 ∨ k = 2 ∨ k = 3 ∨ k = 4 ∨ k = 5 ∨ k = 6 := by omega
  rcases this with rfl | rfl | rfl | rfl | rfl | rfl | rfl <;> decide
theorem R167_10 {w : Int64} (N : rN m0 b n) (h : rT m0 n p ft nu m) : ∀ (f : Nat) {i : Nat} {v3 : Int64} {v5 : Int32}, p + i ≤ n → (∀ j, p ≤ j → j < p + i → tlt (b j) = true) → v5.toInt = (i : Int) → (i ≤ 7 → v3.toInt = tpk (tw b p (p + i))) → n - (p + i) < f → xP (D167_10 F f w v3 v5 m) (fun r m' => m' = m ∧ ((r = 1 ∧ 0 < tS tlt b n (p + i) - p ∧ tS tlt b n (p + i) - p < 8 ∧ tpk (tw b p (tS tlt b n (p + i))) = w.toInt) ∨ (r = 0 ∧ ¬ (0 < tS tlt b n (p + i) - p ∧ tS tlt b n (p + i) - p < 8 ∧ tpk (tw b p (tS tlt b n (p + i))) = w.toInt)))) := by
  have n4 := N.2.1
  obtain ⟨k1, k2⟩ := rT_n N h
  have h3 := h.2.2.1
  intro f
  induction f with
  | zero => intro i v3 v5 _ _ _ _ l; omega
  | succ f ih =>
    intro i v3 v5 l1 lt h5 hv l
    have ea : ((m.1 70 8) + v5).toInt = ((p + i : Nat) : Int) := (xa1 (by omega) (by omega)).trans (by omega)
    have ei : ((m.1 70 8) + v5).toNatClampNeg = p + i := by show ((m.1 70 8) + v5).toInt.toNat = _; omega
    unfold D167_10 D167_78
    refine xP_b (R166 N h ea) (fun r mx q => ?_)
    obtain ⟨rfl, q⟩ := q
    dsimp only
    refine xP_i (fun c => ?_) (fun c => ?_)
    · have q : ¬ (p + i < n ∧ tlt (b (p + i)) = true) := by
        rcases q with q | q
        · rw [q.1] at c
          cases c
        · exact q.2
      rw [tS_f q, show p + i - p = i by omega]
      have lc := ylcmp v3 w
      refine xP_i (fun d => xP_r ⟨rfl, Or.inr ⟨rfl, fun z => ?_⟩⟩) (fun d => xP_i (fun e => xP_r ⟨rfl, Or.inr ⟨rfl, fun z => ?_⟩⟩) (fun e => xP_i (fun g => xP_r ⟨rfl, Or.inr ⟨rfl, fun z => ?_⟩⟩) (fun g => xP_r ⟨rfl, Or.inl ⟨rfl, ?_⟩⟩)))
      · have d : v5.toInt ≤ 0 := zt d
        omega
      · have e : (8 : Int) ≤ v5.toInt := zt e
        omega
      · have g : (lg_cmp v3 w).toInt ≠ 0 := zt g
        have := hv (by omega)
        omega
      · have d : ¬ v5.toInt ≤ 0 := zf d
        have e : ¬ (8 : Int) ≤ v5.toInt := zf e
        have g : (lg_cmp v3 w).toInt = 0 := Decidable.not_not.mp (zf g)
        have := hv (by omega)
        exact ⟨by omega, by omega, by omega⟩
    · have q : p + i < n ∧ tlt (b (p + i)) = true := by
        rcases q with q | q
        · exact q.2
        · rw [q.1] at c
          cases c
      have lt2 : ∀ j, p ≤ j → j < p + (i + 1) → tlt (b j) = true := fun j j1 j2 => by
        by_cases e : j = p + i
        · rw [e]
          exact q.2
        · exact lt j j1 (by omega)
      have i5 : (v5 + Int32.ofInt 1).toInt = ((i + 1 : Nat) : Int) := xinc h5 (by omega)
      rw [tS_t q.1 q.2, show p + i + 1 = p + (i + 1) by omega]
      unfold D167_50
      refine xP_i (fun d => ?_) (fun d => ?_)
      · have d : (8 : Int) ≤ v5.toInt := zt d
        exact ih (by omega) lt2 i5 (fun z => by omega) (by omega)
      · have d : ¬ (8 : Int) ≤ v5.toInt := zf d
        refine xP_g (xib_t (by omega) (by omega)) ?_
        refine ih (by omega) lt2 i5 (fun z => ?_) (by omega)
        have hv := hv (by omega)
        have lb : ∀ c ∈ tw b p (p + i), 97 ≤ c ∧ c ≤ (122 : Int) := fun c hc => by
          unfold tw at hc
          obtain ⟨j, j1, rfl⟩ := List.mem_map.mp hc
          have := lt (p + j) (by omega) (by have := List.mem_range.mp j1; omega)
          unfold tlt at this
          simp only [Bool.and_eq_true, decide_eq_true_eq] at this
          exact this
        obtain ⟨a1, a2⟩ := tpk_b lb i (by rw [tw_len]; omega) (by omega)
        have bp : 97 ≤ b (p + i) ∧ b (p + i) ≤ 122 := by
          have := q.2
          unfold tlt at this
          simp only [Bool.and_eq_true, decide_eq_true_eq] at this
          exact this
        obtain ⟨-, z3⟩ := k2 (p + i) q.1
        rw [if_pos (by omega)] at z3
        rw [ei, x64 hv a1 a2 z3 (by omega) (by omega), show p + (i + 1) = p + i + 1 by omega, tw_snoc (by omega), tpk_snoc]
/-- isWord -/
theorem R167 {w : Int64} {W : List Int} (hF : 500 ≤ F) (N : rN m0 b n) (h : rT m0 n p ft nu m) (hw : tpk W = w.toInt) (hl : 0 < W.length ∧ W.length < 8) (hc : ∀ c ∈ W, 1 ≤ c ∧ c ≤ (255 : Int)) : xP (D167 F w m) (fun r m' => rT m0 n (tsk b n p) ft nu m' ∧ ((r = 1 ∧ twd b n p = W) ∨ (r = 0 ∧ twd b n p ≠ W))) := by
  have n4 := N.2.1
  unfold D167
  refine xP_b (R164 hF N h) (fun v m1 q => ?_)
  obtain ⟨q, -⟩ := q
  have l1 : tS tbl b n p ≤ n := q.2.2.1.2
  have g3 : tS tbl b n p ≤ tS tlt b n (tS tbl b n p) := tS_ge _
  have hb : ∀ c ∈ twd b n p, 1 ≤ c ∧ c ≤ (255 : Int) := fun c hc => by
    unfold twd tw at hc
    obtain ⟨j, j1, rfl⟩ := List.mem_map.mp hc
    have := (tS_in (P := tlt) (b := b) (n := n) (tS tbl b n p) (tS tbl b n p + j) (by omega) (by have := List.mem_range.mp j1; omega)).2
    unfold tlt at this
    simp only [Bool.and_eq_true, decide_eq_true_eq] at this
    omega
  have z := R167_10 (F := F) (w := w) N q F (i := 0) (v3 := 0) (v5 := 0) (by omega) (fun j j1 j2 => by omega) rfl (fun _ => by rw [Nat.add_zero, tw_nil]; rfl) (by omega)
  rw [Nat.add_zero] at z
  refine xP_m z (fun r m' q2 => ?_)
  obtain ⟨rfl, q2⟩ := q2
  refine ⟨q, ?_⟩
  rcases q2 with ⟨r1, a1, a2, a3⟩ | ⟨r0, a1⟩
  · exact Or.inl ⟨r1, tpk_inj hb hc (a3.trans hw.symm)⟩
  · refine Or.inr ⟨r0, fun e => a1 ?_⟩
    have len : tS tlt b n (tS tbl b n p) - tS tbl b n p = W.length := by rw [← e, tw_len]
    exact ⟨by omega, by omega, by rw [show tw b (tS tbl b n p) (tS tlt b n (tS tbl b n p)) = W from e, hw]⟩
end RW
