/-! came of the reference, over the memory: with a tool there is a house. -/
section XCAM
variable {F : Nat} {m : xS}
abbrev xMC : yM := [(70, 70, 32), (70, 70, 33), (70, 70, 34)]
theorem P206 {v : Int32} : xP (D206 F v m) (fun w m' => m' = m ∧ (w = 0 ∨ (w = 1 ∧ 0 ≤ v.toInt ∧ v.toInt < (m.1 80 2).toInt))) := by
  unfold D206 D206_18
  refine xP_i (fun _ => xP_r ⟨rfl, Or.inl rfl⟩) (fun c => xP_i (fun _ => xP_r ⟨rfl, Or.inl rfl⟩) (fun c2 => ?_))
  have c : ¬ v.toInt < 0 := zf c
  have c2 : ¬ (m.1 80 2).toInt ≤ v.toInt := zf c2
  exact xP_r ⟨rfl, Or.inr ⟨rfl, by omega, by omega⟩⟩
theorem P208 {i o : Nat} {v1 v2 : Int32} (e1 : v1.toInt = (i : Int)) (hi : i < 6) (e2 : v2.toInt = (o : Int)) (ho : o < 6) : xP (D208 F v1 v2 m) (fun w m' => m' = m ∧ w = m.1 80 (10 + 6 * i + o)) := by
  have a1 : ((6 : Int32) * v1).toInt = 6 * v1.toInt := xm1 (by show _ ≤ (6 : Int) * _; omega) (by show (6 : Int) * _ ≤ _; omega)
  have a2 : ((10 : Int32) + 6 * v1).toInt = 10 + 6 * v1.toInt := by
    rw [xa1 (by rw [a1]; show _ ≤ (10 : Int) + _; omega) (by rw [a1]; show (10 : Int) + _ ≤ _; omega), a1]
    rfl
  have a3 : ((10 : Int32) + 6 * v1 + v2).toInt = 10 + 6 * (i : Int) + (o : Int) := by
    rw [xa1 (by rw [a2]; omega) (by rw [a2]; omega), a2]
    omega
  have a4 : ((10 : Int32) + 6 * v1 + v2).toNatClampNeg = 10 + 6 * i + o := by
    show Int.toNat _ = _
    rw [a3]
    omega
  unfold D208
  refine xP_g (xib_t (by omega) (by omega)) ?_
  rw [a4]
  exact xP_r ⟨rfl, rfl⟩
/-- an owner's or a place's number -/
theorem xown {i o : Nat} (h : xT m) (hi : i < 6) (ho : o = 0 ∨ o = 3) : 0 ≤ (m.1 80 (10 + 6 * i + o)).toInt ∧ (m.1 80 (10 + 6 * i + o)).toInt ≤ 5 := by
  have b := h 80 (10 + 6 * i + o) _ (xb80 (by omega))
  have e : yel 2 (10 + 6 * i + o) = (0, 5) := by
    show (if 10 + 6 * i + o = 0 ∨ 10 + 6 * i + o = 2 ∨ 10 + 6 * i + o = 3 then ((0, 6) : Int × Int) else if 10 ≤ 10 + 6 * i + o ∧ 10 + 6 * i + o < 46 ∧ ((10 + 6 * i + o - 10) % 6 = 0 ∨ (10 + 6 * i + o - 10) % 6 = 3) then (0, 5) else _) = _
    rw [if_neg (by omega), if_pos (by omega)]
  rw [e] at b
  exact b
theorem P212 {i : Nat} {v1 : Int32} (e1 : v1.toInt = (i : Int)) (hi : i < 6) : xP (D212 F v1 m) (fun _ m' => m' = m) := by
  unfold D212
  refine xP_b (P208 (F := F) (o := 0) e1 hi rfl (by decide)) (fun v m1 q => ?_)
  obtain ⟨rfl, -⟩ := q
  refine xP_b (P208 (F := F) (o := 3) e1 hi rfl (by decide)) (fun v m1 q => ?_)
  obtain ⟨rfl, -⟩ := q
  exact xP_i (fun _ => xP_r rfl) (fun _ => xP_r rfl)
theorem P235_4 {v0 : Int32} {h : Nat} (h1 : 1 ≤ h) (h2 : h ≤ 6) (e0 : v0.toInt = (h : Int)) : ∀ (f : Nat) {v1 v2 v3 : Int32} {m : xS} {k p : Nat}, v3.toInt = (k : Int) → k ≤ 5 → v2.toInt = (p : Int) → 1 ≤ p → p ≤ 6 ^ k → v1.toInt ≤ 5 → 6 ≤ f + k → xP (D235_4 F f v0 v1 v2 v3 m) (fun w m' => m' = m ∧ 1 ≤ w.toInt ∧ w.toInt ≤ 7776)
  | 0, v1, v2, v3, m, k, p, e3, k1, e2, p1, p2, l1, l2 => by omega
  | f + 1, v1, v2, v3, m, k, p, e3, k1, e2, p1, p2, l1, l2 => by
    have k6 : 6 ^ k ≤ 6 ^ 5 := Nat.pow_le_pow_right (by decide) k1
    have k7 : (6 : Nat) ^ 5 = 7776 := by decide
    unfold D235_4
    refine xP_i (fun c => xP_r ⟨rfl, by omega, by omega⟩) (fun c => ?_)
    have c : ¬ v1.toInt ≤ v3.toInt := zf c
    have j1 : p * h ≤ 6 ^ k * 6 := Nat.mul_le_mul p2 h2
    have j2 : 6 ^ k * 6 = 6 ^ (k + 1) := rfl
    have j3 : 6 ^ (k + 1) ≤ 6 ^ 5 := Nat.pow_le_pow_right (by decide) (by omega)
    have j4 : 1 ≤ p * h := Nat.mul_le_mul p1 h1
    have j5 : v2.toInt * v0.toInt = ((p * h : Nat) : Int) := by
      rw [e2, e0]
      simp
    have a1 : (v2 * v0).toInt = ((p * h : Nat) : Int) := by
      rw [xm1 (by rw [j5]; omega) (by rw [j5]; omega), j5]
    have e5 : (v3 + Int32.ofInt 1).toInt = v3.toInt + 1 := xa1 (by show _ ≤ _ + (1 : Int); omega) (by show _ + (1 : Int) ≤ _; omega)
    exact P235_4 h1 h2 e0 f (k := k + 1) (p := p * h) (by omega) (by omega) a1 j4 (by omega) l1 (by omega)
theorem P235 (hF : 6 ≤ F) {v0 v1 : Int32} {h : Nat} (h1 : 1 ≤ h) (h2 : h ≤ 6) (e0 : v0.toInt = (h : Int)) (l : v1.toInt ≤ 5) : xP (D235 F v0 v1 m) (fun w m' => m' = m ∧ 1 ≤ w.toInt ∧ w.toInt ≤ 7776) := by
  unfold D235
  exact P235_4 h1 h2 e0 F (k := 0) (p := 1) rfl (by omega) rfl (by omega) (by decide) l (by omega)
theorem xnz {x : Int32} (h : 1 ≤ x.toInt) : (!(x == 0)) = true := by
  cases hb : (x == 0) with
  | false => rfl
  | true =>
    rw [beq_iff_eq] at hb
    subst hb
    exact absurd h (by decide)
theorem P236 (hF : 6 ≤ F) {v1 v2 v3 : Int32} {h : Nat} (h1 : 1 ≤ h) (h2 : h ≤ 6) (e0 : (m.1 80 0).toInt = (h : Int)) (hv : 0 ≤ v1.toInt) (l : (v2 - 1 - v3).toInt ≤ 5) : xP (D236 F v1 v2 v3 m) (fun w m' => m' = m ∧ 0 ≤ w.toInt ∧ w.toInt ≤ 5) := by
  unfold D236
  refine xP_b (P235 hF h1 h2 e0 l) (fun w m1 q => ?_)
  obtain ⟨rfl, q1, q2⟩ := q
  refine xP_g (xnz q1) (xP_g (xnz (show 1 ≤ (m1.1 80 0).toInt by omega)) (xP_r ⟨rfl, ?_⟩))
  have b1 := y32 v1
  have d1 : (v1 / w).toInt = v1.toInt.tdiv w.toInt := by
    have z1 : 0 ≤ v1.toInt.tdiv w.toInt := Int.tdiv_nonneg hv (by omega)
    have z2 : v1.toInt.tdiv w.toInt ≤ v1.toInt := by
      rw [Int.tdiv_eq_ediv_of_nonneg hv]
      exact Int.ediv_le_self _ hv
    rw [Int32.toInt_div]
    exact Int.bmod_eq_of_le_mul_two (by omega) (by omega)
  have d2 : 0 ≤ (v1 / w).toInt := by
    rw [d1]
    exact Int.tdiv_nonneg hv (by omega)
  have d3 := yfI_m (o := 10) (Or.inr (Or.inr rfl)) (v1 / w) (m1.1 80 0)
  have d3 : (v1 / w - v1 / w / m1.1 80 0 * m1.1 80 0).toInt = ((v1 / w).toInt.tmod (m1.1 80 0).toInt).bmod (2 ^ 32) := d3
  have d4 : 0 ≤ (v1 / w).toInt.tmod (m1.1 80 0).toInt := Int.tmod_nonneg _ d2
  have d5 : (v1 / w).toInt.tmod (m1.1 80 0).toInt < (m1.1 80 0).toInt := Int.tmod_lt_of_pos _ (by omega)
  have d6 : ((v1 / w).toInt.tmod (m1.1 80 0).toInt).bmod (2 ^ 32) = (v1 / w).toInt.tmod (m1.1 80 0).toInt := Int.bmod_eq_of_le_mul_two (by omega) (by omega)
  show 0 ≤ (v1 / w - v1 / w / m1.1 80 0 * m1.1 80 0).toInt ∧ (v1 / w - v1 / w / m1.1 80 0 * m1.1 80 0).toInt ≤ 5
  rw [d3, d6]
  omega
theorem P159 {a b : Int32} : xP (D159 F a b m) (fun _ m' => m' = m) := by
  unfold D159
  exact xP_i (fun _ => xP_r rfl) (fun _ => xP_r rfl)
theorem P237_5 (hF : 6 ≤ F) {h : Nat} (h1 : 1 ≤ h) (h2 : h ≤ 6) {v1 v2 : Int32} (hv : 0 ≤ v1.toInt) (l : v2.toInt ≤ 5) : ∀ (f : Nat) {v3 v4 : Int32} {m : xS} {k : Nat}, (m.1 80 0).toInt = (h : Int) → v4.toInt = (k : Int) → k ≤ 5 → 6 ≤ f + k → xP (D237_5 F f v1 v2 v3 v4 m) (fun _ m' => m' = m)
  | 0, v3, v4, m, k, e0, e4, k1, l2 => by omega
  | f + 1, v3, v4, m, k, e0, e4, k1, l2 => by
    unfold D237_5
    refine xP_i (fun c => xP_r rfl) (fun c => ?_)
    have c : ¬ v2.toInt ≤ v4.toInt := zf c
    have a1 : (v2 - 1).toInt = v2.toInt - 1 := xs1 (by show _ ≤ _ - (1 : Int); omega) (by show _ - (1 : Int) ≤ _; omega)
    have a2 : (v2 - 1 - v4).toInt = v2.toInt - 1 - v4.toInt := by
      rw [xs1 (by rw [a1]; omega) (by rw [a1]; omega), a1]
    refine xP_b (P236 hF h1 h2 e0 hv (by omega)) (fun w m1 q => ?_)
    obtain ⟨rfl, q⟩ := q
    refine xP_b (P159 (F := F)) (fun w2 m2 q2 => ?_)
    have q2 : m2 = m1 := q2
    subst q2
    refine xP_i (fun _ => ?_) (fun _ => xP_r rfl)
    have e5 : (v4 + Int32.ofInt 1).toInt = v4.toInt + 1 := xa1 (by show _ ≤ _ + (1 : Int); omega) (by show _ + (1 : Int) ≤ _; omega)
    exact P237_5 hF h1 h2 hv l f (k := k + 1) e0 (by omega) (by omega) (by omega)
theorem P238_3 (hF : 6 ≤ F) {h : Nat} (h1 : 1 ≤ h) (h2 : h ≤ 6) {v1 v2 v3 : Int32} (hv : 0 ≤ v1.toInt) (l : v2.toInt ≤ 5) : ∀ (f : Nat) {v4 : Int32} {m : xS} {k : Nat}, (m.1 80 0).toInt = (h : Int) → v4.toInt = (k : Int) → k ≤ 5 → 6 ≤ f + k → xP (D238_3 F f v1 v2 v3 v4 m) (fun _ m' => m' = m)
  | 0, v4, m, k, e0, e4, k1, l2 => by omega
  | f + 1, v4, m, k, e0, e4, k1, l2 => by
    unfold D238_3
    refine xP_i (fun c => xP_r rfl) (fun c => ?_)
    have c : ¬ v2.toInt ≤ v4.toInt := zf c
    have a1 : (v2 - 1).toInt = v2.toInt - 1 := xs1 (by show _ ≤ _ - (1 : Int); omega) (by show _ - (1 : Int) ≤ _; omega)
    have a2 : (v2 - 1 - v4).toInt = v2.toInt - 1 - v4.toInt := by
      rw [xs1 (by rw [a1]; omega) (by rw [a1]; omega), a1]
    refine xP_b (P236 hF h1 h2 e0 hv (by omega)) (fun w m1 q => ?_)
    obtain ⟨rfl, q⟩ := q
    refine xP_i (fun _ => ?_) (fun _ => xP_r rfl)
    have e5 : (v4 + Int32.ofInt 1).toInt = v4.toInt + 1 := xa1 (by show _ ≤ _ + (1 : Int); omega) (by show _ + (1 : Int) ≤ _; omega)
    exact P238_3 hF h1 h2 hv l f (k := k + 1) e0 (by omega) (by omega) (by omega)
theorem P210 {v1 v2 : Int32} (a : 0 ≤ v1.toInt ∧ v1.toInt ≤ 5) (b : 0 ≤ v2.toInt ∧ v2.toInt ≤ 5) : xP (D210 F v1 v2 m) (fun _ m' => m' = m) := by
  have a1 : ((6 : Int32) * v1).toInt = 6 * v1.toInt := xm1 (by show _ ≤ (6 : Int) * _; omega) (by show (6 : Int) * _ ≤ _; omega)
  have a2 : ((46 : Int32) + 6 * v1).toInt = 46 + 6 * v1.toInt := by
    rw [xa1 (by rw [a1]; show _ ≤ (46 : Int) + _; omega) (by rw [a1]; show (46 : Int) + _ ≤ _; omega), a1]
    rfl
  have a3 : ((46 : Int32) + 6 * v1 + v2).toInt = 46 + 6 * v1.toInt + v2.toInt := by
    rw [xa1 (by rw [a2]; omega) (by rw [a2]; omega), a2]
  unfold D210
  exact xP_g (xib_t (by omega) (by omega)) (xP_i (fun _ => xP_r rfl) (fun _ => xP_r rfl))
theorem P239_6 (hF : 6 ≤ F) {h : Nat} (h1 : 1 ≤ h) (h2 : h ≤ 6) {v1 v2 v3 : Int32} (hv : 0 ≤ v2.toInt) (l : v3.toInt ≤ 5) : ∀ (f : Nat) {v4 v5 : Int32} {m : xS} {k : Nat}, (m.1 80 0).toInt = (h : Int) → (0 ≤ v4.toInt ∧ v4.toInt ≤ 5) → v5.toInt = (k : Int) → k ≤ 5 → 6 ≤ f + k → xP (D239_6 F f v1 v2 v3 v4 v5 m) (fun _ m' => m' = m)
  | 0, v4, v5, m, k, e0, b4, e4, k1, l2 => by omega
  | f + 1, v4, v5, m, k, e0, b4, e4, k1, l2 => by
    unfold D239_6
    refine xP_i (fun c => xP_r rfl) (fun c => ?_)
    have c : ¬ v3.toInt ≤ v5.toInt := zf c
    have a1 : (v3 - 1).toInt = v3.toInt - 1 := xs1 (by show _ ≤ _ - (1 : Int); omega) (by show _ - (1 : Int) ≤ _; omega)
    have a2 : (v3 - 1 - v5).toInt = v3.toInt - 1 - v5.toInt := by
      rw [xs1 (by rw [a1]; omega) (by rw [a1]; omega), a1]
    refine xP_b (P236 hF h1 h2 e0 hv (by omega)) (fun w m1 q => ?_)
    obtain ⟨rfl, q⟩ := q
    refine xP_b (P210 (F := F) b4 q) (fun w2 m2 q2 => ?_)
    have q2 : m2 = m1 := q2
    subst q2
    refine xP_i (fun _ => ?_) (fun _ => xP_r rfl)
    have e5 : (v5 + Int32.ofInt 1).toInt = v5.toInt + 1 := xa1 (by show _ ≤ _ + (1 : Int); omega) (by show _ + (1 : Int) ≤ _; omega)
    exact P239_6 hF h1 h2 hv l f (k := k + 1) e0 q (by omega) (by omega) (by omega)
theorem xd1 (x : Int32) : (x - 1 - (x - 1)).toInt = 0 := by
  rw [Int32.toInt_sub, Int.sub_self]
  rfl
theorem xd2 (x : Int32) : (x - 1 - (x - 2)).toInt = 1 := by
  rw [Int32.toInt_sub, Int32.toInt_sub, Int32.toInt_sub, Int.sub_bmod_bmod, Int.bmod_sub_bmod, show x.toInt - (1 : Int32).toInt - (x.toInt - (2 : Int32).toInt) = 1 by
    show x.toInt - (1 : Int) - (x.toInt - (2 : Int)) = 1
    omega]
  rfl
theorem xT70 {j : Nat} {v : Int32} (h : xT m) (hj : j = 32 ∨ j = 33 ∨ j = 34) : xT (xu m 70 j v) ∧ xfr xMC m (xu m 70 j v) := by
  have b := y32 v
  rcases hj with rfl | rfl | rfl
  · exact ⟨xT_c h (lo := -2147483648) (hi := 2147483647) rfl b.1 (by omega), xfr_u (by decide)⟩
  · exact ⟨xT_c h (lo := -2147483648) (hi := 2147483647) rfl b.1 (by omega), xfr_u (by decide)⟩
  · exact ⟨xT_c h (lo := -2147483648) (hi := 2147483647) rfl b.1 (by omega), xfr_u (by decide)⟩
abbrev xQC (m : xS) (_ : Unit) (m' : xS) : Prop := xT m' ∧ xfr xMC m m'
theorem xfr80 {m' : xS} {j : Nat} (f : xfr xMC m m') : m'.1 80 j = m.1 80 j := f.2 80 j rfl
theorem P266_18 (hF : 6 ≤ F) {h i : Nat} (h1 : 1 ≤ h) (h2 : h ≤ 6) (hi : i < 6) {v1 v2 : Int32} (e1 : v1.toInt = (i : Int)) : ∀ (f : Nat) {v3 : Int32} {m : xS} {k : Nat}, xT m → (m.1 80 0).toInt = (h : Int) → v3.toInt = (k : Int) → k ≤ 7776 → 7776 < f + k → xP (D266_18 F f v1 v2 v3 m) (xQC m)
  | 0, v3, m, k, hT, e0, e3, k1, l2 => by omega
  | f + 1, v3, m, k, hT, e0, e3, k1, l2 => by
    unfold D266_18
    refine xP_i (fun c => xP_r ⟨hT, xfr_r _ _⟩) (fun c => ?_)
    have c : ¬ (m.1 80 0).toInt ≤ v2.toInt := zf c
    refine xP_b (P235 hF h1 h2 e0 (by omega)) (fun w m1 q => ?_)
    obtain ⟨rfl, q1, q2⟩ := q
    refine xP_i (fun c => xP_r ⟨hT, xfr_r _ _⟩) (fun c3 => ?_)
    have c3 : ¬ w.toInt ≤ v3.toInt := zf c3
    have e5 : (v3 + Int32.ofInt 1).toInt = v3.toInt + 1 := xa1 (by show _ ≤ _ + (1 : Int); omega) (by show _ + (1 : Int) ≤ _; omega)
    have go : ∀ {m2 : xS} {u : Int32}, xT m2 → xfr xMC m1 m2 → xP (D266_175 F (D266_18 F f) v1 v2 v3 u m2) (xQC m1) := by
      intro m2 u t2 f2
      unfold D266_175
      exact xP_m (P266_18 hF h1 h2 hi e1 f (k := k + 1) t2 (by rw [xfr80 f2]; exact e0) (by omega) (by omega) (by omega)) (fun _ m' q => ⟨q.1, xfr_t f2 q.2⟩)
    have go152 : ∀ {m2 : xS} {u u5 : Int32}, xT m2 → xfr xMC m1 m2 → xP (D266_152 F (D266_18 F f) v1 v2 v3 u u5 m2) (xQC m1) := by
      intro m2 u u5 t2 f2
      unfold D266_152
      have x1 := xT70 (v := m2.1 70 33 ||| 1 <<< (u5 &&& 31)) t2 (Or.inr (Or.inl rfl))
      have x2 := xT70 (v := m2.1 70 32 + 1) x1.1 (Or.inl rfl)
      exact go x2.1 (xfr_t f2 (xfr_t x1.2 x2.2))
    have go137 : ∀ {m2 : xS} {u u5 : Int32}, xT m2 → xfr xMC m1 m2 → xP (D266_137 F (D266_18 F f) v1 v2 v3 u u5 m2) (xQC m1) := by
      intro m2 u u5 t2 f2
      unfold D266_137
      refine xP_i (fun _ => go152 t2 f2) (fun _ => ?_)
      have x1 := xT70 (v := u5) t2 (Or.inr (Or.inr rfl))
      exact go152 x1.1 (xfr_t f2 x1.2)
    have go89 : ∀ {u : Int32}, xP (D266_89 F (D266_18 F f) v1 v2 v3 u m1) (xQC m1) := by
      intro u
      unfold D266_89
      refine xP_i (fun _ => go hT (xfr_r _ _)) (fun _ => ?_)
      refine xP_b (P208 (F := F) (o := 0) e1 hi rfl (by decide)) (fun o m2 q => ?_)
      obtain ⟨rfl, rfl⟩ := q
      refine xP_b (P239_6 hF h1 h2 (by omega) (by omega) F (k := 0) e0 (xown hT hi (Or.inl rfl)) rfl (by omega) (by omega)) (fun o2 m3 q => ?_)
      have q : m3 = m2 := q
      subst q
      refine xP_i (fun _ => ?_) (fun _ => go hT (xfr_r _ _))
      refine xP_i (fun _ => ?_) (fun _ => ?_)
      · refine xP_b (P236 hF h1 h2 e0 (by omega) (by rw [xd2]; decide)) (fun o3 m4 q => ?_)
        obtain ⟨rfl, -⟩ := q
        exact go137 hT (xfr_r _ _)
      · refine xP_b (P208 (F := F) (o := 0) e1 hi rfl (by decide)) (fun o m2 q => ?_)
        obtain ⟨rfl, rfl⟩ := q
        exact go137 hT (xfr_r _ _)
    refine xP_b (P236 hF h1 h2 e0 (by omega) (by rw [xd1]; decide)) (fun o3 m4 q => ?_)
    obtain ⟨rfl, -⟩ := q
    refine xP_b (P208 (F := F) (o := 3) e1 hi rfl (by decide)) (fun o4 m2 q => ?_)
    obtain ⟨rfl, -⟩ := q
    refine xP_i (fun _ => go89) (fun _ => ?_)
    refine xP_b (P237_5 hF h1 h2 (by omega) (by omega) F (k := 0) e0 rfl (by omega) (by omega)) (fun o5 m2 q => ?_)
    have q : m2 = _ := q
    subst q
    refine xP_i (fun _ => go89) (fun _ => ?_)
    refine xP_b (P208 (F := F) (o := 0) e1 hi rfl (by decide)) (fun o6 m2 q => ?_)
    obtain ⟨rfl, -⟩ := q
    refine xP_b (P238_3 hF h1 h2 (by omega) (by omega) F (k := 0) e0 rfl (by omega) (by omega)) (fun o7 m2 q => ?_)
    have q : m2 = _ := q
    subst q
    exact xP_i (fun _ => go89) (fun _ => go89)
theorem P267 (hF : 8000 ≤ F) {v1 v2 : Int32} (hT : xT m) (hh : xh m 80 0) : xP (D267 F v1 v2 m) (fun _ m' => xT m' ∧ xfr xMC m m') := by
  have no : ∀ {m2 : xS}, m2 = m → xP (D267_20 F v1 v2 m2) (fun _ m' => xT m' ∧ xfr xMC m m') := fun e => by
    subst e
    exact xP_r ⟨hT, xfr_r _ _⟩
  unfold D267
  refine xP_b (P206 (F := F)) (fun w m1 q => ?_)
  obtain ⟨rfl, q⟩ := q
  refine xP_i (fun _ => no rfl) (fun c => ?_)
  have c : w ≠ 0 := zneq c
  obtain ⟨-, a1, a2⟩ := q.resolve_left c
  have b2 := hT 80 2 _ (xb80 (by decide))
  have b22 : (m1.1 80 2).toInt ≤ 6 := b2.2
  have b0 := hT 80 0 _ (xb80 (by decide))
  have b02 : (m1.1 80 0).toInt ≤ 6 := b0.2
  have b03 : 0 < (m1.1 80 0).toInt := hh (by show 0 < (m1.1 80 2).toInt; omega)
  obtain ⟨i, ei⟩ : ∃ i : Nat, v1.toInt = (i : Int) := ⟨v1.toInt.toNat, by omega⟩
  obtain ⟨h, eh⟩ : ∃ h : Nat, (m1.1 80 0).toInt = (h : Int) := ⟨(m1.1 80 0).toInt.toNat, by omega⟩
  refine xP_b (P158 (F := F)) (fun w2 m2 q2 => ?_)
  obtain ⟨rfl, -⟩ := q2
  refine xP_i (fun _ => ?_) (fun _ => no rfl)
  refine xP_b (P212 (F := F) ei (by omega)) (fun w3 m3 q3 => ?_)
  have q3 : m3 = _ := q3
  subst q3
  refine xP_i (fun _ => ?_) (fun _ => ?_)
  · refine xP_b (P208 (F := F) (o := 4) ei (by omega) rfl (by decide)) (fun w4 m4 q4 => ?_)
    obtain ⟨rfl, -⟩ := q4
    have x1 := xT70 (v := 0) hT (Or.inl rfl)
    have x2 := xT70 (v := 0) x1.1 (Or.inr (Or.inl rfl))
    have x3 := xT70 (v := -2) x2.1 (Or.inr (Or.inr rfl))
    have f3 := xfr_t x1.2 (xfr_t x2.2 x3.2)
    have p := P266_18 (F := F) (by omega) (h := h) (i := i) (by omega) (by omega) (by omega) (v2 := w4) ei F (v3 := 0) (k := 0) x3.1 (by rw [xfr80 f3]; exact eh) rfl (by omega) (by omega)
    refine xP_b (R := xQC _) p (fun w5 m5 q5 => ?_)
    have r : xT m5 ∧ xfr xMC m4 m5 := ⟨q5.1, xfr_t f3 q5.2⟩
    exact xP_i (fun _ => xP_i (fun _ => xP_r r) (fun _ => xP_r r)) (fun _ => xP_r r)
  · exact xP_i (fun _ => xP_i (fun _ => xP_r ⟨hT, xfr_r _ _⟩) (fun _ => xP_r ⟨hT, xfr_r _ _⟩)) (fun _ => xP_r ⟨hT, xfr_r _ _⟩)
theorem yas3 {hp : zHp} {r : Nat → Int} {b : yB} {n : Nat} {as : List Value} {c : Nat} {l l2 : yL} (g : yG hp r (n, b, [], [], [(0, (2, yc c, yc 0)), (1, (0, l, yc 0)), (2, (0, l2, yc 0))], []) (lv_args 0 as) []) (hlen : as.length = 3) : ∃ x y : Int32, as = [.ref c, .int x, .int y] := by
  match as, hlen with
  | [a, b, e], _ =>
    have ha : a = .ref c := by
      obtain ⟨-, w, w1, w2⟩ := g.2.2.2.1 0 (2, yc c, yc 0) rfl
      have w1 : some a = some w := w1
      cases w1
      rcases w2 with ⟨w2, -⟩ | ⟨-, w2⟩
      · have w2 : yev r (yc c) = -1 := w2
        rw [yev_c] at w2
        omega
      · have w2 : a = .ref (yev r (yc c)).toNat := w2
        rw [yev_c] at w2
        rw [w2]
        rfl
    subst ha
    obtain ⟨-, w, w1, w2⟩ := g.2.2.2.1 1 (0, l, yc 0) rfl
    have w1 : some b = some w := w1
    cases w1
    obtain ⟨x, rfl, hx⟩ := yvI' rfl w2
    obtain ⟨-, w, w1, w3⟩ := g.2.2.2.1 2 (0, l2, yc 0) rfl
    have w1 : some e = some w := w1
    cases w1
    obtain ⟨y, rfl, hy⟩ := yvI' rfl w3
    exact ⟨x, y, rfl⟩
theorem ycam_s : yTs (yEA yAr) 8 ys1 := by
  intro d hd hp r as H gg hl hlen
  obtain ⟨x, y, has⟩ := yas3 (c := 70) (l := (1, 0, 0)) (l2 := (1, 1, 0)) (n := 2) (b := [(0, (-2147483648), 2147483647), (1, (-2147483648), 2147483647)]) gg hlen
  subst has
  obtain ⟨w, hw, hT, f⟩ := P267 (F := 8000) (v1 := x) (v2 := y) (Nat.le_refl _) (xT_of H.1) ((xh_of H.1 (k := 0) (n := 148) (by decide)).mp H.2.1.1)
  have z := Z267 H.1 hw (d := d) (by omega)
  rw [xW_of] at z
  have fy : yF ys1.2.2.2.2 hp (xW hp w.2) := xF f.2 (fun i j _ => by rw [f.1])
  refine ⟨_, z, ⟨xH H.1 hT (fun i j _ => by rw [f.1]), ⟨yP_F fy rfl rfl H.2.1.1, yP_F fy rfl rfl H.2.1.2.1, fun k hk => yP_F fy rfl rfl (H.2.1.2.2.1 k hk), fun k hk => yP_F fy rfl rfl (H.2.1.2.2.2 k hk)⟩, yA_F yAr_F (M := ys1.2.2.2.2) rfl (ydj_ok (by decide)) fy H.2.2⟩, fy, _, List.mem_cons_self, (fun s => if s < 2 then r s else w.1.toInt), (fun s hs => if_pos hs), by decide, ?_⟩
  refine ⟨fun e he => ?_, (fun x hx => by cases hx), (fun t ht => by cases ht), (fun i a e => by cases e), ⟨⟨Or.inr (by decide), Or.inl rfl⟩, yvI (by show w.1.toInt = 1 * w.1.toInt + 0; omega)⟩, trivial⟩
  rcases List.mem_cons.mp he with rfl | he
  · have := y32 w.1
    exact ⟨by decide, this.1, Int.le_of_lt_add_one this.2⟩
  · cases he
end XCAM
