/-! The class reads a village: what is told, clauses, the whole text. -/
def cQ (m0 : xS) (b : Nat → Int) (n : Nat) (o : Int ⊕ vSt) (m : xS) : Prop := match o with
  | .inl g => g ≠ 0 ∧ ∃ p bg, tC m0 b n p bg g m
  | .inr q => (∃ bg, tC m0 b n q.1 bg 0 m) ∧ vR (vdn q.2) (m.1 12) ∧ vz q.2
section VCT
variable {m0 : xS} {b : Nat → Int} {n p bg k : Nat} {ft : Int} {s : Nat → Int} {m : xS} {F : Nat}
theorem vmay_iff {u : Nat} : vmay s k u = true ↔ (k = 0 ∧ u = 0) ∨ (k ≠ 0 ∧ u ≠ 0 ∧ k < 40 ∧ (u = 1 → s 2 < 6) ∧ (u = 3 → s 3 < 6)) := by
  unfold vmay
  by_cases k0 : k = 0
  · rw [if_pos k0]
    constructor
    · intro h
      exact Or.inl ⟨k0, by simpa using h⟩
    · intro h
      rcases h with h | h
      · rw [h.2]; rfl
      · exact absurd k0 h.1
  · rw [if_neg k0]
    simp only [Bool.and_eq_true, Bool.or_eq_true, decide_eq_true_eq, bne_iff_ne]
    constructor
    · intro h
      exact Or.inr ⟨k0, h.1, h.2.1, fun z => h.2.2.1.resolve_left (fun y => y z), fun z => h.2.2.2.resolve_left (fun y => y z)⟩
    · intro h
      rcases h with h | h
      · exact absurd h.1 k0
      · refine ⟨h.2.1, h.2.2.1, ?_, ?_⟩
        · by_cases z : u = 1
          · exact Or.inr (h.2.2.2.1 z)
          · exact Or.inl z
        · by_cases z : u = 3
          · exact Or.inr (h.2.2.2.2 z)
          · exact Or.inl z
theorem vmay_f {u : Nat} (h : ¬ ((k = 0 ∧ u = 0) ∨ (k ≠ 0 ∧ u ≠ 0 ∧ k < 40 ∧ (u = 1 → s 2 < 6) ∧ (u = 3 → s 3 < 6)))) : vmay s k u = false := by
  cases e : vmay s k u with
  | false => rfl
  | true => exact absurd (vmay_iff.mp e) h
/-- mayStand -/
theorem c118 {v1 v2 : Int32} {u : Nat} (hw : v1.toInt = (u : Int)) (hk : v2.toInt = (k : Int)) (R : 0 < k → (m.1 12 2).toInt = s 2 ∧ (m.1 12 3).toInt = s 3) : xP (D118_11 F v1 v2 m) (fun r m' => m' = m ∧ ((r = 1 ∧ vmay s k u = true) ∨ (r = 0 ∧ vmay s k u = false))) := by
  have l8 : xP (D118_11_8 F v1 v2 m) (fun r m' => m' = m ∧ ((r = 1 ∧ (k = 0 ∧ u = 0)) ∨ (r = 0 ∧ ¬ (k = 0 ∧ u = 0)))) := by
    unfold D118_11_8 D118_11_20
    refine xP_i (fun c => xP_r ⟨rfl, Or.inr ⟨rfl, fun z => ?_⟩⟩) (fun c => xP_i (fun d => xP_r ⟨rfl, Or.inr ⟨rfl, fun z => ?_⟩⟩) (fun d => xP_r ⟨rfl, Or.inl ⟨rfl, ?_⟩⟩))
    · have c : v2.toInt ≠ 0 := zt c
      omega
    · have d : v1.toInt ≠ 0 := zt d
      omega
    · have c : v2.toInt = 0 := Decidable.not_not.mp (zf c)
      have d : v1.toInt = 0 := Decidable.not_not.mp (zf d)
      omega
  have l38 : 0 < k → xP (D118_11_38 F v1 v2 m) (fun r m' => m' = m ∧ ((r = 1 ∧ (k < 40 ∧ (u = 3 → s 3 < 6))) ∨ (r = 0 ∧ ¬ (k < 40 ∧ (u = 3 → s 3 < 6))))) := fun k0 => by
    obtain ⟨-, r3⟩ := R k0
    unfold D118_11_38 D118_11_62 D118_11_58 D80_11
    refine xP_i (fun c => xP_r ⟨rfl, Or.inr ⟨rfl, fun z => ?_⟩⟩) (fun c => ?_)
    · have c : (40 : Int) ≤ v2.toInt := zt c
      omega
    have c : ¬ (40 : Int) ≤ v2.toInt := zf c
    refine xP_i (fun d => xP_r ⟨rfl, Or.inl ⟨rfl, by omega, fun z => ?_⟩⟩) (fun d => ?_)
    · have d : v1.toInt ≠ 3 := zt d
      omega
    refine xP_b (R := fun v m' => v = m.1 12 3 ∧ m' = m) (xP_r ⟨rfl, rfl⟩) (fun v m' q => ?_)
    obtain ⟨rfl, rfl⟩ := q
    have d : v1.toInt = 3 := Decidable.not_not.mp (zf d)
    dsimp only
    refine xP_i (fun e => xP_r ⟨rfl, Or.inr ⟨rfl, fun z => ?_⟩⟩) (fun e => xP_r ⟨rfl, Or.inl ⟨rfl, by omega, fun z => ?_⟩⟩)
    · have e : (6 : Int) ≤ (m'.1 12 3).toInt := zt e
      have := z.2 (by omega)
      omega
    · have e : ¬ (6 : Int) ≤ (m'.1 12 3).toInt := zf e
      omega
  unfold D118_11
  refine xP_i (fun c => xP_m l8 (fun r m' q => ?_)) (fun c => ?_)
  · have c : v2.toInt = 0 := (congrArg Int32.toInt (zeq c)).trans rfl
    obtain ⟨q0, q⟩ := q
    refine ⟨q0, ?_⟩
    rcases q with ⟨q1, q2⟩ | ⟨q1, q2⟩
    · exact Or.inl ⟨q1, vmay_iff.mpr (Or.inl q2)⟩
    · exact Or.inr ⟨q1, vmay_f (fun z => by rcases z with z | z <;> omega)⟩
  have c : v2.toInt ≠ 0 := fun z => zneq c (Int32.toInt_inj.mp z)
  have k0 : 0 < k := by omega
  refine xP_i (fun d => ?_) (fun d => xP_m l8 (fun r m' q => ?_))
  · have d : v1.toInt ≠ 0 := zt d
    refine xP_i (fun e => xP_m (l38 k0) (fun r m' q => ?_)) (fun e => ?_)
    · have e : v1.toInt ≠ 1 := zt e
      obtain ⟨q0, q⟩ := q
      refine ⟨q0, ?_⟩
      rcases q with ⟨q1, q2⟩ | ⟨q1, q2⟩
      · exact Or.inl ⟨q1, vmay_iff.mpr (Or.inr ⟨by omega, by omega, q2.1, fun z => by omega, q2.2⟩)⟩
      · refine Or.inr ⟨q1, vmay_f (fun z => ?_)⟩
        rcases z with z | z
        · omega
        · exact q2 ⟨z.2.2.1, z.2.2.2.2⟩
    · have e : v1.toInt = 1 := Decidable.not_not.mp (zf e)
      obtain ⟨r2, -⟩ := R k0
      unfold D79_11
      refine xP_b (R := fun v m' => v = m.1 12 2 ∧ m' = m) (xP_r ⟨rfl, rfl⟩) (fun v m' q => ?_)
      obtain ⟨rfl, rfl⟩ := q
      dsimp only
      refine xP_i (fun g => xP_m (l38 k0) (fun r m'' q => ?_)) (fun g => xP_r ⟨rfl, Or.inr ⟨rfl, vmay_f (fun z => ?_)⟩⟩)
      · have g : (m'.1 12 2).toInt < 6 := zt g
        obtain ⟨q0, q⟩ := q
        refine ⟨q0, ?_⟩
        rcases q with ⟨q1, q2⟩ | ⟨q1, q2⟩
        · exact Or.inl ⟨q1, vmay_iff.mpr (Or.inr ⟨by omega, by omega, q2.1, fun z => by omega, q2.2⟩)⟩
        · refine Or.inr ⟨q1, vmay_f (fun z => ?_)⟩
          rcases z with z | z
          · omega
          · exact q2 ⟨z.2.2.1, z.2.2.2.2⟩
      · have g : ¬ (m'.1 12 2).toInt < 6 := zf g
        rcases z with z | z
        · omega
        · have := z.2.2.2.1 (by omega)
          omega
  · have d : v1.toInt = 0 := Decidable.not_not.mp (zf d)
    obtain ⟨q0, q⟩ := q
    refine ⟨q0, ?_⟩
    rcases q with ⟨q1, q2⟩ | ⟨q1, q2⟩
    · exact Or.inl ⟨q1, vmay_iff.mpr (Or.inl q2)⟩
    · exact Or.inr ⟨q1, vmay_f (fun z => by rcases z with z | z <;> omega)⟩
/-- tellHouses -/
theorem c291_5 : ∀ (f : Nat) {i : Nat} {v2 : Int32} {m : xS}, v2.toInt = (i : Int) → i ≤ 114 → 114 - i < f → tC m0 b n p bg 0 m → (∀ j, j < i → m.1 12 j = 0) → xP (D291_12_5 F f 0 v2 (Int32.ofNat 114) m) (fun _ m' => tC m0 b n p bg 0 m' ∧ (∀ j, j < 114 → m'.1 12 j = 0) ∧ m'.1 5 = m.1 5) := by
  intro f
  induction f with
  | zero => intro i v2 m _ _ l; omega
  | succ f ih =>
    intro i v2 m hv h6 hf h h0
    have e114 : (Int32.ofNat 114).toInt = 114 := rfl
    unfold D291_12_5
    refine xP_i (fun c => xP_r ⟨h, fun j hj => h0 j ?_, rfl⟩) (fun c => ?_)
    · have c : (Int32.ofNat 114).toInt ≤ v2.toInt := zt c
      omega
    · have c : ¬ (Int32.ofNat 114).toInt ≤ v2.toInt := zf c
      rw [show v2.toNatClampNeg = i by show v2.toInt.toNat = i; omega]
      refine xP_g (xib_t (by omega) (by omega)) ?_
      refine xP_m (ih (i := i + 1) (m := xu m 12 i 0) (xinc hv (by omega)) (by omega) (by omega) (tC_12 h (l := 0) (u := 5) (Or.inl ⟨by decide, by decide⟩) ⟨by decide, by decide⟩) (fun j hj => ?_)) (fun _ m' q => ⟨q.1, q.2.1, q.2.2.trans (funext fun j => xu_o (fun z => absurd z.1 (by decide)))⟩)
      by_cases e : j = i
      · rw [e, xu_s]
      · rw [xu_o (fun z => e z.2)]
        exact h0 j (by omega)
theorem vup_sw {x y : Int} {i j : Nat} (h : i ≠ j) : vup (vup s i x) j y = vup (vup s j y) i x := by
  funext a
  unfold vup
  by_cases z : a = j
  · rw [if_pos z, if_neg (by omega), if_pos z]
  · rw [if_neg z]
    by_cases z2 : a = i
    · rw [if_pos z2, if_pos z2]
    · rw [if_neg z2, if_neg z2, if_neg z]
theorem c71 (hF : 500 ≤ F) (h : tC m0 b n p bg 0 m) (hs : ∀ j, s j = 0) {a c : Int} {v1 v2 : Int32} (e1 : v1.toInt = a) (e2 : v2.toInt = c) (ha : 0 ≤ a ∧ a ≤ 6) : xP (D71_11 F v1 v2 m) (fun _ m' => (∃ bg, tC m0 b n p bg 0 m') ∧ vR (vdn (vup (vup s 1 c) 0 a)) (m'.1 12) ∧ vz (vup (vup s 1 c) 0 a)) := by
  unfold D71_11 D291_12
  refine xP_b (c291_5 F (i := 0) rfl (by omega) (by omega) h (fun j hj => absurd hj (Nat.not_lt_zero _))) (fun _ m1 q => ?_)
  obtain ⟨t1, z0, -⟩ := q
  have b2 := y32 v2
  refine xP_r ⟨⟨bg, tC_12 (tC_12 t1 (c := 0) (l := 0) (u := 6) (Or.inr (Or.inl ⟨Or.inl rfl, by decide, by decide⟩)) (by omega)) (c := 1) (l := -2147483648) (u := 2147483647) (Or.inr (Or.inr (Or.inr ⟨by decide, by decide, by decide⟩))) (by omega)⟩, ?_, ?_⟩
  · have R0 : vR (vdn s) (m1.1 12) := by
      have vs : ∀ j, ¬ (118 ≤ j ∧ j < 124) → vdn s j = 0 := fun j hj => (vdn_o hj).trans (hs j)
      refine ⟨fun j hj => ?_, fun t w ht hw => ?_, fun w k hw hk => ?_, fun w hw l => ?_, fun a d ha hd => ?_, fun a d ha hd => ?_⟩
      · rw [z0 _ (by omega), vs _ (by omega)]; rfl
      · rw [z0 _ (by omega), vs _ (by omega)]; rfl
      · rw [z0 _ (by omega), vs _ (by omega)]; rfl
      · rw [vs 3 (by decide)] at l
        omega
      · rw [z0 _ (by omega), vs _ (by omega)]
        have key : (List.range 6).all (fun d => tbt (0 : Int32) d == false) = true := by decide +kernel
        have := List.all_eq_true.mp key d (List.mem_range.mpr hd)
        rw [show tbt (0 : Int32) d = false by simpa using this]
        rfl
      · rw [z0 _ (by omega), vs _ (by omega)]; rfl
    have R1 := vR_sc (vR_sc R0 (j := 0) (by decide) (by decide) e1) (j := 1) (by decide) (by decide) e2
    rw [vup_sw (by decide), ← vdn_up (by decide), ← vdn_up (by decide)] at R1
    rw [xu_cup, xu_cup]
    exact R1
  · intro j h1 h2
    rw [vup_o (by omega), vup_o (by omega)]
    exact hs j
theorem i12 {t w : Nat} {A x y : Int32} {B : Nat} (hA : A.toInt = (B : Int)) (hB : B ≤ 1000) (ht : x.toInt = (t : Int)) (l : t ≤ 6) (hw : y.toInt = (w : Int)) (l2 : w ≤ 6) : ((A + 6 * y) + x).toInt = ((B + 6 * w + t : Nat) : Int) := ixH hA hB hw ht l2 l
theorem nci {x : Int32} {c : Nat} (hx : x.toInt = (c : Int)) : x.toNatClampNeg = c := by show x.toInt.toNat = c; omega
/-- setOfTool, setOfWork -/
theorem c88 {t w : Nat} {v1 v2 v3 : Int32} (h1 : v1.toInt = (t : Int)) (l1 : t < 6) (h2 : v2.toInt = (w : Int)) (l2 : w < 6) : xP (D88_11 F v1 v2 v3 m) (fun _ m' => m' = xu m 12 (6 + 6 * w + t) v3) := by
  have e := i12 (A := 6) (B := 6) rfl (by decide) h1 (by omega) h2 (by omega)
  unfold D88_11
  rw [nci e]
  exact xP_g (xib_t (by omega) (by omega)) (xP_r rfl)
theorem c90 {t w : Nat} {v1 v2 v3 : Int32} (h1 : v1.toInt = (t : Int)) (l1 : t < 6) (h2 : v2.toInt = (w : Int)) (l2 : w < 6) : xP (D90_11 F v1 v2 v3 m) (fun _ m' => m' = xu m 12 (42 + 6 * w + t) v3) := by
  have e := i12 (A := 42) (B := 42) rfl (by decide) h1 (by omega) h2 (by omega)
  unfold D90_11
  rw [nci e]
  exact xP_g (xib_t (by omega) (by omega)) (xP_r rfl)
/-- tellTool -/
theorem c72 (h : tC m0 b n p bg 0 m) (R : vR (vdn s) (m.1 12)) (z : vz s) {t : Nat} (ht : s 2 = (t : Int)) (t6 : t < 6) {a c d : Int} {v1 v2 v3 : Int32} (e1 : v1.toInt = a) (e2 : v2.toInt = c) (e3 : v3.toInt = d) (ha : 0 ≤ a ∧ a ≤ 5) : xP (D72_11 F v1 v2 v3 m) (fun _ m' => (∃ bg, tC m0 b n p bg 0 m') ∧ vR (vdn (vTool s t a c d)) (m'.1 12) ∧ vz (vTool s t a c d)) := by
  have h2 : (m.1 12 2).toInt = (t : Int) := (R.1 2 (by decide)).trans ((vdn_o (by decide)).trans ht)
  have b2 := y32 v2
  have b3 := y32 v3
  unfold D72_11 D79_11
  refine xP_b (R := fun v m' => v = m.1 12 2 ∧ m' = m) (xP_r ⟨rfl, rfl⟩) (fun v m' q => ?_)
  obtain ⟨rfl, rfl⟩ := q
  dsimp only
  refine xP_i (fun g => ?_) (fun _ => ?_)
  · have g : (6 : Int) ≤ (m'.1 12 2).toInt := zt g
    omega
  refine xP_b (c88 (w := 0) h2 t6 rfl (by decide)) (fun _ m1 q1 => ?_)
  refine xP_b (c88 (w := 1) h2 t6 rfl (by decide)) (fun _ m2 q2 => ?_)
  refine xP_b (c88 (w := 2) h2 t6 rfl (by decide)) (fun _ m3 q3 => ?_)
  refine xP_b (c88 (w := 3) h2 t6 rfl (by decide)) (fun _ m4 q4 => ?_)
  dsimp only at q1 q2 q3 q4 ⊢
  subst q1
  subst q2
  subst q3
  subst q4
  have et : (m'.1 12 2 + 1).toInt = (t : Int) + 1 := (xa1 (by show _ ≤ _ + (1 : Int); omega) (by show _ + (1 : Int) ≤ _; omega)).trans (by rw [h2]; rfl)
  have fre : ∀ {c : Nat}, (12 ≤ c ∧ c < 24) → b12 c (-2147483648) 2147483647 := fun {c} hc => Or.inr (Or.inr (Or.inr ⟨by omega, by decide, by decide⟩))
  have t1 := tC_12 h (c := 6 + 6 * 0 + t) (v := v1) (l := 0) (u := 5) (Or.inl ⟨by decide, by decide⟩) (by omega)
  have t2 := tC_12 t1 (c := 6 + 6 * 1 + t) (v := v2) (fre (by omega)) (by omega)
  have t3 := tC_12 t2 (c := 6 + 6 * 2 + t) (v := v3) (fre (by omega)) (by omega)
  have t4 := tC_12 t3 (c := 6 + 6 * 3 + t) (v := v1) (l := 0) (u := 5) (Or.inl ⟨by decide, by decide⟩) (by omega)
  have t5 := tC_12 t4 (c := 2) (v := m'.1 12 2 + 1) (l := 0) (u := 6) (Or.inr (Or.inl ⟨Or.inr (Or.inl rfl), by decide, by decide⟩)) (by omega)
  refine xP_r ⟨⟨bg, t5⟩, ?_, ?_⟩
  · have R1 := vR_tool R (t0 := t) (w0 := 0) t6 (by decide) e1
    have R2 := vR_tool R1 (t0 := t) (w0 := 1) t6 (by decide) e2
    have R3 := vR_tool R2 (t0 := t) (w0 := 2) t6 (by decide) e3
    have R4 := vR_tool R3 (t0 := t) (w0 := 3) t6 (by decide) e1
    have z4 : (vup (vup (vup (vup (vdn s) (10 + 6 * t + 0) a) (10 + 6 * t + 1) c) (10 + 6 * t + 2) d) (10 + 6 * t + 3) a) (10 + 6 * t + 4) = 0 := by
      rw [vup_o (by omega), vup_o (by omega), vup_o (by omega), vup_o (by omega), vdn_o (by omega)]
      exact z _ (by omega) (by omega)
    have z5 : (vup (vup (vup (vup (vdn s) (10 + 6 * t + 0) a) (10 + 6 * t + 1) c) (10 + 6 * t + 2) d) (10 + 6 * t + 3) a) (10 + 6 * t + 5) = 0 := by
      rw [vup_o (by omega), vup_o (by omega), vup_o (by omega), vup_o (by omega), vdn_o (by omega)]
      exact z _ (by omega) (by omega)
    have R5 := vR_sc R4 (j := 2) (by decide) (by decide) et
    unfold vTool
    rw [vdn_up (by omega), vdn_up (by omega), vdn_up (by omega), vdn_up (by omega), vdn_up (by omega), vdn_up (by omega), vdn_up (by omega)]
    rw [show 10 + 6 * t = 10 + 6 * t + 0 from rfl, vup_id _ _ z4, vup_id _ _ z5]
    rw [xu_cup, xu_cup, xu_cup, xu_cup, xu_cup]
    exact R5
  · intro j h1 h3
    unfold vTool at h1 ⊢
    rw [vup_s] at h1
    rw [vup_o (by omega), vup_o (by omega), vup_o (by omega), vup_o (by omega), vup_o (by omega), vup_o (by omega), vup_o (by omega)]
    exact z j (by omega) h3
/-- tellWork -/
theorem c73 (h : tC m0 b n p bg 0 m) (R : vR (vdn s) (m.1 12)) (z : vz s) {t : Nat} (ht : s 3 = (t : Int)) (t6 : t < 6) {a c d e : Int} {v1 v2 v3 v4 : Int32} (e1 : v1.toInt = a) (e2 : v2.toInt = c) (e3 : v3.toInt = d) (e4 : v4.toInt = e) (ha : 0 ≤ a ∧ a ≤ 5) : xP (D73_11 F v1 v2 v3 v4 m) (fun _ m' => (∃ bg, tC m0 b n p bg 0 m') ∧ vR (vdn (vWork s t a c d e)) (m'.1 12) ∧ vz (vWork s t a c d e)) := by
  have h2 : (m.1 12 3).toInt = (t : Int) := (R.1 3 (by decide)).trans ((vdn_o (by decide)).trans ht)
  have b2 := y32 v2
  have b3 := y32 v3
  have b4 := y32 v4
  unfold D73_11 D80_11
  refine xP_b (R := fun v m' => v = m.1 12 3 ∧ m' = m) (xP_r ⟨rfl, rfl⟩) (fun v m' q => ?_)
  obtain ⟨rfl, rfl⟩ := q
  dsimp only
  refine xP_i (fun g => ?_) (fun _ => ?_)
  · have g : (6 : Int) ≤ (m'.1 12 3).toInt := zt g
    omega
  refine xP_b (c90 (w := 0) h2 t6 rfl (by decide)) (fun _ m1 q1 => ?_)
  refine xP_b (c90 (w := 1) h2 t6 rfl (by decide)) (fun _ m2 q2 => ?_)
  refine xP_b (c90 (w := 2) h2 t6 rfl (by decide)) (fun _ m3 q3 => ?_)
  refine xP_b (c90 (w := 3) h2 t6 rfl (by decide)) (fun _ m4 q4 => ?_)
  refine xP_b (c90 (w := 4) h2 t6 rfl (by decide)) (fun _ m5 q5 => ?_)
  dsimp only at q1 q2 q3 q4 q5 ⊢
  subst q1
  subst q2
  subst q3
  subst q4
  subst q5
  have et : (m'.1 12 3 + 1).toInt = (t : Int) + 1 := (xa1 (by show _ ≤ _ + (1 : Int); omega) (by show _ + (1 : Int) ≤ _; omega)).trans (by rw [h2]; rfl)
  have fre : ∀ {c : Nat}, (48 ≤ c ∧ c < 72) → b12 c (-2147483648) 2147483647 := fun {c} hc => Or.inr (Or.inr (Or.inr ⟨by omega, by decide, by decide⟩))
  have t1 := tC_12 h (c := 42 + 6 * 0 + t) (v := v1) (l := 0) (u := 5) (Or.inl ⟨by decide, by decide⟩) (by omega)
  have t2 := tC_12 t1 (c := 42 + 6 * 1 + t) (v := v2) (fre (by omega)) (by omega)
  have t3 := tC_12 t2 (c := 42 + 6 * 2 + t) (v := v3) (fre (by omega)) (by omega)
  have t4 := tC_12 t3 (c := 42 + 6 * 3 + t) (v := v4) (fre (by omega)) (by omega)
  have t5 := tC_12 t4 (c := 42 + 6 * 4 + t) (v := -1) (fre (by omega)) (by decide)
  have t7 := tC_12 t5 (c := 3) (v := m'.1 12 3 + 1) (l := 0) (u := 6) (Or.inr (Or.inl ⟨Or.inr (Or.inr rfl), by decide, by decide⟩)) (by omega)
  refine xP_r ⟨⟨bg, t7⟩, ?_, ?_⟩
  · have R1 := vR_work R (w0 := t) (k0 := 0) t6 (by decide) e1
    have R2 := vR_work R1 (w0 := t) (k0 := 1) t6 (by decide) e2
    have R3 := vR_work R2 (w0 := t) (k0 := 2) t6 (by decide) e3
    have R4 := vR_work R3 (w0 := t) (k0 := 3) t6 (by decide) e4
    have z4 : (vup (vup (vup (vup (vdn s) (124 + 4 * t + 0) a) (124 + 4 * t + 1) c) (124 + 4 * t + 2) d) (124 + 4 * t + 3) e) (118 + t) = -1 := by
      rw [vup_o (by omega), vup_o (by omega), vup_o (by omega), vup_o (by omega)]
      exact if_pos (by omega)
    have R5 := vR_done R4 (w0 := t) (v := -1) (x := -1) t6 rfl
    rw [vup_id _ _ z4] at R5
    have z3 : (vup (vup (vup (vup (vdn s) (124 + 4 * t + 0) a) (124 + 4 * t + 1) c) (124 + 4 * t + 2) d) (124 + 4 * t + 3) e) 3 = (t : Int) := by
      rw [vup_o (by omega), vup_o (by omega), vup_o (by omega), vup_o (by omega), vdn_o (by omega)]
      exact ht
    have R6 := vR_nw R5 (w0 := t) z3 (by rw [cup_s, z4]; rfl) et
    unfold vWork
    rw [vdn_up (by omega), vdn_up (by omega), vdn_up (by omega), vdn_up (by omega), vdn_up (by omega)]
    rw [show 124 + 4 * t = 124 + 4 * t + 0 from rfl]
    rw [xu_cup, xu_cup, xu_cup, xu_cup, xu_cup, xu_cup, show 42 + 6 * 4 + t = 66 + t by omega]
    exact R6
  · intro j h1 h3
    unfold vWork at h1 ⊢
    rw [vup_o (by omega), vup_o (by omega), vup_o (by omega), vup_o (by omega), vup_o (by omega)] at h1 ⊢
    exact z j h1 h3
theorem or63 {x : Int32} {a : Nat} (h0 : 0 ≤ x.toInt) (h1 : x.toInt ≤ 63) (ha : a < 6) : 0 ≤ (x ||| ((1 : Int32) <<< (Int32.ofNat a &&& 31))).toInt ∧ (x ||| ((1 : Int32) <<< (Int32.ofNat a &&& 31))).toInt ≤ 63 := by
  have key : (List.range 64).all (fun x => (List.range 6).all (fun a => decide (0 ≤ (Int32.ofNat x ||| ((1 : Int32) <<< (Int32.ofNat a &&& 31))).toInt) && decide ((Int32.ofNat x ||| ((1 : Int32) <<< (Int32.ofNat a &&& 31))).toInt ≤ 63))) = true := by decide +kernel
  have e : x = Int32.ofNat x.toInt.toNat := i32n (by omega)
  have k1 := List.all_eq_true.mp (List.all_eq_true.mp key x.toInt.toNat (List.mem_range.mpr (by omega))) a (List.mem_range.mpr ha)
  rw [← e] at k1
  simpa using k1
/-- tellTrust -/
theorem c74 (h : tC m0 b n p bg 0 m) (R : vR (vdn s) (m.1 12)) (z : vz s) {a c : Int} {v1 v2 : Int32} (e1 : v1.toInt = a) (e2 : v2.toInt = c) (ha : 0 ≤ a ∧ a ≤ 5) (hc : 0 ≤ c ∧ c ≤ 5) : xP (D74_11 F v1 v2 m) (fun _ m' => (∃ bg, tC m0 b n p bg 0 m') ∧ vR (vdn (vup s (46 + 6 * a.toNat + c.toNat) 1)) (m'.1 12) ∧ vz (vup s (46 + 6 * a.toNat + c.toNat) 1)) := by
  have i : ((72 : Int32) + v1).toInt = ((72 + a.toNat : Nat) : Int) := ixp (c := 72) (e := a.toNat) rfl (by omega) (by omega)
  have ev : v2 = Int32.ofNat c.toNat := i32n (by omega)
  have e0 : xbn 12 (72 + a.toNat) = some (0, 63) := by
    have e : xbn 12 (72 + a.toNat) = some (yel 1 (72 + a.toNat)) := xbn_a (k := 0) (n := 114) (ec := 1) (by decide) rfl (by decide) (by omega)
    have e2 : yel 1 (72 + a.toNat) = if 72 + a.toNat = 0 ∨ 72 + a.toNat = 2 ∨ 72 + a.toNat = 3 then (0, 6) else if (6 ≤ 72 + a.toNat ∧ 72 + a.toNat < 12) ∨ (24 ≤ 72 + a.toNat ∧ 72 + a.toNat < 30) ∨ (42 ≤ 72 + a.toNat ∧ 72 + a.toNat < 48) then (0, 5) else if 72 ≤ 72 + a.toNat ∧ 72 + a.toNat < 78 then (0, 63) else (-2147483648, 2147483647) := rfl
    rw [e, e2, if_neg (by omega), if_neg (by omega), if_pos (by omega)]
  have bx := h.2.1.1 12 (72 + a.toNat) _ e0
  have bx0 : (0 : Int) ≤ (m.1 12 (72 + a.toNat)).toInt := bx.1
  have bx1 : (m.1 12 (72 + a.toNat)).toInt ≤ 63 := bx.2
  have l6 : c.toNat < 6 := by omega
  unfold D74_11
  rw [nci i]
  subst ev
  have o := or63 bx0 bx1 l6
  refine xP_g (xib_t (by omega) (by omega)) (xP_g (xib_t (by omega) (by omega)) (xP_r ⟨⟨bg, tC_12 h (c := 72 + a.toNat) (l := 0) (u := 63) (Or.inr (Or.inr (Or.inl ⟨by omega, by decide, by decide⟩))) o⟩, ?_, ?_⟩))
  · have R1 := vR_tru R (a0 := a.toNat) (d0 := c.toNat) (y := true) (v := (m.1 12 (72 + a.toNat)) ||| ((1 : Int32) <<< (Int32.ofNat c.toNat &&& 31))) (by omega) l6 (by rw [tb_or, tb_one l6 l6, decide_eq_true rfl, Bool.or_true]) (fun d hd ne => by rw [tb_or, tb_one l6 hd, decide_eq_false ne, Bool.or_false])
    rw [vdn_up (by omega), xu_cup]
    exact R1
  · intro j h1 h3
    rw [vup_o (by omega)] at h1
    rw [vup_o (by omega)]
    exact z j h1 h3
/-- tellThanks -/
theorem c75 (h : tC m0 b n p bg 0 m) (R : vR (vdn s) (m.1 12)) (z : vz s) {a c d : Int} {v1 v2 v3 : Int32} (e1 : v1.toInt = a) (e2 : v2.toInt = c) (e3 : v3.toInt = d) (ha : 0 ≤ a ∧ a ≤ 5) (hc : 0 ≤ c ∧ c ≤ 5) : xP (D75_11 F v1 v2 v3 m) (fun _ m' => (∃ bg, tC m0 b n p bg 0 m') ∧ vR (vdn (vup s (82 + 6 * a.toNat + c.toNat) d)) (m'.1 12) ∧ vz (vup s (82 + 6 * a.toNat + c.toNat) d)) := by
  have i := ixH (A := 78) (B := 78) (x := v1) (y := v2) (a := a.toNat) (c := c.toNat) rfl (by decide) (by omega) (by omega) (by omega) (by omega)
  have b3 := y32 v3
  unfold D75_11
  rw [nci i]
  refine xP_g (xib_t (by omega) (by omega)) (xP_r ⟨⟨bg, tC_12 h (c := 78 + 6 * a.toNat + c.toNat) (l := -2147483648) (u := 2147483647) (Or.inr (Or.inr (Or.inr ⟨by omega, by decide, by decide⟩))) (by omega)⟩, ?_, ?_⟩)
  · have R1 := vR_thx R (a0 := a.toNat) (d0 := c.toNat) (v := v3) (by omega) (by omega) e3
    rw [vdn_up (by omega), xu_cup]
    exact R1
  · intro j h1 h3
    rw [vup_o (by omega)] at h1
    rw [vup_o (by omega)]
    exact z j h1 h3
theorem tC_ft (h : tC m0 b n p bg ft m) (e : ft = 0) : tC m0 b n p bg 0 m := e ▸ h
/-- readClause -/
theorem c117 (hF : 500 ≤ F) (h : tC m0 b n p bg 0 m) (ok : vOk s k) (hz : k = 0 → ∀ j, s j = 0) (R : 0 < k → vR (vdn s) (m.1 12) ∧ vz s) {v3 : Int32} (hk : v3.toInt = (k : Int)) : xP (D117_4_2_11 F v3 m) (fun _ m' => cQ m0 b n (vcl b n k p s) m') := by
  obtain ⟨o1, o2, o3, o4⟩ := ok
  unfold D117_4_2_11
  refine xP_b (cWord hF h) (fun r m1 q => ?_)
  obtain ⟨f1, q⟩ := q
  have r12 := kM12 f1
  dsimp only
  rcases q with ⟨u, hu, er, t1⟩ | ⟨hu, er, t1⟩
  rotate_left
  · refine xP_i (fun c => ?_) (fun _ => xP_r ?_)
    · have c : r.toInt ≠ -1 := zt c
      exact absurd er c
    · have vc : vcl b n k p s = .inl (1 + 8 * (tsk b n p : Int)) := by
        unfold vcl
        rw [hu]
      rw [vc]
      exact ⟨by omega, _, _, t1⟩
  have u5 : u < 5 := by rcases tcls_c hu with c | c | c | c | c <;> omega
  have R1 : 0 < k → vR (vdn s) (m1.1 12) := fun k0 => by rw [r12]; exact (R k0).1
  refine xP_i (fun _ => ?_) (fun c => ?_)
  rotate_left
  · have c : r.toInt = -1 := Decidable.not_not.mp (zf c)
    omega
  refine xP_b (c118 (s := s) (k := k) er hk (fun k0 => ⟨((R1 k0).1 2 (by decide)).trans (vdn_o (by decide)), ((R1 k0).1 3 (by decide)).trans (vdn_o (by decide))⟩)) (fun r2 m2 q2 => ?_)
  obtain ⟨rfl, q2⟩ := q2
  have vc : vcl b n k p s = if vmay s k u = true then vbod b n (tS tlt b n (tsk b n p)) s u else .inl (1 + 8 * (tsk b n p : Int) + 4) := by
    unfold vcl
    rw [hu]
  have n4 := t1.1.2.1
  have g1 : tsk b n p ≤ n := tS_le _ h.2.2.1.2
  dsimp only
  rcases q2 with ⟨rfl, hm⟩ | ⟨rfl, hm⟩
  rotate_left
  · refine xP_i (fun c => absurd c (by decide)) (fun _ => ?_)
    refine xP_b (cRef t1 (c := 4) (x := 4) t1.2.2.2.1 (by omega) rfl (by decide) (by decide)) (fun _ m3 q3 => xP_r ?_)
    rw [vc, hm]
    exact ⟨by omega, _, _, q3.2⟩
  refine xP_i (fun _ => ?_) (fun c => absurd c (by decide))
  rw [vc, if_pos hm]
  have mm := vmay_iff.mp hm
  unfold D77_11
  refine xP_b (R := fun v m' => v = m2.1 12 0 ∧ m' = m2) (xP_r ⟨rfl, rfl⟩) (fun v m' q => ?_)
  obtain ⟨rfl, rfl⟩ := q
  dsimp only
  -- behind the numbers
  have fin : ∀ {w : Int32} {m3 : xS} {o : Int ⊕ vSt}, ((∃ g, o = .inl g ∧ g ≠ 0 ∧ (∃ p' bg', tC m0 b n p' bg' g m3)) ∨ ((∃ bg' p', tC m0 b n p' bg' 0 m3) ∧ xP (D120_4_11 F w m3) (fun _ m4 => cQ m0 b n o m4))) → xP ((D51_2 F m3).bind fun q47 => if zcmp .eq q47.1 0 = true then some ((), q47.2) else (D120_4_11 F w q47.2).bind fun q57 => some ((), q57.2)) (fun _ m4 => cQ m0 b n o m4) := by
    intro w m3 o ho
    rcases ho with ⟨g, rfl, g0, p', bg', t3⟩ | ⟨⟨bg', p', t3⟩, ho⟩
    · refine xP_b (cSnd t3) (fun r m4 q4 => ?_)
      obtain ⟨rfl, q4⟩ := q4
      rcases q4 with ⟨-, q4⟩ | ⟨rfl, -⟩
      · exact absurd q4 g0
      · dsimp only
        exact xP_i (fun _ => xP_r ⟨g0, _, _, t3⟩) (fun c => absurd c (by decide))
    · refine xP_b (cSnd t3) (fun r m4 q4 => ?_)
      obtain ⟨rfl, q4⟩ := q4
      rcases q4 with ⟨rfl, -⟩ | ⟨-, q4⟩
      · dsimp only
        refine xP_i (fun c => absurd c (by decide)) (fun _ => xP_b ho (fun _ m5 q5 => xP_r q5))
      · exact absurd rfl q4
  have cs := tcls_c hu
  have hh : 0 < k → (m'.1 12 0).toInt = s 0 := fun k0 => ((R1 k0).1 0 (by decide)).trans (vdn_o (by decide))
  rcases cs with ⟨rfl, -⟩ | ⟨rfl, -⟩ | ⟨rfl, -⟩ | ⟨rfl, -⟩ | ⟨rfl, -⟩
  · -- village
    obtain rfl : r = 0 := Int32.toInt_inj.mp er
    have k0 : k = 0 := by rcases mm with mm | mm <;> omega
    refine xP_b (cN_0 (s := s) hF t1) (fun _ m3 q3 => fin ?_)
    rcases q3 with ⟨g, g1, g0, g2, -⟩ | ⟨xa, xb, e, g1, g2, g3, ⟨bg', t3⟩, -⟩
    · exact Or.inl ⟨g, g1, g0, g2⟩
    · refine Or.inr ⟨⟨_, _, t3⟩, ?_⟩
      rw [g1]
      unfold D120_4_11
      refine xP_i (fun _ => ?_) (fun c => absurd c (by decide))
      exact xP_b (c71 hF t3 (hz k0) g3.1 g3.2 (by omega)) (fun _ m4 q4 => xP_r q4)
  · -- tool
    obtain rfl : r = 1 := Int32.toInt_inj.mp er
    have k0 : 0 < k := by rcases mm with mm | mm <;> omega
    have s06 := o2 k0
    have zz := (R k0).2
    obtain ⟨t, ht⟩ : ∃ t : Nat, s 2 = (t : Int) := ⟨(s 2).toNat, by omega⟩
    have t6 : t < 6 := by rcases mm with mm | mm <;> omega
    refine xP_b (cN_1 hF t1 (hh k0) (by omega) (by omega)) (fun _ m3 q3 => fin ?_)
    rcases q3 with ⟨g, g1, g0, g2, -⟩ | ⟨xa, xb, xc, e, g1, g2, g3, ⟨bg', t3⟩, g4⟩
    · exact Or.inl ⟨g, g1, g0, g2⟩
    · refine Or.inr ⟨⟨_, _, t3⟩, ?_⟩
      rw [g1, show (s 2).toNat = t by omega]
      unfold D120_4_11
      refine xP_i (fun c => absurd c (by decide)) (fun _ => xP_i (fun _ => ?_) (fun c => absurd c (by decide)))
      exact xP_b (c72 t3 (by rw [g4]; exact R1 k0) zz ht t6 g3.1 g3.2.1 g3.2.2 (by omega)) (fun _ m4 q4 => xP_r q4)
  · -- trust
    obtain rfl : r = 2 := Int32.toInt_inj.mp er
    have k0 : 0 < k := by rcases mm with mm | mm <;> omega
    have s06 := o2 k0
    have zz := (R k0).2
    refine xP_b (cN_2 hF t1 (hh k0) (by omega) (by omega)) (fun _ m3 q3 => fin ?_)
    rcases q3 with ⟨g, g1, g0, g2, -⟩ | ⟨xa, xb, e, g1, g2, g3, ⟨bg', t3⟩, g4⟩
    · exact Or.inl ⟨g, g1, g0, g2⟩
    · refine Or.inr ⟨⟨_, _, t3⟩, ?_⟩
      rw [g1]
      unfold D120_4_11
      refine xP_i (fun c => absurd c (by decide)) (fun _ => xP_i (fun c => absurd c (by decide)) (fun _ => xP_i (fun _ => ?_) (fun c => absurd c (by decide))))
      exact xP_b (c74 t3 (by rw [g4]; exact R1 k0) zz g3.1 g3.2 (by omega) (by omega)) (fun _ m4 q4 => xP_r q4)
  · -- work
    obtain rfl : r = 3 := Int32.toInt_inj.mp er
    have k0 : 0 < k := by rcases mm with mm | mm <;> omega
    have s06 := o2 k0
    have zz := (R k0).2
    obtain ⟨t, ht⟩ : ∃ t : Nat, s 3 = (t : Int) := ⟨(s 3).toNat, by omega⟩
    have t6 : t < 6 := by rcases mm with mm | mm <;> omega
    refine xP_b (cN_3 hF t1 (hh k0) (by omega) (by omega)) (fun _ m3 q3 => fin ?_)
    rcases q3 with ⟨g, g1, g0, g2, -⟩ | ⟨xa, xb, xc, xd, e, g1, g2, g3, ⟨bg', t3⟩, g4⟩
    · exact Or.inl ⟨g, g1, g0, g2⟩
    · refine Or.inr ⟨⟨_, _, t3⟩, ?_⟩
      rw [g1, show (s 3).toNat = t by omega]
      unfold D120_4_11
      refine xP_i (fun c => absurd c (by decide)) (fun _ => xP_i (fun c => absurd c (by decide)) (fun _ => xP_i (fun c => absurd c (by decide)) (fun _ => xP_i (fun _ => ?_) (fun c => absurd c (by decide)))))
      exact xP_b (c73 t3 (by rw [g4]; exact R1 k0) zz ht t6 g3.1 g3.2.1 g3.2.2.1 g3.2.2.2 (by omega)) (fun _ m4 q4 => xP_r q4)
  · -- thanks
    obtain rfl : r = 4 := Int32.toInt_inj.mp er
    have k0 : 0 < k := by rcases mm with mm | mm <;> omega
    have s06 := o2 k0
    have zz := (R k0).2
    refine xP_b (cN_4 hF t1 (hh k0) (by omega) (by omega)) (fun _ m3 q3 => fin ?_)
    rcases q3 with ⟨g, g1, g0, g2, -⟩ | ⟨xa, xb, xc, e, g1, g2, g3, ⟨bg', t3⟩, g4⟩
    · exact Or.inl ⟨g, g1, g0, g2⟩
    · refine Or.inr ⟨⟨_, _, t3⟩, ?_⟩
      rw [g1]
      unfold D120_4_11
      refine xP_i (fun c => absurd c (by decide)) (fun _ => xP_i (fun c => absurd c (by decide)) (fun _ => xP_i (fun c => absurd c (by decide)) (fun _ => xP_i (fun c => absurd c (by decide)) (fun _ => ?_))))
      exact xP_b (c75 t3 (by rw [g4]; exact R1 k0) zz g3.1 g3.2.1 g3.2.2 (by omega) (by omega)) (fun _ m4 q4 => xP_r q4)
def cW (m0 : xS) (o : Int ⊕ (Nat → Int)) (m : xS) : Prop := (xT m ∧ xfr cM m0 m) ∧ (match o with
  | .inl g => g ≠ 0 ∧ (m.1 2 4).toInt = g
  | .inr s => (m.1 2 4).toInt = 0 ∧ vR (vdn s) (m.1 12))
/-- the loop over clauses -/
theorem c116_2 (hF : 500 ≤ F) : ∀ (g f : Nat) {k p bg : Nat} {s : Nat → Int} {v3 : Int32} {m : xS}, g ≤ f → k + g = 41 → vOk s k → (k = 0 → ∀ j, s j = 0) → (0 < k → vR (vdn s) (m.1 12) ∧ vz s) → tC m0 b n p bg 0 m → v3.toInt = (k : Int) → k ≤ 40 → xP (D116_4_2_11_2 F (f + 1) v3 m) (fun _ m' => cW m0 (vrun b n (g + 1) k p s) m') := by
  intro g
  induction g with
  | zero => intro f k p bg s v3 m _ hk _ _ _ _ _ k40; omega
  | succ g ih =>
    intro f k p bg s v3 m hf hk ok hz R h hv k40
    have nx : vrun b n (g + 1 + 1) k p s = (match vcl b n k p s with
      | .inl g => .inl g
      | .inr q => if tsg b n (tsk b n q.1) = 59 then vrun b n (g + 1) (k + 1) (tsk b n q.1 + 1) q.2 else if tsg b n (tsk b n q.1) = -1 then .inr q.2 else .inl (1 + 8 * (tsk b n q.1 : Int))) := rfl
    rw [nx]
    unfold D116_4_2_11_2
    refine xP_i (fun c => ?_) (fun _ => ?_)
    · have c : (40 : Int) < v3.toInt := zt c
      omega
    refine xP_b (c117 hF h ok hz R hv) (fun _ m1 q1 => ?_)
    dsimp only
    cases hc : vcl b n k p s with
    | inl x =>
      rw [hc] at q1
      obtain ⟨x0, p', bg', t1⟩ := q1
      unfold D61_2 D61_2_40
      refine xP_b (R := fun r m' => m' = m1 ∧ r = 0) ?_ (fun r m2 q2 => ?_)
      · refine xP_b (cSnd t1) (fun r m2 q2 => ?_)
        obtain ⟨rfl, q2⟩ := q2
        rcases q2 with ⟨-, q2⟩ | ⟨rfl, -⟩
        · exact absurd q2 x0
        · dsimp only
          exact xP_i (fun c => absurd c (by decide)) (fun _ => xP_r ⟨rfl, rfl⟩)
      · obtain ⟨rfl, rfl⟩ := q2
        dsimp only
        exact xP_i (fun c => absurd c (by decide)) (fun _ => xP_r ⟨t1.2.1, x0, t1.2.2.2.2⟩)
    | inr q =>
      obtain ⟨e, s'⟩ := q
      obtain ⟨ok', en, k41⟩ := vcl_ok ok h.2.2.1.2 hc
      rw [hc] at q1
      obtain ⟨⟨bg', t1⟩, R1, z1⟩ := q1
      dsimp only at t1 R1 z1 ⊢
      obtain ⟨out, wait, cl, kk, dp, br, ex, wh, hk2⟩ := tC_k t1
      refine xP_b (P61 hF t1.1 hk2) (fun r m2 q2 => ?_)
      dsimp only
      rcases q2 with ⟨c1, rfl, q2⟩ | ⟨c1, c2, rfl, q2⟩ | ⟨c1, c2, rfl, q2⟩
      · obtain ⟨t2, f2⟩ := tC_of t1 q2
        rw [if_pos c1]
        refine xP_i (fun _ => ?_) (fun c => absurd c (by decide))
        obtain ⟨f', rfl⟩ : ∃ f', f = f' + 1 := ⟨f - 1, by omega⟩
        exact ih f' (by omega) (by omega) ok' (fun z => absurd z (by omega)) (fun _ => ⟨by rw [kM12 f2]; exact R1, z1⟩) t2 (xinc hv (by omega)) (by omega)
      · obtain ⟨t2, f2⟩ := tC_of t1 q2
        rw [if_neg c1, if_pos c2]
        exact xP_i (fun c => absurd c (by decide)) (fun _ => xP_r ⟨t2.2.1, t2.2.2.2.2, by rw [kM12 f2]; exact R1⟩)
      · obtain ⟨t2, f2⟩ := tC_of t1 q2
        rw [if_neg c1, if_neg c2]
        exact xP_i (fun c => absurd c (by decide)) (fun _ => xP_r ⟨t2.2.1, by omega, t2.2.2.2.2⟩)
/-- readInto -/
theorem c116 (hF : 500 ≤ F) (h : tC m0 b n 0 bg 0 m) : xP (D116_4_2_11 F m) (fun _ m' => cW m0 (vrun b n 42 0 0 (fun _ => 0)) m') := by
  unfold D116_4_2_11
  obtain ⟨f', hf⟩ : ∃ f', F = f' + 1 := ⟨F - 1, by omega⟩
  have z := c116_2 (b := b) (n := n) (F := F) hF 41 f' (v3 := 0) (m := m) (by omega) rfl (s := fun _ => 0) (k := 0) (p := 0) (bg := bg) ⟨fun _ => rfl, fun z => absurd z (by decide), by decide, by decide⟩ (fun _ _ => rfl) (fun z => absurd z (by decide)) h rfl (by decide)
  rw [← hf] at z
  exact z
end VCT
