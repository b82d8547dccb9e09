/-! What a village's text says is a village. -/
def vJ (s : Nat → Int) : Prop := ((2 ≤ s 0 ∧ s 0 ≤ 6) ∧ 1 ≤ s 1 ∧ (0 ≤ s 2 ∧ s 2 ≤ 6) ∧ (0 ≤ s 3 ∧ s 3 ≤ 6) ∧ s 4 = 0) ∧ (∀ t : Nat, (t : Int) < s 2 → (0 ≤ s (10 + 6 * t) ∧ s (10 + 6 * t) < s 0) ∧ s (10 + 6 * t + 3) = s (10 + 6 * t) ∧ s (10 + 6 * t + 4) = 0 ∧ s (10 + 6 * t + 5) = 0) ∧ (∀ w : Nat, (w : Int) < s 3 → (0 ≤ s (124 + 4 * w) ∧ s (124 + 4 * w) < s 0) ∧ (0 ≤ s (124 + 4 * w + 3) ∧ s (124 + 4 * w + 3) ≤ 50)) ∧ (∀ a : Nat, a < 6 → s (46 + 6 * a + a) = 0 ∧ s (82 + 6 * a + a) = 0) ∧ (∀ a d : Nat, a < 6 → d < 6 → 0 ≤ s (82 + 6 * a + d) ∧ s (82 + 6 * a + d) ≤ 99)
section VJN
variable {b : Nat → Int} {n p k : Nat} {lo hi : Int} {s s' : Nat → Int}
theorem vn_i {α : Type} {K : Int → Nat → Int ⊕ α} {q : α} (h : vn b n p lo hi K = .inr q) : ∃ v e, lo ≤ v ∧ v ≤ hi ∧ K v e = .inr q := by
  unfold vn at h
  split at h
  · cases h
  · next r hr =>
    obtain ⟨v, e⟩ := r
    have := vnu_b hr
    exact ⟨v, e, this.1, this.2.1, h⟩
theorem vtwo_i {α : Type} {h : Int} {K : Int → Int → Nat → Int ⊕ α} {q : α} (e : vtwo b n p h K = .inr q) : ∃ a c e, (0 ≤ a ∧ a ≤ h - 1) ∧ (0 ≤ c ∧ c ≤ h - 1) ∧ a ≠ c ∧ K a c e = .inr q := by
  unfold vtwo at e
  obtain ⟨a, e1, a1, a2, e⟩ := vn_i e
  obtain ⟨c, e2, c1, c2, e⟩ := vn_i e
  split at e
  · cases e
  · next ne => exact ⟨a, c, e2, ⟨a1, a2⟩, ⟨c1, c2⟩, ne, e⟩
theorem vJ_0 {q : vSt} (h : vbod b n p (fun _ => 0) 0 = .inr q) : vJ q.2 := by
  unfold vbod at h
  rw [if_pos rfl] at h
  obtain ⟨a, e1, a1, a2, h⟩ := vn_i h
  obtain ⟨c, e2, c1, c2, h⟩ := vn_i h
  cases h
  have o : ∀ j, 2 ≤ j → vup (vup (fun _ => 0) 1 c) 0 a j = 0 := fun j hj => (vup_o (by omega)).trans (vup_o (by omega))
  have e0 : vup (vup (fun _ => 0) 1 c) 0 a 0 = a := vup_s _ _ _
  have e1 : vup (vup (fun _ => 0) 1 c) 0 a 1 = c := (vup_o (by decide)).trans (vup_s _ _ _)
  dsimp only
  refine ⟨?_, fun t ht => ?_, fun w hw => ?_, fun a ha => ?_, fun a d ha hd => ?_⟩
  · rw [e0, e1, o 2 (by omega), o 3 (by omega), o 4 (by omega)]
    omega
  · rw [o 2 (by omega)] at ht
    omega
  · rw [o 3 (by omega)] at hw
    omega
  · rw [o _ (by omega), o _ (by omega)]
    exact ⟨rfl, rfl⟩
  · rw [o _ (by omega)]
    omega
theorem vJ_1 (J : vJ s) (h2 : s 2 < 6) {a c d : Int} (ha : 0 ≤ a ∧ a ≤ s 0 - 1) : vJ (vTool s (s 2).toNat a c d) := by
  obtain ⟨J0, J1, J2, J3, J4⟩ := J
  obtain ⟨t, et⟩ : ∃ t : Nat, t = (s 2).toNat := ⟨_, rfl⟩
  rw [← et]
  have o : ∀ j, ¬ (10 + 6 * t ≤ j ∧ j < 16 + 6 * t) → j ≠ 2 → vTool s t a c d j = s j := fun j z z2 => by
    unfold vTool
    rw [vup_o z2, vup_o (by omega), vup_o (by omega), vup_o (by omega), vup_o (by omega), vup_o (by omega), vup_o (by omega)]
  have e2 : vTool s t a c d 2 = (t : Int) + 1 := vup_s _ _ _
  have q5 : vTool s t a c d (10 + 6 * t + 5) = 0 := (vup_o (by omega)).trans (vup_s _ _ _)
  have q4 : vTool s t a c d (10 + 6 * t + 4) = 0 := (vup_o (by omega)).trans ((vup_o (by omega)).trans (vup_s _ _ _))
  have q3 : vTool s t a c d (10 + 6 * t + 3) = a := (vup_o (by omega)).trans ((vup_o (by omega)).trans ((vup_o (by omega)).trans (vup_s _ _ _)))
  have q0 : vTool s t a c d (10 + 6 * t) = a := by
    unfold vTool
    rw [vup_o (by omega), vup_o (by omega), vup_o (by omega), vup_o (by omega), vup_o (by omega), vup_o (by omega), vup_s]
  refine ⟨?_, fun u hu => ?_, fun w hw => ?_, fun a ha => ?_, fun a d ha hd => ?_⟩
  · rw [e2, o 0 (by omega) (by omega), o 1 (by omega) (by omega), o 3 (by omega) (by omega), o 4 (by omega) (by omega)]
    omega
  · rw [e2] at hu
    rw [o 0 (by omega) (by omega)]
    by_cases z : u = t
    · subst z
      rw [q0, q3, q4, q5]
      exact ⟨by omega, rfl, rfl, rfl⟩
    · rw [o _ (by omega) (by omega), o _ (by omega) (by omega), o _ (by omega) (by omega), o _ (by omega) (by omega)]
      exact J1 u (by omega)
  · rw [o 3 (by omega) (by omega)] at hw
    rw [o (124 + 4 * w) (by omega) (by omega), o (124 + 4 * w + 3) (by omega) (by omega), o 0 (by omega) (by omega)]
    exact J2 w hw
  · rw [o _ (by omega) (by omega), o _ (by omega) (by omega)]
    exact J3 a ha
  · rw [o _ (by omega) (by omega)]
    exact J4 a d ha hd
theorem vJ_2 (J : vJ s) {a c : Nat} (ha : a < 6) (hc : c < 6) (ne : a ≠ c) : vJ (vup s (46 + 6 * a + c) 1) := by
  obtain ⟨J0, J1, J2, J3, J4⟩ := J
  have o : ∀ j, j ≠ 46 + 6 * a + c → vup s (46 + 6 * a + c) 1 j = s j := fun j z => vup_o z
  refine ⟨?_, fun u hu => ?_, fun w hw => ?_, fun a ha => ?_, fun a d ha hd => ?_⟩
  · rw [o 0 (by omega), o 1 (by omega), o 2 (by omega), o 3 (by omega), o 4 (by omega)]
    exact J0
  · rw [o 2 (by omega)] at hu
    rw [o 0 (by omega), o _ (by omega), o _ (by omega), o _ (by omega), o _ (by omega)]
    exact J1 u hu
  · rw [o 3 (by omega)] at hw
    rw [o (124 + 4 * w) (by omega), o (124 + 4 * w + 3) (by omega), o 0 (by omega)]
    exact J2 w hw
  · rw [o _ (by omega), o _ (by omega)]
    exact J3 a ha
  · rw [o _ (by omega)]
    exact J4 a d ha hd
theorem vJ_3 (J : vJ s) (h3 : s 3 < 6) {a c d e : Int} (ha : 0 ≤ a ∧ a ≤ s 0 - 1) (he : 0 ≤ e ∧ e ≤ 50) : vJ (vWork s (s 3).toNat a c d e) := by
  obtain ⟨J0, J1, J2, J3, J4⟩ := J
  obtain ⟨t, et⟩ : ∃ t : Nat, t = (s 3).toNat := ⟨_, rfl⟩
  rw [← et]
  have o : ∀ j, ¬ (124 + 4 * t ≤ j ∧ j < 128 + 4 * t) → j ≠ 3 → vWork s t a c d e j = s j := fun j z z2 => by
    unfold vWork
    rw [vup_o z2, vup_o (by omega), vup_o (by omega), vup_o (by omega), vup_o (by omega)]
  have e3 : vWork s t a c d e 3 = (t : Int) + 1 := vup_s _ _ _
  have q0 : vWork s t a c d e (124 + 4 * t) = a := by
    unfold vWork
    rw [vup_o (by omega), vup_o (by omega), vup_o (by omega), vup_o (by omega), vup_s]
  have q3 : vWork s t a c d e (124 + 4 * t + 3) = e := by
    unfold vWork
    rw [vup_o (by omega), vup_s]
  refine ⟨?_, fun u hu => ?_, fun w hw => ?_, fun a ha => ?_, fun a d ha hd => ?_⟩
  · rw [e3, o 0 (by omega) (by omega), o 1 (by omega) (by omega), o 2 (by omega) (by omega), o 4 (by omega) (by omega)]
    omega
  · rw [o 2 (by omega) (by omega)] at hu
    rw [o 0 (by omega) (by omega), o _ (by omega) (by omega), o _ (by omega) (by omega), o _ (by omega) (by omega), o _ (by omega) (by omega)]
    exact J1 u hu
  · rw [e3] at hw
    rw [o 0 (by omega) (by omega)]
    by_cases z : w = t
    · subst z
      rw [q0, q3]
      omega
    · rw [o _ (by omega) (by omega), o _ (by omega) (by omega)]
      exact J2 w (by omega)
  · rw [o _ (by omega) (by omega), o _ (by omega) (by omega)]
    exact J3 a ha
  · rw [o _ (by omega) (by omega)]
    exact J4 a d ha hd
theorem vJ_4 (J : vJ s) {a c : Nat} {d : Int} (ha : a < 6) (hc : c < 6) (ne : a ≠ c) (hd : 0 ≤ d ∧ d ≤ 9) : vJ (vup s (82 + 6 * a + c) d) := by
  obtain ⟨J0, J1, J2, J3, J4⟩ := J
  have o : ∀ j, j ≠ 82 + 6 * a + c → vup s (82 + 6 * a + c) d j = s j := fun j z => vup_o z
  refine ⟨?_, fun u hu => ?_, fun w hw => ?_, fun a ha => ?_, fun f g hf hg => ?_⟩
  · rw [o 0 (by omega), o 1 (by omega), o 2 (by omega), o 3 (by omega), o 4 (by omega)]
    exact J0
  · rw [o 2 (by omega)] at hu
    rw [o 0 (by omega), o _ (by omega), o _ (by omega), o _ (by omega), o _ (by omega)]
    exact J1 u hu
  · rw [o 3 (by omega)] at hw
    rw [o (124 + 4 * w) (by omega), o (124 + 4 * w + 3) (by omega), o 0 (by omega)]
    exact J2 w hw
  · rw [o _ (by omega), o _ (by omega)]
    exact J3 a ha
  · by_cases z : 82 + 6 * f + g = 82 + 6 * a + c
    · rw [z, vup_s]
      omega
    · rw [o _ z]
      exact J4 f g hf hg
theorem vJ_b (J : vJ s) {u : Nat} (k0 : k ≠ 0) (hm : vmay s k u = true) {q : vSt} (h : vbod b n p s u = .inr q) : vJ q.2 := by
  have l0 := J.1.1
  rcases vmay_iff.mp hm with z | ⟨-, u0, -, u1, u3⟩
  · exact absurd z.1 k0
  unfold vbod at h
  rw [if_neg u0] at h
  by_cases z1 : u = 1
  · rw [if_pos z1] at h
    obtain ⟨a, e1, a1, a2, h⟩ := vn_i h
    obtain ⟨c, e2, c1, c2, h⟩ := vn_i h
    obtain ⟨d, e3, d1, d2, h⟩ := vn_i h
    cases h
    exact vJ_1 J (u1 z1) ⟨a1, a2⟩
  rw [if_neg z1] at h
  by_cases z2 : u = 2
  · rw [if_pos z2] at h
    obtain ⟨a, c, e, ha, hc, ne, h⟩ := vtwo_i h
    cases h
    exact vJ_2 J (by omega) (by omega) (by omega)
  rw [if_neg z2] at h
  by_cases z3 : u = 3
  · rw [if_pos z3] at h
    obtain ⟨a, e1, a1, a2, h⟩ := vn_i h
    obtain ⟨c, e2, c1, c2, h⟩ := vn_i h
    obtain ⟨d, e3, d1, d2, h⟩ := vn_i h
    obtain ⟨f, e4, f1, f2, h⟩ := vn_i h
    cases h
    exact vJ_3 J (u3 z3) ⟨a1, a2⟩ (by omega)
  rw [if_neg z3] at h
  obtain ⟨a, c, e, ha, hc, ne, h⟩ := vtwo_i h
  obtain ⟨d, e1, d1, d2, h⟩ := vn_i h
  cases h
  exact vJ_4 J (by omega) (by omega) (by omega) ⟨d1, d2⟩
theorem vJ_c (J : (k = 0 ∧ s = fun _ => 0) ∨ (k ≠ 0 ∧ vJ s)) {q : vSt} (h : vcl b n k p s = .inr q) : vJ q.2 := by
  unfold vcl at h
  split at h
  · cases h
  · next u hu =>
    split at h
    · next hm =>
      rcases J with ⟨k0, rfl⟩ | ⟨k0, J⟩
      · rcases vmay_iff.mp hm with z | z
        · obtain ⟨-, rfl⟩ := z
          exact vJ_0 h
        · exact absurd k0 z.1
      · exact vJ_b J k0 hm h
    · cases h
theorem vJ_r : ∀ (f : Nat) {k p : Nat} {s s' : Nat → Int}, ((k = 0 ∧ s = fun _ => 0) ∨ (k ≠ 0 ∧ vJ s)) → vrun b n f k p s = .inr s' → vJ s'
  | 0, _, _, _, _, _, h => by cases h
  | f + 1, k, p, s, s', J, h => by
    unfold vrun at h
    split at h
    · cases h
    · next q hq =>
      have J2 := vJ_c J hq
      split at h
      · exact vJ_r f (Or.inr ⟨by omega, J2⟩) h
      · split at h
        · cases h
          exact J2
        · cases h
theorem I_vj {s' : Nat → Int32} (J : vJ s) (h : ∀ j, j < 148 → (s' j).toInt = if 118 ≤ j ∧ j < 124 then -1 else s j) : vI s' := by
  have o : ∀ j, j < 148 → ¬ (118 ≤ j ∧ j < 124) → (s' j).toInt = s j := fun j h1 h2 => (h j h1).trans (if_neg h2)
  obtain ⟨J0, J1, J2, J3, J4⟩ := J
  have o0 := o 0 (by omega) (by omega)
  have o1 := o 1 (by omega) (by omega)
  have o2 := o 2 (by omega) (by omega)
  have o3 := o 3 (by omega) (by omega)
  have o4 := o 4 (by omega) (by omega)
  have z0 : ∀ j, (s' j).toInt = 0 → s' j = 0 := fun j hj => Int32.toInt_inj.mp hj
  refine ⟨?_, fun t ht => ?_, fun u hu => ?_, fun a ha => ?_, fun f g hf hg => ?_⟩
  · unfold vIa
    rw [o0, o1, o2, o3, o4]
    omega
  · rw [o2] at ht
    obtain ⟨j1, j2, j3, j4⟩ := J1 t ht
    have t0 := o (10 + 6 * t) (by omega) (by omega)
    have t3 := o (10 + 6 * t + 3) (by omega) (by omega)
    have t4 := o (10 + 6 * t + 4) (by omega) (by omega)
    have t5 := o (10 + 6 * t + 5) (by omega) (by omega)
    rw [o0, o4, t0, t3, t5]
    exact ⟨j1, by omega, fun _ => ⟨z0 _ (by omega), z0 _ (by omega)⟩, by omega⟩
  · rw [o3] at hu
    have w0 := o (124 + 4 * u) (by omega) (by omega)
    have w3 := o (124 + 4 * u + 3) (by omega) (by omega)
    have w8 := h (118 + u) (by omega)
    rw [if_pos (by omega)] at w8
    rw [o0, w0, w8, w3]
    exact ⟨(J2 u hu).1, by omega, (J2 u hu).2⟩
  · exact ⟨z0 _ (by rw [o _ (by omega) (by omega)]; exact (J3 a ha).1), z0 _ (by rw [o _ (by omega) (by omega)]; exact (J3 a ha).2)⟩
  · rw [o _ (by omega) (by omega)]
    exact J4 f g hf hg
end VJN
