/-! keepsAct of the reference, over the memory. -/
section XKEP
variable {F : Nat} {m : xS}
abbrev xMA : yM := [(70, 70, 25), (81, 81, 1000)]
/-- with a tool there is a house -/
def xh (m : xS) (c j : Nat) : Prop := 0 < (m.1 c (j + 2)).toInt → 0 < (m.1 c j).toInt
theorem yu80 : yty 80 = (1, 0, 148, 2, []) := rfl
theorem xb81 {j : Nat} (hj : j < 2480) : xbn 81 j = some (yel 9 j) := by
  unfold xbn
  rw [if_pos (by decide), yu81]
  exact if_pos ⟨by decide, hj⟩
theorem xb80 {j : Nat} (hj : j < 148) : xbn 80 j = some (yel 2 j) := by
  unfold xbn
  rw [if_pos (by decide), yu80]
  exact if_pos ⟨by decide, hj⟩
def y9 (k : Nat) : Int × Int := if k = 0 ∨ k = 2 ∨ k = 3 then (0, 6) else if 10 ≤ k ∧ k < 46 ∧ ((k - 10) % 6 = 0 ∨ (k - 10) % 6 = 3) then (0, 5) else (-2147483648, 2147483647)
theorem yel9 (j : Nat) : yel 9 j = y9 (j % 124) := rfl
theorem yel2 {j : Nat} (hj : j < 124) : yel 2 j = y9 j := by
  have n : ¬ (124 ≤ j ∧ j < 148 ∧ (j - 124) % 4 = 0) := by omega
  show (if j = 0 ∨ j = 2 ∨ j = 3 then ((0, 6) : Int × Int) else if 10 ≤ j ∧ j < 46 ∧ ((j - 10) % 6 = 0 ∨ (j - 10) % 6 = 3) then (0, 5) else if 124 ≤ j ∧ j < 148 ∧ (j - 124) % 4 = 0 then (0, 5) else (-2147483648, 2147483647)) = _
  rw [if_neg n]
  rfl
theorem yel92 {u j : Nat} (hj : j < 124) : yel 9 (124 * u + j) = yel 2 j := by
  rw [yel9, yel2 hj, show (124 * u + j) % 124 = j by omega]
theorem P220_52 {u : Nat} (hu : u < 20) : ∀ (f : Nat) {v1 : Int32} {m : xS} {k : Nat}, xT m → v1.toInt = (k : Int) → k ≤ 124 → 124 < f + k → (m.1 70 25).toInt = (u : Int) → (∀ j, j < k → m.1 81 (124 * u + j) = m.1 80 j) → xP (D220_52 F f v1 m) (fun _ m' => xT m' ∧ xfr xMA m m' ∧ (∀ j, j < 124 → m'.1 81 (124 * u + j) = m.1 80 j) ∧ ∀ j, (j < 124 * u ∨ 124 * u + 124 ≤ j) → m'.1 81 j = m.1 81 j)
  | 0, v1, m, k, h, hk, h1, h2, h3, h4 => by omega
  | f + 1, v1, m, k, h, hk, h1, h2, h3, h4 => by
    unfold D220_52
    refine xP_i (fun c => ?_) (fun c => ?_)
    · have c : (124 : Int) ≤ v1.toInt := zt c
      have e1 : (m.1 70 25 + 1).toInt = (m.1 70 25).toInt + 1 := xa1 (by show _ ≤ _ + (1 : Int); omega) (by show _ + (1 : Int) ≤ _; omega)
      exact xP_r ⟨xT_c h (i := 70) (j := 25) (lo := 0) (hi := 20) rfl (by omega) (by omega), xfr_u (by decide), fun j hj => (xu_o (by omega)).trans (h4 j (by omega)), fun j _ => xu_o (by omega)⟩
    · have c : ¬ (124 : Int) ≤ v1.toInt := zf c
      have a1 : ((124 : Int32) * m.1 70 25).toInt = 124 * (m.1 70 25).toInt := xm1 (by show _ ≤ (124 : Int) * _; omega) (by show (124 : Int) * _ ≤ _; omega)
      have a2 : ((124 : Int32) * m.1 70 25 + v1).toInt = 124 * (u : Int) + (k : Int) := by
        rw [xa1 (by rw [a1]; omega) (by rw [a1]; omega), a1]
        omega
      have a3 : ((124 : Int32) * m.1 70 25 + v1).toNatClampNeg = 124 * u + k := by
        show Int.toNat _ = _
        rw [a2]
        omega
      have a4 : v1.toNatClampNeg = k := by
        show Int.toNat _ = _
        rw [hk]
        omega
      refine xP_g (xib_t (by omega) (by omega)) (xP_g (xib_t (by omega) (by omega)) ?_)
      rw [a3, a4]
      have e1 : (v1 + Int32.ofInt 1).toInt = v1.toInt + 1 := xa1 (by show _ ≤ _ + (1 : Int); omega) (by show _ + (1 : Int) ≤ _; omega)
      have b := h 80 k _ (xb80 (by omega))
      have hT : xT (xu m 81 (124 * u + k) (m.1 80 k)) := xT_u h (fun p hp => by
        rw [xb81 (by omega), yel92 (by omega)] at hp
        cases hp
        exact b)
      refine xP_m (P220_52 hu f hT (k := k + 1) (by omega) (by omega) (by omega) ((congrArg Int32.toInt (xu_o (by omega))).trans h3) (fun j hj => ?_)) (fun v m' q => ?_)
      · by_cases e : j = k
        · subst e
          rw [xu_s]
          exact (xu_o (by omega)).symm
        · rw [xu_o (by omega), xu_o (by omega)]
          exact h4 j (by omega)
      · obtain ⟨q1, q2, q3, q4⟩ := q
        exact ⟨q1, xfr_t (xfr_u rfl) q2, fun j hj => (q3 j hj).trans (xu_o (by omega)), fun j hj => (q4 j hj).trans (xu_o (by omega))⟩
theorem P220_12 (hF : 200 ≤ F) {g : Nat → Int32} : ∀ (f : Nat) {v1 : Int32} {m : xS} {k : Nat}, xT m → v1.toInt = (k : Int) → 124 ≤ k → k ≤ 2480 → 2480 < f + k → (m.1 70 25).toInt = 20 → (∀ j, j + 124 < k → m.1 81 j = g (j + 124)) → (∀ j, k ≤ j + 124 → j < 2480 → m.1 81 j = g j) → xP (D220_12 F f v1 m) (fun _ m' => xT m' ∧ xfr xMA m m' ∧ (∀ j, j < 124 → m'.1 81 (124 * 19 + j) = m.1 80 j) ∧ ∀ j, j < 2356 → m'.1 81 j = g (j + 124))
  | 0, v1, m, k, h, hk, h0, h1, h2, h3, h4, h5 => by omega
  | f + 1, v1, m, k, h, hk, h0, h1, h2, h3, h4, h5 => by
    unfold D220_12
    refine xP_i (fun c => ?_) (fun c => ?_)
    · have c : (2480 : Int) ≤ v1.toInt := zt c
      have e1 : (m.1 70 25 - 1).toInt = (m.1 70 25).toInt - 1 := xs1 (by show _ ≤ _ - (1 : Int); omega) (by show _ - (1 : Int) ≤ _; omega)
      unfold D220_50
      have hT : xT (xu m 70 25 (m.1 70 25 - 1)) := xT_c h (i := 70) (j := 25) (lo := 0) (hi := 20) rfl (by omega) (by omega)
      refine xP_m (P220_52 (F := F) (u := 19) (by decide) F (v1 := 0) (k := 0) hT rfl (by omega) (by omega) (by rw [xu_s, e1]; omega) (fun j hj => absurd hj (Nat.not_lt_zero _))) (fun v m' q => ?_)
      obtain ⟨q1, q2, q3, q4⟩ := q
      exact ⟨q1, xfr_t (xfr_u (by decide)) q2, fun j hj => (q3 j hj).trans (xu_o (by omega)), fun j hj => ((q4 j (by omega)).trans (xu_o (by omega))).trans (h4 j (by omega))⟩
    · have c : ¬ (2480 : Int) ≤ v1.toInt := zf c
      have a1 : (v1 - 124).toInt = v1.toInt - 124 := xs1 (by show _ ≤ _ - (124 : Int); omega) (by show _ - (124 : Int) ≤ _; omega)
      have a3 : (v1 - 124).toNatClampNeg = k - 124 := by
        show Int.toNat _ = _
        rw [a1]
        omega
      have a4 : v1.toNatClampNeg = k := by
        show Int.toNat _ = _
        rw [hk]
        omega
      refine xP_g (xib_t (by omega) (by omega)) (xP_g (xib_t (by omega) (by omega)) ?_)
      rw [a3, a4]
      have e1 : (v1 + Int32.ofInt 1).toInt = v1.toInt + 1 := xa1 (by show _ ≤ _ + (1 : Int); omega) (by show _ + (1 : Int) ≤ _; omega)
      have b := h 81 k _ (xb81 (by omega))
      have hT : xT (xu m 81 (k - 124) (m.1 81 k)) := xT_u h (fun p hp => by
        rw [xb81 (by omega), yel9, show (k - 124) % 124 = k % 124 by omega, ← yel9] at hp
        cases hp
        exact b)
      refine xP_m (P220_12 hF (g := g) f hT (k := k + 1) (by omega) (by omega) (by omega) (by omega) ((congrArg Int32.toInt (xu_o (by omega))).trans h3) (fun j hj => ?_) (fun j hj hj2 => ?_)) (fun v m' q => ?_)
      · by_cases e : j = k - 124
        · have e3 : j + 124 = k := by omega
          rw [← e, xu_s, e3]
          exact h5 k (by omega) (by omega)
        · rw [xu_o (by omega)]
          exact h4 j (by omega)
      · rw [xu_o (by omega)]
        exact h5 j (by omega) hj2
      · obtain ⟨q1, q2, q3, q4⟩ := q
        exact ⟨q1, xfr_t (xfr_u rfl) q2, fun j hj => (q3 j hj).trans (xu_o (by omega)), q4⟩
theorem P220 (hF : 3000 ≤ F) (h : xT m) (h0 : xh m 80 0) (h1 : ∀ k, k < 20 → xh m 81 (124 * k)) : xP (D220 F m) (fun _ m' => xT m' ∧ xfr xMA m m' ∧ ∀ k, k < 20 → xh m' 81 (124 * k)) := by
  have b := h 70 25 (0, 20) rfl
  have b1 : (0 : Int) ≤ (m.1 70 25).toInt := b.1
  have b2 : (m.1 70 25).toInt ≤ 20 := b.2
  unfold D220
  refine xP_i (fun c => ?_) (fun c => ?_)
  · have c : (m.1 70 25).toInt ≠ 20 := zt c
    obtain ⟨u, hu⟩ : ∃ u : Nat, (m.1 70 25).toInt = (u : Int) := ⟨(m.1 70 25).toInt.toNat, by omega⟩
    unfold D220_50
    refine xP_m (P220_52 (F := F) (u := u) (by omega) F (v1 := 0) (k := 0) h rfl (by omega) (by omega) hu (fun j hj => absurd hj (Nat.not_lt_zero _))) (fun v m' q => ?_)
    obtain ⟨q1, q2, q3, q4⟩ := q
    refine ⟨q1, q2, fun k hk => ?_⟩
    unfold xh
    by_cases e : k = u
    · subst e
      have r0 := q3 0 (by omega)
      have r2 := q3 2 (by omega)
      rw [Nat.add_zero] at r0
      rw [r0, r2]
      exact h0
    · rw [q4 (124 * k + 2) (by omega), q4 (124 * k) (by omega)]
      exact h1 k hk
  · have c : m.1 70 25 = 20 := zne c
    have c2 : (m.1 70 25).toInt = 20 := by rw [c]; rfl
    refine xP_m (P220_12 (F := F) (by omega) (g := m.1 81) F (v1 := 124) (k := 124) h rfl (by omega) (by omega) (by omega) c2 (fun j hj => absurd hj (by omega)) (fun j _ _ => rfl)) (fun v m' q => ?_)
    obtain ⟨q1, q2, q3, q4⟩ := q
    refine ⟨q1, q2, fun k hk => ?_⟩
    unfold xh
    by_cases e : k = 19
    · subst e
      have r0 := q3 0 (by omega)
      have r2 := q3 2 (by omega)
      rw [Nat.add_zero] at r0
      rw [r0, r2]
      exact h0
    · rw [q4 (124 * k + 2) (by omega), q4 (124 * k) (by omega), show 124 * k + 2 + 124 = 124 * (k + 1) + 2 by omega, show 124 * k + 124 = 124 * (k + 1) by omega]
      exact h1 (k + 1) (by omega)
theorem xh_of {hp : zHp} (H : yH0 hp) {c k n j : Nat} (ht : xta c k n = true) : yP hp c j ↔ xh (xof hp) c j := by
  obtain ⟨-, -, -, f, e⟩ := xta_ok H ht
  have r : ∀ i : Nat, yrd hp c (i : Int) = some (.int (f i)) := fun i => by
    unfold yrd
    rw [e]
    dsimp only
    rw [if_neg (by omega), Int.toNat_natCast]
  have o : ∀ i, (xof hp).1 c i = f i := fun i => by
    rw [xof_rd, r i]
    rfl
  constructor
  · intro h q
    rw [o] at q ⊢
    exact h _ _ (r j) (r (j + 2)) q
  · intro h x y e1 e2 q
    rw [r] at e1 e2
    cases e1
    cases e2
    unfold xh at h
    rw [o, o] at h
    exact h q
theorem yvoid {hp : zHp} {r : Nat → Int} {n : Nat} : yG hp r (n, [], [], [], [], []) [] [] := ⟨(fun e he => by cases he), (fun y hy => by cases hy), (fun t ht => by cases ht), (fun i a ha => by cases ha), trivial⟩
theorem yact_s : yTs (yEA yAr) 1 ys0 := by
  intro d hd hp r as H gg hl hlen
  have has := yas1 (c := 70) gg hlen
  subst has
  have m81 : ∀ k, k < 20 → xh (xof hp) 81 (124 * k) := fun k hk => (xh_of H.1 (k := 0) (n := 2480) (by decide)).mp (H.2.1.2.2.1 k hk)
  obtain ⟨x, hx, hT, f, hc⟩ := P220 (F := 3000) (Nat.le_refl _) (xT_of H.1) ((xh_of H.1 (k := 0) (n := 148) (by decide)).mp H.2.1.1) m81
  have z := Z220 H.1 hx (d := d) hd
  rw [xW_of] at z
  have HH : yH0 (xW hp x.2) := xH H.1 hT (fun i j _ => by rw [f.1])
  have fy : yF ys0.2.2.2.2 hp (xW hp x.2) := xF f.2 (fun i j _ => by rw [f.1])
  refine ⟨_, z, ⟨HH, ⟨yP_F fy rfl rfl H.2.1.1, yP_F fy rfl rfl H.2.1.2.1, fun k hk => ?_, fun k hk => yP_F fy rfl rfl (H.2.1.2.2.2 k hk)⟩, yA_F yAr_F (M := ys0.2.2.2.2) rfl (ydj_ok (by decide)) fy H.2.2⟩, fy, _, List.mem_cons_self, r, (fun s hs => rfl), Nat.le_refl _, yvoid⟩
  refine (xh_of HH (k := 0) (n := 2480) (by decide)).mpr ?_
  have e : (xof (xW hp x.2)).1 81 = x.2.1 81 := xof_t H.1 (k := 0) (n := 2480) (by decide)
  unfold xh
  rw [e]
  exact hc k hk
end XKEP
