section
/-! keepsAct of the reference, over the memory. -/
section XKEP
variable {F : Nat} {m : xS}
abbrev xMA : yM := [(70, 70, 25), (81, 81, 1000)]
/-- with a tool there is a house -/
def xh (m : xS) (c j : Nat) : Prop := 0 < (m.1 c (j + 2)).toInt → 0 < (m.1 c j).toInt
theorem yu80 : yty 80 = (1, 0, 148, 2, []) := rfl
theorem xb81 {j : Nat} (hj : j < 2480) : xbn 81 j = some (yel 9 j) := by
  unfold xbn
  rw [if_pos (by decide), yu81]
  exact if_pos ⟨by decide, hj⟩
theorem xb80 {j : Nat} (hj : j < 148) : xbn 80 j = some (yel 2 j) := by
  unfold xbn
  rw [if_pos (by decide), yu80]
  exact if_pos ⟨by decide, hj⟩
def y9 (k : Nat) : Int × Int := if k = 0 ∨ k = 2 ∨ k = 3 then (0, 6) else if 10 ≤ k ∧ k < 46 ∧ ((k - 10) % 6 = 0 ∨ (k - 10) % 6 = 3) then (0, 5) else (-2147483648, 2147483647)
theorem yel9 (j : Nat) : yel 9 j = y9 (j % 124) := rfl
theorem yel2 {j : Nat} (hj : j < 124) : yel 2 j = y9 j := by
  have n : ¬ (124 ≤ j ∧ j < 148 ∧ (j - 124) % 4 = 0) := by omega
  show (if j = 0 ∨ j = 2 ∨ j = 3 then ((0, 6) : Int × Int) else if 10 ≤ j ∧ j < 46 ∧ ((j - 10) % 6 = 0 ∨ (j - 10) % 6 = 3) then (0, 5) else if 124 ≤ j ∧ j < 148 ∧ (j - 124) % 4 = 0 then (0, 5) else (-2147483648, 2147483647)) = _
  rw [if_neg n]
  rfl
theorem yel92 {u j : Nat} (hj : j < 124) : yel 9 (124 * u + j) = yel 2 j := by
  rw [yel9, yel2 hj, show (124 * u + j) % 124 = j by omega]
theorem P220_52 {u : Nat} (hu : u < 20) : ∀ (f : Nat) {v1 : Int32} {m : xS} {k : Nat}, xT m → v1.toInt = (k : Int) → k ≤ 124 → 124 < f + k → (m.1 70 25).toInt = (u : Int) → (∀ j, j < k → m.1 81 (124 * u + j) = m.1 80 j) → xP (D220_52 F f v1 m) (fun _ m' => xT m' ∧ xfr xMA m m' ∧ (∀ j, j < 124 → m'.1 81 (124 * u + j) = m.1 80 j) ∧ ∀ j, (j < 124 * u ∨ 124 * u + 124 ≤ j) → m'.1 81 j = m.1 81 j)
  | 0, v1, m, k, h, hk, h1, h2, h3, h4 => by omega
  | f + 1, v1, m, k, h, hk, h1, h2, h3, h4 => by
    unfold D220_52
    refine xP_i (fun c => ?_) (fun c => ?_)
    · have c : (124 : Int) ≤ v1.toInt := zt c
      have e1 : (m.1 70 25 + 1).toInt = (m.1 70 25).toInt + 1 := xa1 (by show _ ≤ _ + (1 : Int); omega) (by show _ + (1 : Int) ≤ _; omega)
      exact xP_r ⟨xT_c h (i := 70) (j := 25) (lo := 0) (hi := 20) rfl (by omega) (by omega), xfr_u (by decide), fun j hj => (xu_o (by omega)).trans (h4 j (by omega)), fun j _ => xu_o (by omega)⟩
    · have c : ¬ (124 : Int) ≤ v1.toInt := zf c
      have a1 : ((124 : Int32) * m.1 70 25).toInt = 124 * (m.1 70 25).toInt := xm1 (by show _ ≤ (124 : Int) * _; omega) (by show (124 : Int) * _ ≤ _; omega)
      have a2 : ((124 : Int32) * m.1 70 25 + v1).toInt = 124 * (u : Int) + (k : Int) := by
        rw [xa1 (by rw [a1]; omega) (by rw [a1]; omega), a1]
        omega
      have a3 : ((124 : Int32) * m.1 70 25 + v1).toNatClampNeg = 124 * u + k := by
        show Int.toNat _ = _
        rw [a2]
        omega
      have a4 : v1.toNatClampNeg = k := by
        show Int.toNat _ = _
        rw [hk]
        omega
      refine xP_g (xib_t (by omega) (by omega)) (xP_g (xib_t (by omega) (by omega)) ?_)
      rw [a3, a4]
      have e1 : (v1 + Int32.ofInt 1).toInt = v1.toInt + 1 := xa1 (by show _ ≤ _ + (1 : Int); omega) (by show _ + (1 : Int) ≤ _; omega)
      have b := h 80 k _ (xb80 (by omega))
      have hT : xT (xu m 81 (124 * u + k) (m.1 80 k)) := xT_u h (fun p hp => by
        rw [xb81 (by omega), yel92 (by omega)] at hp
        cases hp
        exact b)
      refine xP_m (P220_52 hu f hT (k := k + 1) (by omega) (by omega) (by omega) ((congrArg Int32.toInt (xu_o (by omega))).trans h3) (fun j hj => ?_)) (fun v m' q => ?_)
      · by_cases e : j = k
        · subst e
          rw [xu_s]
          exact (xu_o (by omega)).symm
        · rw [xu_o (by omega), xu_o (by omega)]
          exact h4 j (by omega)
      · obtain ⟨q1, q2, q3, q4⟩ := q
        exact ⟨q1, xfr_t (xfr_u rfl) q2, fun j hj => (q3 j hj).trans (xu_o (by omega)), fun j hj => (q4 j hj).trans (xu_o (by omega))⟩
theorem P220_12 (hF : 200 ≤ F) {g : Nat → Int32} : ∀ (f : Nat) {v1 : Int32} {m : xS} {k : Nat}, xT m → v1.toInt = (k : Int) → 124 ≤ k → k ≤ 2480 → 2480 < f + k → (m.1 70 25).toInt = 20 → (∀ j, j + 124 < k → m.1 81 j = g (j + 124)) → (∀ j, k ≤ j + 124 → j < 2480 → m.1 81 j = g j) → xP (D220_12 F f v1 m) (fun _ m' => xT m' ∧ xfr xMA m m' ∧ (∀ j, j < 124 → m'.1 81 (124 * 19 + j) = m.1 80 j) ∧ ∀ j, j < 2356 → m'.1 81 j = g (j + 124))
  | 0, v1, m, k, h, hk, h0, h1, h2, h3, h4, h5 => by omega
  | f + 1, v1, m, k, h, hk, h0, h1, h2, h3, h4, h5 => by
    unfold D220_12
    refine xP_i (fun c => ?_) (fun c => ?_)
    · have c : (2480 : Int) ≤ v1.toInt := zt c
      have e1 : (m.1 70 25 - 1).toInt = (m.1 70 25).toInt - 1 := xs1 (by show _ ≤ _ - (1 : Int); omega) (by show _ - (1 : Int) ≤ _; omega)
      unfold D220_50
      have hT : xT (xu m 70 25 (m.1 70 25 - 1)) := xT_c h (i := 70) (j := 25) (lo := 0) (hi := 20) rfl (by omega) (by omega)
      refine xP_m (P220_52 (F := F) (u := 19) (by decide) F (v1 := 0) (k := 0) hT rfl (by omega) (by omega) (by rw [xu_s, e1]; omega) (fun j hj => absurd hj (Nat.not_lt_zero _))) (fun v m' q => ?_)
      obtain ⟨q1, q2, q3, q4⟩ := q
      exact ⟨q1, xfr_t (xfr_u (by decide)) q2, fun j hj => (q3 j hj).trans (xu_o (by omega)), fun j hj => ((q4 j (by omega)).trans (xu_o (by omega))).trans (h4 j (by omega))⟩
    · have c : ¬ (2480 : Int) ≤ v1.toInt := zf c
      have a1 : (v1 - 124).toInt = v1.toInt - 124 := xs1 (by show _ ≤ _ - (124 : Int); omega) (by show _ - (124 : Int) ≤ _; omega)
      have a3 : (v1 - 124).toNatClampNeg = k - 124 := by
        show Int.toNat _ = _
        rw [a1]
        omega
      have a4 : v1.toNatClampNeg = k := by
        show Int.toNat _ = _
        rw [hk]
        omega
      refine xP_g (xib_t (by omega) (by omega)) (xP_g (xib_t (by omega) (by omega)) ?_)
      rw [a3, a4]
      have e1 : (v1 + Int32.ofInt 1).toInt = v1.toInt + 1 := xa1 (by show _ ≤ _ + (1 : Int); omega) (by show _ + (1 : Int) ≤ _; omega)
      have b := h 81 k _ (xb81 (by omega))
      have hT : xT (xu m 81 (k - 124) (m.1 81 k)) := xT_u h (fun p hp => by
        rw [xb81 (by omega), yel9, show (k - 124) % 124 = k % 124 by omega, ← yel9] at hp
        cases hp
        exact b)
      refine xP_m (P220_12 hF (g := g) f hT (k := k + 1) (by omega) (by omega) (by omega) (by omega) ((congrArg Int32.toInt (xu_o (by omega))).trans h3) (fun j hj => ?_) (fun j hj hj2 => ?_)) (fun v m' q => ?_)
      · by_cases e : j = k - 124
        · have e3 : j + 124 = k := by omega
          rw [← e, xu_s, e3]
          exact h5 k (by omega) (by omega)
        · rw [xu_o (by omega)]
          exact h4 j (by omega)
      · rw [xu_o (by omega)]
        exact h5 j (by omega) hj2
      · obtain ⟨q1, q2, q3, q4⟩ := q
        exact ⟨q1, xfr_t (xfr_u rfl) q2, fun j hj => (q3 j hj).trans (xu_o (by omega)), q4⟩
theorem P220 (hF : 3000 ≤ F) (h : xT m) (h0 : xh m 80 0) (h1 : ∀ k, k < 20 → xh m 81 (124 * k)) : xP (D220 F m) (fun _ m' => xT m' ∧ xfr xMA m m' ∧ ∀ k, k < 20 → xh m' 81 (124 * k)) := by
  have b := h 70 25 (0, 20) rfl
  have b1 : (0 : Int) ≤ (m.1 70 25).toInt := b.1
  have b2 : (m.1 70 25).toInt ≤ 20 := b.2
  unfold D220
  refine xP_i (fun c => ?_) (fun c => ?_)
  · have c : (m.1 70 25).toInt ≠ 20 := zt c
    obtain ⟨u, hu⟩ : ∃ u : Nat, (m.1 70 25).toInt = (u : Int) := ⟨(m.1 70 25).toInt.toNat, by omega⟩
    unfold D220_50
    refine xP_m (P220_52 (F := F) (u := u) (by omega) F (v1 := 0) (k := 0) h rfl (by omega) (by omega) hu (fun j hj => absurd hj (Nat.not_lt_zero _))) (fun v m' q => ?_)
    obtain ⟨q1, q2, q3, q4⟩ := q
    refine ⟨q1, q2, fun k hk => ?_⟩
    unfold xh
    by_cases e : k = u
    · subst e
      have r0 := q3 0 (by omega)
      have r2 := q3 2 (by omega)
      rw [Nat.add_zero] at r0
      rw [r0, r2]
      exact h0
    · rw [q4 (124 * k + 2) (by omega), q4 (124 * k) (by omega)]
      exact h1 k hk
  · have c : m.1 70 25 = 20 := zne c
    have c2 : (m.1 70 25).toInt = 20 := by rw [c]; rfl
    refine xP_m (P220_12 (F := F) (by omega) (g := m.1 81) F (v1 := 124) (k := 124) h rfl (by omega) (by omega) (by omega) c2 (fun j hj => absurd hj (by omega)) (fun j _ _ => rfl)) (fun v m' q => ?_)
    obtain ⟨q1, q2, q3, q4⟩ := q
    refine ⟨q1, q2, fun k hk => ?_⟩
    unfold xh
    by_cases e : k = 19
    · subst e
      have r0 := q3 0 (by omega)
      have r2 := q3 2 (by omega)
      rw [Nat.add_zero] at r0
      rw [r0, r2]
      exact h0
    · rw [q4 (124 * k + 2) (by omega), q4 (124 * k) (by omega), show 124 * k + 2 + 124 = 124 * (k + 1) + 2 by omega, show 124 * k + 124 = 124 * (k + 1) by omega]
      exact h1 (k + 1) (by omega)
theorem xh_of {hp : zHp} (H : yH0 hp) {c k n j : Nat} (ht : xta c k n = true) : yP hp c j ↔ xh (xof hp) c j := by
  obtain ⟨-, -, -, f, e⟩ := xta_ok H ht
  have r : ∀ i : Nat, yrd hp c (i : Int) = some (.int (f i)) := fun i => by
    unfold yrd
    rw [e]
    dsimp only
    rw [if_neg (by omega), Int.toNat_natCast]
  have o : ∀ i, (xof hp).1 c i = f i := fun i => by
    rw [xof_rd, r i]
    rfl
  constructor
  · intro h q
    rw [o] at q ⊢
    exact h _ _ (r j) (r (j + 2)) q
  · intro h x y e1 e2 q
    rw [r] at e1 e2
    cases e1
    cases e2
    unfold xh at h
    rw [o, o] at h
    exact h q
theorem yvoid {hp : zHp} {r : Nat → Int} {n : Nat} : yG hp r (n, [], [], [], [], []) [] [] := ⟨(fun e he => by cases he), (fun y hy => by cases hy), (fun t ht => by cases ht), (fun i a ha => by cases ha), trivial⟩
theorem yact_s : yTs (yEA yAr) 1 ys0 := by
  intro d hd hp r as H gg hl hlen
  have has := yas1 (c := 70) gg hlen
  subst has
  have m81 : ∀ k, k < 20 → xh (xof hp) 81 (124 * k) := fun k hk => (xh_of H.1 (k := 0) (n := 2480) (by decide)).mp (H.2.1.2.2.1 k hk)
  obtain ⟨x, hx, hT, f, hc⟩ := P220 (F := 3000) (Nat.le_refl _) (xT_of H.1) ((xh_of H.1 (k := 0) (n := 148) (by decide)).mp H.2.1.1) m81
  have z := Z220 H.1 hx (d := d) hd
  rw [xW_of] at z
  have HH : yH0 (xW hp x.2) := xH H.1 hT (fun i j _ => by rw [f.1])
  have fy : yF ys0.2.2.2.2 hp (xW hp x.2) := xF f.2 (fun i j _ => by rw [f.1])
  refine ⟨_, z, ⟨HH, ⟨yP_F fy rfl rfl H.2.1.1, yP_F fy rfl rfl H.2.1.2.1, fun k hk => ?_, fun k hk => yP_F fy rfl rfl (H.2.1.2.2.2 k hk)⟩, yA_F yAr_F (M := ys0.2.2.2.2) rfl (ydj_ok (by decide)) fy H.2.2⟩, fy, _, List.mem_cons_self, r, (fun s hs => rfl), Nat.le_refl _, yvoid⟩
  refine (xh_of HH (k := 0) (n := 2480) (by decide)).mpr ?_
  have e : (xof (xW hp x.2)).1 81 = x.2.1 81 := xof_t H.1 (k := 0) (n := 2480) (by decide)
  unfold xh
  rw [e]
  exact hc k hk
end XKEP
end
section
/-! summedBy of the reference: codes are run, the stack never empties. -/
section XSUM
variable {F : Nat} {m : xS}
/-- nothing but the stack has changed -/
def xfl (m m' : xS) : Prop := (∀ i j, i ≠ 78 → m'.2 i j = m.2 i j) ∧ ∀ i j, ¬ (i = 70 ∧ j = 20) → m'.1 i j = m.1 i j
theorem xfl_r (m : xS) : xfl m m := ⟨fun _ _ _ => rfl, fun _ _ _ => rfl⟩
theorem xfl_t {a b c : xS} (h1 : xfl a b) (h2 : xfl b c) : xfl a c := ⟨fun i j k => (h2.1 i j k).trans (h1.1 i j k), fun i j k => (h2.2 i j k).trans (h1.2 i j k)⟩
theorem xan (c : Int32) : (c &&& 15).toInt = c.toInt % 16 := by
  have e : (c &&& 15).toBitVec.toNat = c.toBitVec.toNat % 16 := by
    rw [Int32.toBitVec_and, BitVec.toNat_and]
    exact Nat.and_two_pow_sub_one_eq_mod _ 4
  have i1 := BitVec.toInt_eq_toNat_cond (c &&& 15).toBitVec
  have i2 := BitVec.toInt_eq_toNat_cond c.toBitVec
  have j1 : (c &&& 15).toInt = (c &&& 15).toBitVec.toInt := rfl
  have j2 : c.toInt = c.toBitVec.toInt := rfl
  have l := c.toBitVec.isLt
  rw [j1, i1, j2, i2, e]
  split <;> split <;> omega
theorem xsh (c : Int32) : (c >>> ((4 : Int32) &&& 31)).toInt = c.toInt / 16 := by
  show ((c >>> ((4 : Int32) &&& 31)).toBitVec).toInt = _
  have e : ((4 : Int32) &&& 31).toBitVec.smod 32 = 4#32 := by decide
  rw [Int32.toBitVec_shiftRight, e]
  show (c.toBitVec.sshiftRight 4).toInt = _
  rw [BitVec.toInt_sshiftRight, Int.shiftRight_eq_div_pow]
  rfl
theorem P200 {v : Int64} {D : Nat} (h : xT m) (hD : (m.1 70 20).toInt = (D : Int)) (h64 : D < 64) : xP (D200 F v m) (fun _ m' => xT m' ∧ xfl m m' ∧ (m'.1 70 20).toInt = (D : Int) + 1) := by
  have e : (m.1 70 20 + 1).toInt = (m.1 70 20).toInt + 1 := xa1 (by show _ ≤ _ + (1 : Int); omega) (by show _ + (1 : Int) ≤ _; omega)
  unfold D200
  refine xP_g (xib_t (by omega) (by omega)) (xP_r ⟨xT_c (m := xul m 78 (m.1 70 20).toNatClampNeg v) h (i := 70) (j := 20) (lo := 0) (hi := 64) rfl (by omega) (by omega), ⟨fun i j k => if_neg (fun z => k z.1), fun i j k => xu_o k⟩, ?_⟩)
  rw [xu_s, e, hD]
theorem P201 {D : Nat} (h : xT m) (hD : (m.1 70 20).toInt = (D : Int) + 1) (h64 : D < 64) : xP (D201 F m) (fun _ m' => xT m' ∧ xfl m m' ∧ (m'.1 70 20).toInt = (D : Int)) := by
  have e : (m.1 70 20 - 1).toInt = (m.1 70 20).toInt - 1 := xs1 (by show _ ≤ _ - (1 : Int); omega) (by show _ - (1 : Int) ≤ _; omega)
  unfold D201
  refine xP_g (xib_t (by omega) (by omega)) (xP_r ⟨xT_c h (i := 70) (j := 20) (lo := 0) (hi := 64) rfl (by omega) (by omega), ⟨fun _ _ _ => rfl, fun i j k => xu_o k⟩, ?_⟩)
  rw [xu_s]
  omega
theorem P202 {v : Int32} {a b : Int64} : xP (D202 F v a b m) (fun _ m' => m' = m) := by
  have nz : zcmp .ne (lg_cmp b 0) 0 = true → (!(b == 0)) = true := fun c => by
    cases hb : (b == 0) with
    | false => rfl
    | true =>
      rw [beq_iff_eq] at hb
      subst hb
      exact absurd c (by decide)
  unfold D202
  exact (xP_i (fun _ => (xP_r rfl)) (fun _ => (xP_i (fun _ => (xP_r rfl)) (fun _ => (xP_i (fun _ => (xP_r rfl)) (fun _ => (xP_i (fun _ => (xP_i (fun c => xP_g (nz c) (xP_r rfl)) (fun _ => xP_r rfl))) (fun _ => (xP_i (fun _ => (xP_i (fun _ => xP_r rfl) (fun _ => xP_r rfl))) (fun _ => (xP_i (fun _ => (xP_i (fun _ => xP_r rfl) (fun _ => xP_r rfl))) (fun _ => (xP_i (fun _ => (xP_i (fun _ => xP_r rfl) (fun _ => xP_r rfl))) (fun _ => (xP_i (fun _ => (xP_i (fun _ => xP_r rfl) (fun _ => xP_r rfl))) (fun _ => (xP_i (fun _ => (xP_i (fun _ => xP_r rfl) (fun _ => xP_r rfl))) (fun _ => (xP_i (fun _ => (xP_r rfl)) (fun _ => (xP_i (fun _ => (xP_r rfl)) (fun _ => (xP_i (fun _ => (xP_r rfl)) (fun _ => (xP_i (fun _ => (xP_i (fun c => xP_g (nz c) (xP_r rfl)) (fun _ => xP_r rfl))) (fun _ => (xP_r rfl)))))))))))))))))))))))))))
theorem zdp_p {f : Nat → Int32} {a n : Nat} : ∀ {k D : Nat}, zdp f a (n + k) = some D → ∃ D1, zdp f a n = some D1
  | 0, D, h => ⟨D, h⟩
  | k + 1, D, h => by
    have h : (zdp f a (n + k)).bind (zst (f (a + (n + k)))) = some D := h
    cases e : zdp f a (n + k) with
    | none => rw [e] at h; cases h
    | some D1 => exact zdp_p e
theorem P203_8 {t lo hi D' : Nat} (ht : t < 6) (hh : hi ≤ 400) {v1 v2 v3 : Int32} (e1 : v1.toInt = (t : Int)) (e3 : v3.toInt = (hi : Int)) (h1 : 1 ≤ D') : ∀ (f : Nat) {v4 : Int32} {m : xS} {k D : Nat}, xT m → v4.toInt = (k : Int) → lo ≤ k → k ≤ hi → hi < f + k → zdp (m.1 72) (400 * t + lo) (hi - lo) = some D' → zdp (m.1 72) (400 * t + lo) (k - lo) = some D → (m.1 70 20).toInt = (D : Int) → xP (D203_8 F f v1 v2 v3 v4 m) (fun _ m' => xT m' ∧ xfl m m')
  | 0, v4, m, k, D, h, e4, l1, l2, l3, z1, z2, hD => by omega
  | f + 1, v4, m, k, D, h, e4, l1, l2, l3, z1, z2, hD => by
    have bd := h 70 20 (0, 64) rfl
    have bd1 : (0 : Int) ≤ (m.1 70 20).toInt := bd.1
    have bd2 : (m.1 70 20).toInt ≤ 64 := bd.2
    unfold D203_8
    refine xP_i (fun c => ?_) (fun c => ?_)
    · have c : v3.toInt ≤ v4.toInt := zt c
      have kh : k = hi := by omega
      rw [kh] at z2
      have e : D = D' := Option.some.inj (z2.symm.trans z1)
      exact xP_b (P201 (F := F) (D := D - 1) h (by omega) (by omega)) (fun v m1 q => xP_r ⟨q.1, q.2.1⟩)
    · have c : ¬ v3.toInt ≤ v4.toInt := zf c
      have a1 : ((400 : Int32) * v1).toInt = 400 * v1.toInt := xm1 (by show _ ≤ (400 : Int) * _; omega) (by show (400 : Int) * _ ≤ _; omega)
      have a2 : ((400 : Int32) * v1 + v4).toInt = 400 * (t : Int) + (k : Int) := by
        rw [xa1 (by rw [a1]; omega) (by rw [a1]; omega), a1]
        omega
      have a3 : ((400 : Int32) * v1 + v4).toNatClampNeg = 400 * t + k := by
        show Int.toNat _ = _
        rw [a2]
        omega
      refine xP_g (xib_t (by omega) (by omega)) (xP_g (xib_t (by omega) (by omega)) ?_)
      rw [a3]
      obtain ⟨D2, z3⟩ : ∃ D2, zdp (m.1 72) (400 * t + lo) (k - lo + 1) = some D2 := zdp_p (k := hi - k - 1) (by rw [show k - lo + 1 + (hi - k - 1) = hi - lo by omega]; exact z1)
      have z4 : zst (m.1 72 (400 * t + k)) D = some D2 := by
        have z5 : (zdp (m.1 72) (400 * t + lo) (k - lo)).bind (zst (m.1 72 (400 * t + lo + (k - lo)))) = some D2 := z3
        rw [z2, show 400 * t + lo + (k - lo) = 400 * t + k by omega] at z5
        exact z5
      have go : ∀ {m2 : xS} {w5 w6 : Int32}, xT m2 → xfl m m2 → (m2.1 70 20).toInt = (D2 : Int) → xP (D203_129 F (D203_8 F f) v1 v2 v3 v4 w5 w6 m2) (fun _ m' => xT m' ∧ xfl m m') := by
        intro m2 w5 w6 t2 f2 d2
        unfold D203_129
        have e5 : (v4 + Int32.ofInt 1).toInt = v4.toInt + 1 := xa1 (by show _ ≤ _ + (1 : Int); omega) (by show _ + (1 : Int) ≤ _; omega)
        have q72 : m2.1 72 = m.1 72 := funext fun j => f2.2 72 j (by omega)
        exact xP_m (P203_8 (lo := lo) ht hh e1 e3 h1 f (k := k + 1) (D := D2) t2 (by omega) (by omega) (by omega) (by omega) (by rw [q72]; exact z1) (by rw [q72, show k + 1 - lo = k - lo + 1 by omega]; exact z3) d2) (fun v m' q => ⟨q.1, xfl_t f2 q.2⟩)
      generalize m.1 72 (400 * t + k) = cc at z4 ⊢
      have an := xan cc
      have sh := xsh cc
      have z4 : zs0 cc D = some D2 := by
        unfold zst at z4
        split at z4
        · exact z4
        · cases z4
      unfold zs0 at z4
      refine xP_i (fun c0 => ?_) (fun c0 => ?_)
      · have c0 : ¬ cc.toInt % 16 = 0 := fun z => znet c0 (Int32.toInt_inj.mp (by rw [an, z]; rfl))
        rw [if_neg c0] at z4
        refine xP_i (fun c1 => ?_) (fun c1 => ?_)
        · have c1 : ¬ cc.toInt % 16 = 1 := fun z => znet c1 (Int32.toInt_inj.mp (by rw [an, z]; rfl))
          rw [if_neg c1] at z4
          refine xP_i (fun c2 => ?_) (fun c2 => ?_)
          · have c2 : ¬ cc.toInt % 16 = 11 := fun z => znet c2 (Int32.toInt_inj.mp (by rw [an, z]; rfl))
            rw [if_neg c2] at z4
            split at z4
            · next hk =>
              have z4 : D - 1 = D2 := Option.some.inj z4
              refine xP_b (P201 (F := F) (D := D - 1) h (by omega) (by omega)) (fun v5 m5 q5 => ?_)
              refine xP_b (P201 (F := F) (D := D - 2) q5.1 (by rw [q5.2.2]; omega) (by omega)) (fun v6 m6 q6 => ?_)
              refine xP_b (P202 (F := F)) (fun v7 m7 q7 => ?_)
              have q7 : m7 = m6 := q7
              subst q7
              refine xP_b (P200 (F := F) (D := D - 2) q6.1 q6.2.2 (by omega)) (fun v8 m8 q8 => ?_)
              exact go q8.1 (xfl_t q5.2.1 (xfl_t q6.2.1 q8.2.1)) (show (m8.1 70 20).toInt = (D2 : Int) by have := q8.2.2; omega)
            · cases z4
          · have c2 : cc &&& 15 = 11 := zne c2
            have c3 : cc.toInt % 16 = 11 := by rw [← an, c2]; rfl
            rw [if_pos c3] at z4
            split at z4
            · next hk =>
              have z4 : D = D2 := Option.some.inj z4
              refine xP_b (P201 (F := F) (D := D - 1) h (by omega) (by omega)) (fun v5 m5 q5 => ?_)
              refine xP_b (P200 (F := F) (D := D - 1) q5.1 q5.2.2 (by omega)) (fun v8 m8 q8 => ?_)
              exact go q8.1 (xfl_t q5.2.1 q8.2.1) (show (m8.1 70 20).toInt = (D2 : Int) by have := q8.2.2; omega)
            · cases z4
        · have c1 : cc &&& 15 = 1 := zne c1
          have c3 : cc.toInt % 16 = 1 := by rw [← an, c1]; rfl
          rw [if_pos c3] at z4
          split at z4
          · next hk =>
            have z4 : D + 1 = D2 := Option.some.inj z4
            refine xP_g (xib_t (by rw [sh]; omega) (by rw [sh]; omega)) ?_
            refine xP_b (P200 (F := F) (D := D) h hD (by omega)) (fun v8 m8 q8 => ?_)
            exact go q8.1 q8.2.1 (show (m8.1 70 20).toInt = (D2 : Int) by have := q8.2.2; omega)
          · cases z4
      · have c0 : cc &&& 15 = 0 := zne c0
        have c3 : cc.toInt % 16 = 0 := by rw [← an, c0]; rfl
        rw [if_pos c3] at z4
        split at z4
        · next hk =>
          have z4 : D + 1 = D2 := Option.some.inj z4
          refine xP_b (P200 (F := F) (D := D) h hD (by omega)) (fun v8 m8 q8 => ?_)
          exact go q8.1 q8.2.1 (show (m8.1 70 20).toInt = (D2 : Int) by have := q8.2.2; omega)
        · cases z4
theorem P203 {t : Nat} {v1 v2 v3 : Int32} (hF : 500 ≤ F) (ht : t < 6) (e1 : v1.toInt = (t : Int)) (h : xT m) (w : wfs m t v2 v3) : xP (D203 F v1 v2 v3 m) (fun _ m' => xT m' ∧ xfl m m') := by
  obtain ⟨w1, w2, w3, D', w4, w5⟩ := w
  unfold D203
  have hT : xT (xu m 70 20 0) := xT_c h (i := 70) (j := 20) (lo := 0) (hi := 64) rfl (by decide) (by decide)
  refine xP_m (P203_8 (F := F) (lo := v2.toInt.toNat) (hi := v3.toInt.toNat) ht (by omega) e1 (by omega) w4 F (k := v2.toInt.toNat) (D := 0) hT (by omega) (Nat.le_refl _) (by omega) (by omega) w5 (by rw [Nat.sub_self]; rfl) rfl) (fun v m' q => ⟨q.1, xfl_t (show xfl m (xu m 70 20 0) from ⟨fun _ _ _ => rfl, fun i j k => xu_o k⟩) q.2⟩)
theorem xA_l {m' : xS} (f : xfl m m') (h : xA m) : xA m' := by
  have e2 : m'.1 72 = m.1 72 := funext fun j => f.2 72 j (by omega)
  have e4 : m'.1 74 = m.1 74 := funext fun j => f.2 74 j (by omega)
  have e5 : m'.1 75 = m.1 75 := funext fun j => f.2 75 j (by omega)
  unfold xA wfc wfs
  rw [e2, e4, e5]
  exact h
theorem P244_2 {t : Nat} {v1 : Int32} (hF : 500 ≤ F) (ht : t < 6) (e1 : v1.toInt = (t : Int)) : ∀ (f : Nat) {v2 : Int32} {m : xS} {k : Nat}, xT m → xA m → v2.toInt = (k : Int) → k ≤ 12 → 12 < f + k → xP (D244_2 F f v1 v2 m) (fun _ m' => xT m' ∧ xfl m m')
  | 0, v2, m, k, h, hA, e2, l1, l2 => by omega
  | f + 1, v2, m, k, h, hA, e2, l1, l2 => by
    have b5 := h 75 t (0, 12) (by
      unfold xbn
      rw [if_pos (by decide)]
      exact if_pos ⟨by decide, ht⟩)
    have b51 : (0 : Int) ≤ (m.1 75 t).toInt := b5.1
    have b52 : (m.1 75 t).toInt ≤ 12 := b5.2
    have a0 : v1.toNatClampNeg = t := by
      show Int.toNat _ = _
      rw [e1]
      omega
    unfold D244_2
    refine xP_g (xib_t (by omega) (by omega)) ?_
    rw [a0]
    refine xP_i (fun c => xP_r ⟨h, xfl_r m⟩) (fun c => ?_)
    have c : ¬ (m.1 75 t).toInt ≤ v2.toInt := zf c
    have w := hA t k ht (by omega)
    have a1 : ((48 : Int32) * v1).toInt = 48 * v1.toInt := xm1 (by show _ ≤ (48 : Int) * _; omega) (by show (48 : Int) * _ ≤ _; omega)
    have a2 : ((4 : Int32) * v2).toInt = 4 * v2.toInt := xm1 (by show _ ≤ (4 : Int) * _; omega) (by show (4 : Int) * _ ≤ _; omega)
    have a3 : ((48 : Int32) * v1 + 4 * v2).toInt = 48 * (t : Int) + 4 * (k : Int) := by
      rw [xa1 (by rw [a1, a2]; omega) (by rw [a1, a2]; omega), a1, a2]
      omega
    have b1 : ((48 : Int32) * v1 + 4 * v2 + 1).toInt = 48 * (t : Int) + 4 * (k : Int) + 1 := by
      rw [xa1 (by rw [a3]; show _ ≤ _ + (1 : Int); omega) (by rw [a3]; show _ + (1 : Int) ≤ _; omega), a3]
      rfl
    have b2 : ((48 : Int32) * v1 + 4 * v2 + 2).toInt = 48 * (t : Int) + 4 * (k : Int) + 2 := by
      rw [xa1 (by rw [a3]; show _ ≤ _ + (2 : Int); omega) (by rw [a3]; show _ + (2 : Int) ≤ _; omega), a3]
      rfl
    have b3 : ((48 : Int32) * v1 + 4 * v2 + 3).toInt = 48 * (t : Int) + 4 * (k : Int) + 3 := by
      rw [xa1 (by rw [a3]; show _ ≤ _ + (3 : Int); omega) (by rw [a3]; show _ + (3 : Int) ≤ _; omega), a3]
      rfl
    have c0 : ((48 : Int32) * v1 + 4 * v2).toNatClampNeg = 48 * t + 4 * k := by
      show Int.toNat _ = _
      rw [a3]
      omega
    have c1 : ((48 : Int32) * v1 + 4 * v2 + 1).toNatClampNeg = 48 * t + 4 * k + 1 := by
      show Int.toNat _ = _
      rw [b1]
      omega
    have c2 : ((48 : Int32) * v1 + 4 * v2 + 2).toNatClampNeg = 48 * t + 4 * k + 2 := by
      show Int.toNat _ = _
      rw [b2]
      omega
    have c3 : ((48 : Int32) * v1 + 4 * v2 + 3).toNatClampNeg = 48 * t + 4 * k + 3 := by
      show Int.toNat _ = _
      rw [b3]
      omega
    have fin : ∀ {m2 : xS}, xT m2 → xfl m m2 → xP (D244_58 F v1 v2 (48 * v1 + 4 * v2) m2) (fun _ m' => xT m' ∧ xfl m m') := by
      intro m2 t2 f2
      have w2 := xA_l f2 hA t k ht (by rw [f2.2 75 t (by omega)]; omega)
      unfold D244_58
      refine xP_g (xib_t (by omega) (by omega)) (xP_g (xib_t (by omega) (by omega)) ?_)
      rw [c0, c1]
      exact xP_b (P203 hF ht e1 t2 w2.1) (fun v m1 q => xP_r ⟨q.1, xfl_t f2 q.2⟩)
    refine xP_g (xib_t (by omega) (by omega)) ?_
    rw [c2, c3]
    refine xP_i (fun d => fin h (xfl_r m)) (fun d => ?_)
    have d : ¬ (m.1 74 (48 * t + 4 * k + 2)).toInt < 0 := zf d
    refine xP_g (xib_t (by omega) (by omega)) (xP_g (xib_t (by omega) (by omega)) ?_)
    refine xP_b (P203 hF ht e1 h (w.2.resolve_left d)) (fun v m1 q => ?_)
    refine xP_i (fun _ => ?_) (fun _ => fin q.1 q.2)
    have e5 : (v2 + Int32.ofInt 1).toInt = v2.toInt + 1 := xa1 (by show _ ≤ _ + (1 : Int); omega) (by show _ + (1 : Int) ≤ _; omega)
    exact xP_m (P244_2 hF ht e1 f (k := k + 1) q.1 (xA_l q.2 hA) (by omega) (by omega) (by omega)) (fun v m' q2 => ⟨q2.1, xfl_t q.2 q2.2⟩)
theorem yas2 {hp : zHp} {r : Nat → Int} {b : yB} {n : Nat} {as : List Value} {c : Nat} {l : yL} (g : yG hp r (n, b, [], [], [(0, (2, yc c, yc 0)), (1, (0, l, yc 0))], []) (lv_args 0 as) []) (hlen : as.length = 2) : ∃ x : Int32, as = [.ref c, .int x] ∧ x.toInt = yev r l := by
  match as, hlen with
  | [a, b], _ =>
    have ha : a = .ref c := by
      obtain ⟨-, w, w1, w2⟩ := g.2.2.2.1 0 (2, yc c, yc 0) rfl
      have w1 : some a = some w := w1
      cases w1
      rcases w2 with ⟨w2, -⟩ | ⟨-, w2⟩
      · have w2 : yev r (yc c) = -1 := w2
        rw [yev_c] at w2
        omega
      · have w2 : a = .ref (yev r (yc c)).toNat := w2
        rw [yev_c] at w2
        rw [w2]
        rfl
    subst ha
    obtain ⟨-, w, w1, w2⟩ := g.2.2.2.1 1 (0, l, yc 0) rfl
    have w1 : some b = some w := w1
    cases w1
    obtain ⟨x, rfl, hx⟩ := yvI' rfl w2
    exact ⟨x, rfl, hx⟩
theorem ysum_s : yTs (yEA yAr) 5 ys2 := by
  intro d hd hp r as H gg hl hlen
  obtain ⟨x, has, hx⟩ := yas2 (c := 70) (l := (1, 0, 0)) (n := 1) (b := [(0, 0, 5)]) gg hlen
  subst has
  have hb := gg.1 (0, 0, 5) List.mem_cons_self
  have hb1 : (0 : Int) ≤ r 0 := hb.2.1
  have hb2 : r 0 ≤ 5 := hb.2.2
  have hx : x.toInt = r 0 := hx.trans (by show 1 * r 0 + 0 = _; omega)
  obtain ⟨y, hy, hT, f⟩ := P244_2 (F := 500) (t := x.toInt.toNat) (v1 := x) (by omega) (by omega) (by omega) 500 (v2 := 0) (k := 0) (xT_of H.1) H.2.2.1 rfl (by omega) (by omega)
  have z := Z244 H.1 (F := 500) (a1 := x) (x := y) hy (d := d) (by omega)
  rw [xW_of] at z
  have fr : ∀ i j : Nat, yinM ys2.2.2.2.2 i (j : Int) = false → ¬ (i = 70 ∧ j = 20) ∧ i ≠ 78 := by
    intro i j hij
    refine ⟨fun q => ?_, fun q => ?_⟩
    · obtain ⟨rfl, rfl⟩ := q
      cases hij
    · subst q
      cases hij
  have fy : yF ys2.2.2.2.2 hp (xW hp y.2) := xF (fun i j k => f.2 i j (fr i j k).1) (fun i j k => f.1 i j (fr i j k).2)
  refine ⟨_, z, ⟨xH H.1 hT (fun i j k => f.1 i j k), ⟨yP_F fy rfl rfl H.2.1.1, yP_F fy rfl rfl H.2.1.2.1, fun k hk => yP_F fy rfl rfl (H.2.1.2.2.1 k hk), fun k hk => yP_F fy rfl rfl (H.2.1.2.2.2 k hk)⟩, yA_F yAr_F (M := ys2.2.2.2.2) rfl (ydj_ok (by decide)) fy H.2.2⟩, fy, _, List.mem_cons_self, (fun s => if s = 0 then r 0 else y.1.toInt), (fun s hs => ?_), by decide, ?_⟩
  · have hs : s < 1 := hs
    have : s = 0 := by omega
    subst this
    rfl
  · refine ⟨fun e he => ?_, (fun x hx => by cases hx), (fun t ht => by cases ht), (fun i a e => by cases e), ⟨⟨Or.inr (by decide), Or.inl rfl⟩, y.1, rfl, by show y.1.toInt = 1 * y.1.toInt + 0; omega⟩, trivial⟩
    rcases List.mem_cons.mp he with rfl | he
    · have := y64 y.1
      exact ⟨by decide, this.1, Int.le_of_lt_add_one this.2⟩
    · cases he
end XSUM
end
section
/-! came of the reference, over the memory: with a tool there is a house. -/
section XCAM
variable {F : Nat} {m : xS}
abbrev xMC : yM := [(70, 70, 32), (70, 70, 33), (70, 70, 34)]
theorem P206 {v : Int32} : xP (D206 F v m) (fun w m' => m' = m ∧ (w = 0 ∨ (w = 1 ∧ 0 ≤ v.toInt ∧ v.toInt < (m.1 80 2).toInt))) := by
  unfold D206 D206_18
  refine xP_i (fun _ => xP_r ⟨rfl, Or.inl rfl⟩) (fun c => xP_i (fun _ => xP_r ⟨rfl, Or.inl rfl⟩) (fun c2 => ?_))
  have c : ¬ v.toInt < 0 := zf c
  have c2 : ¬ (m.1 80 2).toInt ≤ v.toInt := zf c2
  exact xP_r ⟨rfl, Or.inr ⟨rfl, by omega, by omega⟩⟩
theorem P208 {i o : Nat} {v1 v2 : Int32} (e1 : v1.toInt = (i : Int)) (hi : i < 6) (e2 : v2.toInt = (o : Int)) (ho : o < 6) : xP (D208 F v1 v2 m) (fun w m' => m' = m ∧ w = m.1 80 (10 + 6 * i + o)) := by
  have a1 : ((6 : Int32) * v1).toInt = 6 * v1.toInt := xm1 (by show _ ≤ (6 : Int) * _; omega) (by show (6 : Int) * _ ≤ _; omega)
  have a2 : ((10 : Int32) + 6 * v1).toInt = 10 + 6 * v1.toInt := by
    rw [xa1 (by rw [a1]; show _ ≤ (10 : Int) + _; omega) (by rw [a1]; show (10 : Int) + _ ≤ _; omega), a1]
    rfl
  have a3 : ((10 : Int32) + 6 * v1 + v2).toInt = 10 + 6 * (i : Int) + (o : Int) := by
    rw [xa1 (by rw [a2]; omega) (by rw [a2]; omega), a2]
    omega
  have a4 : ((10 : Int32) + 6 * v1 + v2).toNatClampNeg = 10 + 6 * i + o := by
    show Int.toNat _ = _
    rw [a3]
    omega
  unfold D208
  refine xP_g (xib_t (by omega) (by omega)) ?_
  rw [a4]
  exact xP_r ⟨rfl, rfl⟩
/-- an owner's or a place's number -/
theorem xown {i o : Nat} (h : xT m) (hi : i < 6) (ho : o = 0 ∨ o = 3) : 0 ≤ (m.1 80 (10 + 6 * i + o)).toInt ∧ (m.1 80 (10 + 6 * i + o)).toInt ≤ 5 := by
  have b := h 80 (10 + 6 * i + o) _ (xb80 (by omega))
  have e : yel 2 (10 + 6 * i + o) = (0, 5) := by
    show (if 10 + 6 * i + o = 0 ∨ 10 + 6 * i + o = 2 ∨ 10 + 6 * i + o = 3 then ((0, 6) : Int × Int) else if 10 ≤ 10 + 6 * i + o ∧ 10 + 6 * i + o < 46 ∧ ((10 + 6 * i + o - 10) % 6 = 0 ∨ (10 + 6 * i + o - 10) % 6 = 3) then (0, 5) else _) = _
    rw [if_neg (by omega), if_pos (by omega)]
  rw [e] at b
  exact b
theorem P212 {i : Nat} {v1 : Int32} (e1 : v1.toInt = (i : Int)) (hi : i < 6) : xP (D212 F v1 m) (fun _ m' => m' = m) := by
  unfold D212
  refine xP_b (P208 (F := F) (o := 0) e1 hi rfl (by decide)) (fun v m1 q => ?_)
  obtain ⟨rfl, -⟩ := q
  refine xP_b (P208 (F := F) (o := 3) e1 hi rfl (by decide)) (fun v m1 q => ?_)
  obtain ⟨rfl, -⟩ := q
  exact xP_i (fun _ => xP_r rfl) (fun _ => xP_r rfl)
theorem P235_4 {v0 : Int32} {h : Nat} (h1 : 1 ≤ h) (h2 : h ≤ 6) (e0 : v0.toInt = (h : Int)) : ∀ (f : Nat) {v1 v2 v3 : Int32} {m : xS} {k p : Nat}, v3.toInt = (k : Int) → k ≤ 5 → v2.toInt = (p : Int) → 1 ≤ p → p ≤ 6 ^ k → v1.toInt ≤ 5 → 6 ≤ f + k → xP (D235_4 F f v0 v1 v2 v3 m) (fun w m' => m' = m ∧ 1 ≤ w.toInt ∧ w.toInt ≤ 7776)
  | 0, v1, v2, v3, m, k, p, e3, k1, e2, p1, p2, l1, l2 => by omega
  | f + 1, v1, v2, v3, m, k, p, e3, k1, e2, p1, p2, l1, l2 => by
    have k6 : 6 ^ k ≤ 6 ^ 5 := Nat.pow_le_pow_right (by decide) k1
    have k7 : (6 : Nat) ^ 5 = 7776 := by decide
    unfold D235_4
    refine xP_i (fun c => xP_r ⟨rfl, by omega, by omega⟩) (fun c => ?_)
    have c : ¬ v1.toInt ≤ v3.toInt := zf c
    have j1 : p * h ≤ 6 ^ k * 6 := Nat.mul_le_mul p2 h2
    have j2 : 6 ^ k * 6 = 6 ^ (k + 1) := rfl
    have j3 : 6 ^ (k + 1) ≤ 6 ^ 5 := Nat.pow_le_pow_right (by decide) (by omega)
    have j4 : 1 ≤ p * h := Nat.mul_le_mul p1 h1
    have j5 : v2.toInt * v0.toInt = ((p * h : Nat) : Int) := by
      rw [e2, e0]
      simp
    have a1 : (v2 * v0).toInt = ((p * h : Nat) : Int) := by
      rw [xm1 (by rw [j5]; omega) (by rw [j5]; omega), j5]
    have e5 : (v3 + Int32.ofInt 1).toInt = v3.toInt + 1 := xa1 (by show _ ≤ _ + (1 : Int); omega) (by show _ + (1 : Int) ≤ _; omega)
    exact P235_4 h1 h2 e0 f (k := k + 1) (p := p * h) (by omega) (by omega) a1 j4 (by omega) l1 (by omega)
theorem P235 (hF : 6 ≤ F) {v0 v1 : Int32} {h : Nat} (h1 : 1 ≤ h) (h2 : h ≤ 6) (e0 : v0.toInt = (h : Int)) (l : v1.toInt ≤ 5) : xP (D235 F v0 v1 m) (fun w m' => m' = m ∧ 1 ≤ w.toInt ∧ w.toInt ≤ 7776) := by
  unfold D235
  exact P235_4 h1 h2 e0 F (k := 0) (p := 1) rfl (by omega) rfl (by omega) (by decide) l (by omega)
theorem xnz {x : Int32} (h : 1 ≤ x.toInt) : (!(x == 0)) = true := by
  cases hb : (x == 0) with
  | false => rfl
  | true =>
    rw [beq_iff_eq] at hb
    subst hb
    exact absurd h (by decide)
theorem P236 (hF : 6 ≤ F) {v1 v2 v3 : Int32} {h : Nat} (h1 : 1 ≤ h) (h2 : h ≤ 6) (e0 : (m.1 80 0).toInt = (h : Int)) (hv : 0 ≤ v1.toInt) (l : (v2 - 1 - v3).toInt ≤ 5) : xP (D236 F v1 v2 v3 m) (fun w m' => m' = m ∧ 0 ≤ w.toInt ∧ w.toInt ≤ 5) := by
  unfold D236
  refine xP_b (P235 hF h1 h2 e0 l) (fun w m1 q => ?_)
  obtain ⟨rfl, q1, q2⟩ := q
  refine xP_g (xnz q1) (xP_g (xnz (show 1 ≤ (m1.1 80 0).toInt by omega)) (xP_r ⟨rfl, ?_⟩))
  have b1 := y32 v1
  have d1 : (v1 / w).toInt = v1.toInt.tdiv w.toInt := by
    have z1 : 0 ≤ v1.toInt.tdiv w.toInt := Int.tdiv_nonneg hv (by omega)
    have z2 : v1.toInt.tdiv w.toInt ≤ v1.toInt := by
      rw [Int.tdiv_eq_ediv_of_nonneg hv]
      exact Int.ediv_le_self _ hv
    rw [Int32.toInt_div]
    exact Int.bmod_eq_of_le_mul_two (by omega) (by omega)
  have d2 : 0 ≤ (v1 / w).toInt := by
    rw [d1]
    exact Int.tdiv_nonneg hv (by omega)
  have d3 := yfI_m (o := 10) (Or.inr (Or.inr rfl)) (v1 / w) (m1.1 80 0)
  have d3 : (v1 / w - v1 / w / m1.1 80 0 * m1.1 80 0).toInt = ((v1 / w).toInt.tmod (m1.1 80 0).toInt).bmod (2 ^ 32) := d3
  have d4 : 0 ≤ (v1 / w).toInt.tmod (m1.1 80 0).toInt := Int.tmod_nonneg _ d2
  have d5 : (v1 / w).toInt.tmod (m1.1 80 0).toInt < (m1.1 80 0).toInt := Int.tmod_lt_of_pos _ (by omega)
  have d6 : ((v1 / w).toInt.tmod (m1.1 80 0).toInt).bmod (2 ^ 32) = (v1 / w).toInt.tmod (m1.1 80 0).toInt := Int.bmod_eq_of_le_mul_two (by omega) (by omega)
  show 0 ≤ (v1 / w - v1 / w / m1.1 80 0 * m1.1 80 0).toInt ∧ (v1 / w - v1 / w / m1.1 80 0 * m1.1 80 0).toInt ≤ 5
  rw [d3, d6]
  omega
theorem P159 {a b : Int32} : xP (D159 F a b m) (fun _ m' => m' = m) := by
  unfold D159
  exact xP_i (fun _ => xP_r rfl) (fun _ => xP_r rfl)
theorem P237_5 (hF : 6 ≤ F) {h : Nat} (h1 : 1 ≤ h) (h2 : h ≤ 6) {v1 v2 : Int32} (hv : 0 ≤ v1.toInt) (l : v2.toInt ≤ 5) : ∀ (f : Nat) {v3 v4 : Int32} {m : xS} {k : Nat}, (m.1 80 0).toInt = (h : Int) → v4.toInt = (k : Int) → k ≤ 5 → 6 ≤ f + k → xP (D237_5 F f v1 v2 v3 v4 m) (fun _ m' => m' = m)
  | 0, v3, v4, m, k, e0, e4, k1, l2 => by omega
  | f + 1, v3, v4, m, k, e0, e4, k1, l2 => by
    unfold D237_5
    refine xP_i (fun c => xP_r rfl) (fun c => ?_)
    have c : ¬ v2.toInt ≤ v4.toInt := zf c
    have a1 : (v2 - 1).toInt = v2.toInt - 1 := xs1 (by show _ ≤ _ - (1 : Int); omega) (by show _ - (1 : Int) ≤ _; omega)
    have a2 : (v2 - 1 - v4).toInt = v2.toInt - 1 - v4.toInt := by
      rw [xs1 (by rw [a1]; omega) (by rw [a1]; omega), a1]
    refine xP_b (P236 hF h1 h2 e0 hv (by omega)) (fun w m1 q => ?_)
    obtain ⟨rfl, q⟩ := q
    refine xP_b (P159 (F := F)) (fun w2 m2 q2 => ?_)
    have q2 : m2 = m1 := q2
    subst q2
    refine xP_i (fun _ => ?_) (fun _ => xP_r rfl)
    have e5 : (v4 + Int32.ofInt 1).toInt = v4.toInt + 1 := xa1 (by show _ ≤ _ + (1 : Int); omega) (by show _ + (1 : Int) ≤ _; omega)
    exact P237_5 hF h1 h2 hv l f (k := k + 1) e0 (by omega) (by omega) (by omega)
theorem P238_3 (hF : 6 ≤ F) {h : Nat} (h1 : 1 ≤ h) (h2 : h ≤ 6) {v1 v2 v3 : Int32} (hv : 0 ≤ v1.toInt) (l : v2.toInt ≤ 5) : ∀ (f : Nat) {v4 : Int32} {m : xS} {k : Nat}, (m.1 80 0).toInt = (h : Int) → v4.toInt = (k : Int) → k ≤ 5 → 6 ≤ f + k → xP (D238_3 F f v1 v2 v3 v4 m) (fun _ m' => m' = m)
  | 0, v4, m, k, e0, e4, k1, l2 => by omega
  | f + 1, v4, m, k, e0, e4, k1, l2 => by
    unfold D238_3
    refine xP_i (fun c => xP_r rfl) (fun c => ?_)
    have c : ¬ v2.toInt ≤ v4.toInt := zf c
    have a1 : (v2 - 1).toInt = v2.toInt - 1 := xs1 (by show _ ≤ _ - (1 : Int); omega) (by show _ - (1 : Int) ≤ _; omega)
    have a2 : (v2 - 1 - v4).toInt = v2.toInt - 1 - v4.toInt := by
      rw [xs1 (by rw [a1]; omega) (by rw [a1]; omega), a1]
    refine xP_b (P236 hF h1 h2 e0 hv (by omega)) (fun w m1 q => ?_)
    obtain ⟨rfl, q⟩ := q
    refine xP_i (fun _ => ?_) (fun _ => xP_r rfl)
    have e5 : (v4 + Int32.ofInt 1).toInt = v4.toInt + 1 := xa1 (by show _ ≤ _ + (1 : Int); omega) (by show _ + (1 : Int) ≤ _; omega)
    exact P238_3 hF h1 h2 hv l f (k := k + 1) e0 (by omega) (by omega) (by omega)
theorem P210 {v1 v2 : Int32} (a : 0 ≤ v1.toInt ∧ v1.toInt ≤ 5) (b : 0 ≤ v2.toInt ∧ v2.toInt ≤ 5) : xP (D210 F v1 v2 m) (fun _ m' => m' = m) := by
  have a1 : ((6 : Int32) * v1).toInt = 6 * v1.toInt := xm1 (by show _ ≤ (6 : Int) * _; omega) (by show (6 : Int) * _ ≤ _; omega)
  have a2 : ((46 : Int32) + 6 * v1).toInt = 46 + 6 * v1.toInt := by
    rw [xa1 (by rw [a1]; show _ ≤ (46 : Int) + _; omega) (by rw [a1]; show (46 : Int) + _ ≤ _; omega), a1]
    rfl
  have a3 : ((46 : Int32) + 6 * v1 + v2).toInt = 46 + 6 * v1.toInt + v2.toInt := by
    rw [xa1 (by rw [a2]; omega) (by rw [a2]; omega), a2]
  unfold D210
  exact xP_g (xib_t (by omega) (by omega)) (xP_i (fun _ => xP_r rfl) (fun _ => xP_r rfl))
theorem P239_6 (hF : 6 ≤ F) {h : Nat} (h1 : 1 ≤ h) (h2 : h ≤ 6) {v1 v2 v3 : Int32} (hv : 0 ≤ v2.toInt) (l : v3.toInt ≤ 5) : ∀ (f : Nat) {v4 v5 : Int32} {m : xS} {k : Nat}, (m.1 80 0).toInt = (h : Int) → (0 ≤ v4.toInt ∧ v4.toInt ≤ 5) → v5.toInt = (k : Int) → k ≤ 5 → 6 ≤ f + k → xP (D239_6 F f v1 v2 v3 v4 v5 m) (fun _ m' => m' = m)
  | 0, v4, v5, m, k, e0, b4, e4, k1, l2 => by omega
  | f + 1, v4, v5, m, k, e0, b4, e4, k1, l2 => by
    unfold D239_6
    refine xP_i (fun c => xP_r rfl) (fun c => ?_)
    have c : ¬ v3.toInt ≤ v5.toInt := zf c
    have a1 : (v3 - 1).toInt = v3.toInt - 1 := xs1 (by show _ ≤ _ - (1 : Int); omega) (by show _ - (1 : Int) ≤ _; omega)
    have a2 : (v3 - 1 - v5).toInt = v3.toInt - 1 - v5.toInt := by
      rw [xs1 (by rw [a1]; omega) (by rw [a1]; omega), a1]
    refine xP_b (P236 hF h1 h2 e0 hv (by omega)) (fun w m1 q => ?_)
    obtain ⟨rfl, q⟩ := q
    refine xP_b (P210 (F := F) b4 q) (fun w2 m2 q2 => ?_)
    have q2 : m2 = m1 := q2
    subst q2
    refine xP_i (fun _ => ?_) (fun _ => xP_r rfl)
    have e5 : (v5 + Int32.ofInt 1).toInt = v5.toInt + 1 := xa1 (by show _ ≤ _ + (1 : Int); omega) (by show _ + (1 : Int) ≤ _; omega)
    exact P239_6 hF h1 h2 hv l f (k := k + 1) e0 q (by omega) (by omega) (by omega)
theorem xd1 (x : Int32) : (x - 1 - (x - 1)).toInt = 0 := by
  rw [Int32.toInt_sub, Int.sub_self]
  rfl
theorem xd2 (x : Int32) : (x - 1 - (x - 2)).toInt = 1 := by
  rw [Int32.toInt_sub, Int32.toInt_sub, Int32.toInt_sub, Int.sub_bmod_bmod, Int.bmod_sub_bmod, show x.toInt - (1 : Int32).toInt - (x.toInt - (2 : Int32).toInt) = 1 by
    show x.toInt - (1 : Int) - (x.toInt - (2 : Int)) = 1
    omega]
  rfl
theorem xT70 {j : Nat} {v : Int32} (h : xT m) (hj : j = 32 ∨ j = 33 ∨ j = 34) : xT (xu m 70 j v) ∧ xfr xMC m (xu m 70 j v) := by
  have b := y32 v
  rcases hj with rfl | rfl | rfl
  · exact ⟨xT_c h (lo := -2147483648) (hi := 2147483647) rfl b.1 (by omega), xfr_u (by decide)⟩
  · exact ⟨xT_c h (lo := -2147483648) (hi := 2147483647) rfl b.1 (by omega), xfr_u (by decide)⟩
  · exact ⟨xT_c h (lo := -2147483648) (hi := 2147483647) rfl b.1 (by omega), xfr_u (by decide)⟩
abbrev xQC (m : xS) (_ : Unit) (m' : xS) : Prop := xT m' ∧ xfr xMC m m'
theorem xfr80 {m' : xS} {j : Nat} (f : xfr xMC m m') : m'.1 80 j = m.1 80 j := f.2 80 j rfl
theorem P266_18 (hF : 6 ≤ F) {h i : Nat} (h1 : 1 ≤ h) (h2 : h ≤ 6) (hi : i < 6) {v1 v2 : Int32} (e1 : v1.toInt = (i : Int)) : ∀ (f : Nat) {v3 : Int32} {m : xS} {k : Nat}, xT m → (m.1 80 0).toInt = (h : Int) → v3.toInt = (k : Int) → k ≤ 7776 → 7776 < f + k → xP (D266_18 F f v1 v2 v3 m) (xQC m)
  | 0, v3, m, k, hT, e0, e3, k1, l2 => by omega
  | f + 1, v3, m, k, hT, e0, e3, k1, l2 => by
    unfold D266_18
    refine xP_i (fun c => xP_r ⟨hT, xfr_r _ _⟩) (fun c => ?_)
    have c : ¬ (m.1 80 0).toInt ≤ v2.toInt := zf c
    refine xP_b (P235 hF h1 h2 e0 (by omega)) (fun w m1 q => ?_)
    obtain ⟨rfl, q1, q2⟩ := q
    refine xP_i (fun c => xP_r ⟨hT, xfr_r _ _⟩) (fun c3 => ?_)
    have c3 : ¬ w.toInt ≤ v3.toInt := zf c3
    have e5 : (v3 + Int32.ofInt 1).toInt = v3.toInt + 1 := xa1 (by show _ ≤ _ + (1 : Int); omega) (by show _ + (1 : Int) ≤ _; omega)
    have go : ∀ {m2 : xS} {u : Int32}, xT m2 → xfr xMC m1 m2 → xP (D266_175 F (D266_18 F f) v1 v2 v3 u m2) (xQC m1) := by
      intro m2 u t2 f2
      unfold D266_175
      exact xP_m (P266_18 hF h1 h2 hi e1 f (k := k + 1) t2 (by rw [xfr80 f2]; exact e0) (by omega) (by omega) (by omega)) (fun _ m' q => ⟨q.1, xfr_t f2 q.2⟩)
    have go152 : ∀ {m2 : xS} {u u5 : Int32}, xT m2 → xfr xMC m1 m2 → xP (D266_152 F (D266_18 F f) v1 v2 v3 u u5 m2) (xQC m1) := by
      intro m2 u u5 t2 f2
      unfold D266_152
      have x1 := xT70 (v := m2.1 70 33 ||| 1 <<< (u5 &&& 31)) t2 (Or.inr (Or.inl rfl))
      have x2 := xT70 (v := m2.1 70 32 + 1) x1.1 (Or.inl rfl)
      exact go x2.1 (xfr_t f2 (xfr_t x1.2 x2.2))
    have go137 : ∀ {m2 : xS} {u u5 : Int32}, xT m2 → xfr xMC m1 m2 → xP (D266_137 F (D266_18 F f) v1 v2 v3 u u5 m2) (xQC m1) := by
      intro m2 u u5 t2 f2
      unfold D266_137
      refine xP_i (fun _ => go152 t2 f2) (fun _ => ?_)
      have x1 := xT70 (v := u5) t2 (Or.inr (Or.inr rfl))
      exact go152 x1.1 (xfr_t f2 x1.2)
    have go89 : ∀ {u : Int32}, xP (D266_89 F (D266_18 F f) v1 v2 v3 u m1) (xQC m1) := by
      intro u
      unfold D266_89
      refine xP_i (fun _ => go hT (xfr_r _ _)) (fun _ => ?_)
      refine xP_b (P208 (F := F) (o := 0) e1 hi rfl (by decide)) (fun o m2 q => ?_)
      obtain ⟨rfl, rfl⟩ := q
      refine xP_b (P239_6 hF h1 h2 (by omega) (by omega) F (k := 0) e0 (xown hT hi (Or.inl rfl)) rfl (by omega) (by omega)) (fun o2 m3 q => ?_)
      have q : m3 = m2 := q
      subst q
      refine xP_i (fun _ => ?_) (fun _ => go hT (xfr_r _ _))
      refine xP_i (fun _ => ?_) (fun _ => ?_)
      · refine xP_b (P236 hF h1 h2 e0 (by omega) (by rw [xd2]; decide)) (fun o3 m4 q => ?_)
        obtain ⟨rfl, -⟩ := q
        exact go137 hT (xfr_r _ _)
      · refine xP_b (P208 (F := F) (o := 0) e1 hi rfl (by decide)) (fun o m2 q => ?_)
        obtain ⟨rfl, rfl⟩ := q
        exact go137 hT (xfr_r _ _)
    refine xP_b (P236 hF h1 h2 e0 (by omega) (by rw [xd1]; decide)) (fun o3 m4 q => ?_)
    obtain ⟨rfl, -⟩ := q
    refine xP_b (P208 (F := F) (o := 3) e1 hi rfl (by decide)) (fun o4 m2 q => ?_)
    obtain ⟨rfl, -⟩ := q
    refine xP_i (fun _ => go89) (fun _ => ?_)
    refine xP_b (P237_5 hF h1 h2 (by omega) (by omega) F (k := 0) e0 rfl (by omega) (by omega)) (fun o5 m2 q => ?_)
    have q : m2 = _ := q
    subst q
    refine xP_i (fun _ => go89) (fun _ => ?_)
    refine xP_b (P208 (F := F) (o := 0) e1 hi rfl (by decide)) (fun o6 m2 q => ?_)
    obtain ⟨rfl, -⟩ := q
    refine xP_b (P238_3 hF h1 h2 (by omega) (by omega) F (k := 0) e0 rfl (by omega) (by omega)) (fun o7 m2 q => ?_)
    have q : m2 = _ := q
    subst q
    exact xP_i (fun _ => go89) (fun _ => go89)
theorem P267 (hF : 8000 ≤ F) {v1 v2 : Int32} (hT : xT m) (hh : xh m 80 0) : xP (D267 F v1 v2 m) (fun _ m' => xT m' ∧ xfr xMC m m') := by
  have no : ∀ {m2 : xS}, m2 = m → xP (D267_20 F v1 v2 m2) (fun _ m' => xT m' ∧ xfr xMC m m') := fun e => by
    subst e
    exact xP_r ⟨hT, xfr_r _ _⟩
  unfold D267
  refine xP_b (P206 (F := F)) (fun w m1 q => ?_)
  obtain ⟨rfl, q⟩ := q
  refine xP_i (fun _ => no rfl) (fun c => ?_)
  have c : w ≠ 0 := zneq c
  obtain ⟨-, a1, a2⟩ := q.resolve_left c
  have b2 := hT 80 2 _ (xb80 (by decide))
  have b22 : (m1.1 80 2).toInt ≤ 6 := b2.2
  have b0 := hT 80 0 _ (xb80 (by decide))
  have b02 : (m1.1 80 0).toInt ≤ 6 := b0.2
  have b03 : 0 < (m1.1 80 0).toInt := hh (by show 0 < (m1.1 80 2).toInt; omega)
  obtain ⟨i, ei⟩ : ∃ i : Nat, v1.toInt = (i : Int) := ⟨v1.toInt.toNat, by omega⟩
  obtain ⟨h, eh⟩ : ∃ h : Nat, (m1.1 80 0).toInt = (h : Int) := ⟨(m1.1 80 0).toInt.toNat, by omega⟩
  refine xP_b (P158 (F := F)) (fun w2 m2 q2 => ?_)
  obtain ⟨rfl, -⟩ := q2
  refine xP_i (fun _ => ?_) (fun _ => no rfl)
  refine xP_b (P212 (F := F) ei (by omega)) (fun w3 m3 q3 => ?_)
  have q3 : m3 = _ := q3
  subst q3
  refine xP_i (fun _ => ?_) (fun _ => ?_)
  · refine xP_b (P208 (F := F) (o := 4) ei (by omega) rfl (by decide)) (fun w4 m4 q4 => ?_)
    obtain ⟨rfl, -⟩ := q4
    have x1 := xT70 (v := 0) hT (Or.inl rfl)
    have x2 := xT70 (v := 0) x1.1 (Or.inr (Or.inl rfl))
    have x3 := xT70 (v := -2) x2.1 (Or.inr (Or.inr rfl))
    have f3 := xfr_t x1.2 (xfr_t x2.2 x3.2)
    have p := P266_18 (F := F) (by omega) (h := h) (i := i) (by omega) (by omega) (by omega) (v2 := w4) ei F (v3 := 0) (k := 0) x3.1 (by rw [xfr80 f3]; exact eh) rfl (by omega) (by omega)
    refine xP_b (R := xQC _) p (fun w5 m5 q5 => ?_)
    have r : xT m5 ∧ xfr xMC m4 m5 := ⟨q5.1, xfr_t f3 q5.2⟩
    exact xP_i (fun _ => xP_i (fun _ => xP_r r) (fun _ => xP_r r)) (fun _ => xP_r r)
  · exact xP_i (fun _ => xP_i (fun _ => xP_r ⟨hT, xfr_r _ _⟩) (fun _ => xP_r ⟨hT, xfr_r _ _⟩)) (fun _ => xP_r ⟨hT, xfr_r _ _⟩)
theorem yas3 {hp : zHp} {r : Nat → Int} {b : yB} {n : Nat} {as : List Value} {c : Nat} {l l2 : yL} (g : yG hp r (n, b, [], [], [(0, (2, yc c, yc 0)), (1, (0, l, yc 0)), (2, (0, l2, yc 0))], []) (lv_args 0 as) []) (hlen : as.length = 3) : ∃ x y : Int32, as = [.ref c, .int x, .int y] := by
  match as, hlen with
  | [a, b, e], _ =>
    have ha : a = .ref c := by
      obtain ⟨-, w, w1, w2⟩ := g.2.2.2.1 0 (2, yc c, yc 0) rfl
      have w1 : some a = some w := w1
      cases w1
      rcases w2 with ⟨w2, -⟩ | ⟨-, w2⟩
      · have w2 : yev r (yc c) = -1 := w2
        rw [yev_c] at w2
        omega
      · have w2 : a = .ref (yev r (yc c)).toNat := w2
        rw [yev_c] at w2
        rw [w2]
        rfl
    subst ha
    obtain ⟨-, w, w1, w2⟩ := g.2.2.2.1 1 (0, l, yc 0) rfl
    have w1 : some b = some w := w1
    cases w1
    obtain ⟨x, rfl, hx⟩ := yvI' rfl w2
    obtain ⟨-, w, w1, w3⟩ := g.2.2.2.1 2 (0, l2, yc 0) rfl
    have w1 : some e = some w := w1
    cases w1
    obtain ⟨y, rfl, hy⟩ := yvI' rfl w3
    exact ⟨x, y, rfl⟩
theorem ycam_s : yTs (yEA yAr) 8 ys1 := by
  intro d hd hp r as H gg hl hlen
  obtain ⟨x, y, has⟩ := yas3 (c := 70) (l := (1, 0, 0)) (l2 := (1, 1, 0)) (n := 2) (b := [(0, (-2147483648), 2147483647), (1, (-2147483648), 2147483647)]) gg hlen
  subst has
  obtain ⟨w, hw, hT, f⟩ := P267 (F := 8000) (v1 := x) (v2 := y) (Nat.le_refl _) (xT_of H.1) ((xh_of H.1 (k := 0) (n := 148) (by decide)).mp H.2.1.1)
  have z := Z267 H.1 hw (d := d) (by omega)
  rw [xW_of] at z
  have fy : yF ys1.2.2.2.2 hp (xW hp w.2) := xF f.2 (fun i j _ => by rw [f.1])
  refine ⟨_, z, ⟨xH H.1 hT (fun i j _ => by rw [f.1]), ⟨yP_F fy rfl rfl H.2.1.1, yP_F fy rfl rfl H.2.1.2.1, fun k hk => yP_F fy rfl rfl (H.2.1.2.2.1 k hk), fun k hk => yP_F fy rfl rfl (H.2.1.2.2.2 k hk)⟩, yA_F yAr_F (M := ys1.2.2.2.2) rfl (ydj_ok (by decide)) fy H.2.2⟩, fy, _, List.mem_cons_self, (fun s => if s < 2 then r s else w.1.toInt), (fun s hs => if_pos hs), by decide, ?_⟩
  refine ⟨fun e he => ?_, (fun x hx => by cases hx), (fun t ht => by cases ht), (fun i a e => by cases e), ⟨⟨Or.inr (by decide), Or.inl rfl⟩, yvI (by show w.1.toInt = 1 * w.1.toInt + 0; omega)⟩, trivial⟩
  rcases List.mem_cons.mp he with rfl | he
  · have := y32 w.1
    exact ⟨by decide, this.1, Int.le_of_lt_add_one this.2⟩
  · cases he
end XCAM
end
section
/-! The class's rule: its reader's loop. -/
set_option maxRecDepth 4000 in
theorem xg51 : zg zms 51 = some (zm51.2.2.1, zm51.2.2.2.1, zc51) := rfl
set_option maxRecDepth 4000 in
theorem xg33 : zg zms 33 = some (zm33.2.2.1, zm33.2.2.2.1, zc33) := rfl
theorem xr51 : zar 51 = (0, 6) := by decide +kernel
theorem xr34 : zar 34 = (1, 5) := by decide +kernel
theorem xr35 : zar 35 = (1, 5) := by decide +kernel
theorem xr36 : zar 36 = (1, 5) := by decide +kernel
theorem xr38 : zar 38 = (1, 5) := by decide +kernel
theorem xr33 : zar 33 = (1, 5) := by decide +kernel
abbrev yRT : Option FieldType := some (.object "LentTools$Rule")
abbrev yMR : yM := [(0, 0, 1), (2, 2, 0), (2, 2, 1), (2, 2, 2), (2, 2, 3), (2, 2, 4), (6, 6, 1), (6, 6, 3), (6, 6, 4), (6, 6, 5), (6, 6, 6), (6, 6, 7), (6, 6, 8), (6, 6, 9), (7, 8, 1000)]
def yJ (hp0 hp : zHp) : Prop := (yH0 hp ∧ yEA yAr hp) ∧ yrd hp 2 0 = some (.ref 1) ∧ yF yMR hp0 hp
section YRDR
variable {hp hp0 : zHp} {ev : zEv} {d nL : Nat} {rt : Option FieldType} {cd : List (Option zEn)} {r : zRe} {pc : Nat} {lv : List (Nat × Value)}
theorem h_gi {i len a b ix : Nat} {rest : List Value} {v0 : Value} (H : yH0 hp) (hq : zg cd pc = some (.getfield i, len, a, b, v0)) (ha : ¬ a = 100) (ht : xti ix a b = true) (K : zR ev d nL rt cd (pc + 3, lv, .int ((xof hp).1 ix b) :: rest) hp r) : zR ev d nL rt cd (pc, lv, .ref ix :: rest) hp r := by
  obtain ⟨h1, h2, fs, x, h3, h4⟩ := xti_ok H ht
  have e : (xof hp).1 ix b = x := by
    unfold xof
    dsimp only
    rw [h3]
    dsimp only
    rw [h4]
  rw [e] at K
  exact r_get hq ha ⟨h1, h2⟩ h3 h4 K
theorem h_gr {i len a b ix c : Nat} {rest : List Value} {v0 : Value} (H : yH0 hp) (hq : zg cd pc = some (.getfield i, len, a, b, v0)) (ha : ¬ a = 100) (ht : xtr ix a b c = true) (K : zR ev d nL rt cd (pc + 3, lv, .ref c :: rest) hp r) : zR ev d nL rt cd (pc, lv, .ref ix :: rest) hp r := by
  obtain ⟨h1, h2, fs, h3, h4⟩ := xtr_ok H ht
  exact r_get hq ha ⟨h1, h2⟩ h3 h4 K
theorem h_kd (H : yH0 hp) {ix a : Nat} (h : xto ix a = true) : zKd ix hp = some a := by
  have q := xkd (s := xof hp) H h
  rw [xW_of] at q
  exact q
/-- isSound -/
theorem h_snd (H : yH0 hp) (hd : 1 ≤ d) : zCan d 51 [.ref 2] hp (some (.int (if (xof hp).1 2 4 = 0 then 1 else 0)), hp) := by
  obtain ⟨e, rfl⟩ : ∃ e, d = e + 1 := ⟨d - 1, by omega⟩
  refine zCan_body (nL := 1) (rt := some .boolean) (cd := zc51) xg51 ⟨Nat.le_of_ble_eq_true rfl, by decide⟩ (Nat.le_refl _) ?_
  refine q_lr (k := 1) (i := 0) (x := 2) (q := (.aload_n 0, 1, 0, 0, .null)) rfl (fun _ => rfl) rfl ?_
  refine h_gi H (ix := 2) (pc := 1) rfl (by decide) (by decide) ?_
  refine r_if (len := 3) (a := 11) (b := 0) (v0 := .null) (cn := .ne) (off := 7) rfl (fun c => ?_) (fun c => ?_)
  · have c : (xof hp).1 2 4 ≠ 0 := znet c
    rw [if_neg c]
    refine r_s (fr' := (12, lv_args 0 [.ref 2], [.int 0])) (hp' := hp) (q := (.iconst 0, 1, 0, 0, .null)) rfl (fun _ => rfl) (Nat.le_refl _) ?_
    exact q_ri (q := (.ireturn, 1, 0, 0, .null)) rfl (fun _ => rfl) rfl rfl
  · have c : (xof hp).1 2 4 = 0 := zne c
    rw [if_pos c]
    refine r_s (fr' := (8, lv_args 0 [.ref 2], [.int 1])) (hp' := hp) (q := (.iconst 1, 1, 0, 0, .null)) rfl (fun _ => rfl) (Nat.le_refl _) ?_
    refine r_s (fr' := (12, lv_args 0 [.ref 2], [.int 1])) (hp' := hp) (q := (.goto 4, 3, 12, 0, .null)) rfl (fun _ => rfl) (Nat.le_refl _) ?_
    exact q_ri (q := (.ireturn, 1, 0, 0, .null)) rfl (fun _ => rfl) rfl rfl
/-- what the readers begin with -/
abbrev yPR : yS := (1, [(0, 0, 2147483647)], [], [(yc 2, yc 0, (2, yc 1, yc 0)), (yc 2, yc 4, (0, (1, 0, 0), yc 0))], [(0, (2, yc 6, yc 0)), (1, (2, yc 2, yc 0))], [])
theorem yrfc {n : Nat} {r : Nat → Int} {c : Nat} : yv n r ((2, yc c, yc 0) : yV) (.ref c) := by
  refine Or.inr ⟨?_, ?_⟩
  · show 0 ≤ yev r (yc c)
    rw [yev_c]
    omega
  · show Value.ref c = .ref (yev r (yc c)).toNat
    rw [yev_c]
    rfl
theorem yPR_ok (H : yH0 hp) (h1 : yrd hp 2 0 = some (.ref 1)) : yG hp (fun _ => ((xof hp).1 2 4).toInt) yPR (lv_args 0 [.ref 6, .ref 2]) [] := by
  have b := xT_of H 2 4 (0, 4000) rfl
  have b1 : (0 : Int) ≤ ((xof hp).1 2 4).toInt := b.1
  have b2 : ((xof hp).1 2 4).toInt ≤ 4000 := b.2
  obtain ⟨-, -, fs, x, h3, h4⟩ := xti_ok H (show xti 2 6 4 = true by decide)
  have ex : (xof hp).1 2 4 = x := by
    unfold xof
    dsimp only
    rw [h3]
    dsimp only
    rw [h4]
  have rx : yrd hp 2 4 = some (.int x) := by
    unfold yrd
    rw [h3]
    exact h4
  refine ⟨fun e he => ?_, (fun y hy => by cases hy), fun t ht => ?_, fun i a ha => ?_, trivial⟩
  · rcases List.mem_cons.mp he with rfl | he
    · exact ⟨by decide, b1, by show ((xof hp).1 2 4).toInt ≤ 2147483647; omega⟩
    · cases he
  · rcases List.mem_cons.mp ht with rfl | ht
    · refine ⟨⟨Or.inl rfl, Or.inl rfl, Or.inl rfl, Or.inl rfl⟩, ?_, .ref 1, ?_, yrfc⟩
      · show 0 ≤ yev _ (yc 2)
        rw [yev_c]
        decide
      · show yrd hp (yev _ (yc 2)).toNat (yev _ (yc 0)) = _
        rw [yev_c, yev_c]
        exact h1
    · rcases List.mem_cons.mp ht with rfl | ht
      · refine ⟨⟨Or.inl rfl, Or.inl rfl, Or.inr (by decide), Or.inl rfl⟩, ?_, .int x, ?_, yvI (by show x.toInt = 1 * ((xof hp).1 2 4).toInt + 0; rw [ex]; omega)⟩
        · show 0 ≤ yev _ (yc 2)
          rw [yev_c]
          decide
        · show yrd hp (yev _ (yc 2)).toNat (yev _ (yc 4)) = _
          rw [yev_c, yev_c]
          exact rx
      · cases ht
  · have m := yld_mem ha
    have m : (i, a) ∈ [((0 : Nat), ((2, yc 6, yc 0) : yV)), (1, (2, yc 2, yc 0))] := m
    simp only [List.mem_cons, List.mem_nil_iff, or_false, Prod.mk.injEq] at m
    rcases m with ⟨rfl, rfl⟩ | ⟨rfl, rfl⟩
    · exact ⟨⟨Or.inl rfl, Or.inl rfl⟩, .ref 6, rfl, yrfc⟩
    · exact ⟨⟨Or.inl rfl, Or.inl rfl⟩, .ref 2, rfl, yrfc⟩
theorem yat_r {r : Nat → Int} {q : yS} {st : List Value} {c k : Nat} {j : Int} (g : yG hp r q lv st) (m : (yc c, yc j, ((2, yc k, yc 0) : yV)) ∈ q.2.2.2.1) : yrd hp c j = some (.ref k) := by
  obtain ⟨-, k1, w, k2, k3⟩ := g.2.2.1 _ m
  have k2 : yrd hp (yev r (yc c)).toNat (yev r (yc j)) = some w := k2
  rw [yev_c, yev_c, Int.toNat_natCast] at k2
  rcases k3 with ⟨k3, -⟩ | ⟨-, k3⟩
  · have k3 : yev r (yc k) = -1 := k3
    rw [yev_c] at k3
    omega
  · have k3 : w = .ref (yev r (yc k)).toNat := k3
    rw [yev_c] at k3
    rw [k2, k3]
    rfl
theorem h_read {sp : ySp} {n : Nat} (ts : yTs (yEA yAr) n sp) (hn : n ≤ d) (hP : sp.2.2.1 = yPR) (hQ : ∀ q ∈ sp.2.2.2.1, (yc 2, yc 0, ((2, yc 1, yc 0) : yV)) ∈ q.2.2.2.1 ∧ q.2.2.2.2.2 = []) (hM : yleM sp.2.2.2.2 yMR = true) (h2 : 2 ≤ sp.2.1) (J : yJ hp0 hp) : ∃ hp2, yJ hp0 hp2 ∧ hp.1 ≤ hp2.1 ∧ zCan d sp.1 [.ref 6, .ref 2] hp (none, hp2) := by
  obtain ⟨x, x1, x2, x3, q, hq, r2, a1, a2, g2⟩ := ts d hn hp (fun _ => ((xof hp).1 2 4).toInt) [.ref 6, .ref 2] J.1 (by rw [hP]; exact yPR_ok J.1.1 J.2.1) h2 (by rw [hP]; rfl)
  obtain ⟨m1, m2⟩ := hQ q hq
  have e := g2.2.2.2.2
  rw [m2] at e
  obtain ⟨x0, xh⟩ := x
  have e0 : x0 = none := by
    cases x0 with
    | none => rfl
    | some v => exact e.elim
  subst e0
  exact ⟨xh, ⟨x2, yat_r g2 m1, yF_trans J.2.2 (yF_le hM x3)⟩, x3.1, x1⟩
theorem yrr_loop (hd : 8 ≤ d) : ∀ (n : Nat) {hp : zHp} {lv : List (Nat × Value)} {i : Int32}, yJ hp0 hp → 0 ≤ i.toInt → i.toInt ≤ 401 → 401 - i.toInt < (n : Int) → zld lv 0 = some (.ref 6) → zld lv 1 = some (.ref 2) → zld lv 2 = some (.int i) → ∃ hp2 lv2, yJ hp0 hp2 ∧ hp.1 ≤ hp2.1 ∧ zld lv2 0 = some (.ref 6) ∧ zld lv2 1 = some (.ref 2) ∧ ∀ r, zR none d 3 yRT zc33 (117, lv2, []) hp2 r → zR none d 3 yRT zc33 (37, lv, []) hp r
  | 0, hp, lv, i, J, i0, i1, hi, l0, l1, l2 => by omega
  | n + 1, hp, lv, i, J, i0, i1, hi, l0, l1, l2 => by
    have head : ∀ {r : zRe}, zR none d 3 yRT zc33 (41, lv, [.int 400, .int i]) hp r → zR none d 3 yRT zc33 (37, lv, []) hp r := by
      intro r K
      refine q_li (k := 1) (i := 2) (q := (.iload_n 2, 1, 0, 0, .null)) rfl (fun _ => rfl) l2 ?_
      exact r_s (fr' := (41, lv, [.int 400, .int i])) (hp' := hp) (q := (.sipush 400, 3, 0, 0, .null)) rfl (fun _ => rfl) (Nat.le_refl _) K
    by_cases c1 : zcmp .gt i 400 = true
    · exact ⟨hp, lv, J, Nat.le_refl _, l0, l1, fun r K => head (r_ifc (len := 3) (a := 117) (b := 0) (v0 := .null) (cn := .gt) (off := 76) rfl (fun _ => K) (fun c => by rw [c1] at c; cases c))⟩
    · have c1f : zcmp .gt i 400 = false := by
        cases h : zcmp .gt i 400 with
        | true => exact absurd h c1
        | false => rfl
      have c1i : ¬ (400 : Int) < i.toInt := zf c1f
      by_cases c2 : (xof hp).1 6 8 = 4
      · refine ⟨hp, lv, J, Nat.le_refl _, l0, l1, fun r K => head (r_ifc (len := 3) (a := 117) (b := 0) (v0 := .null) (cn := .gt) (off := 76) rfl (fun c => absurd c c1) (fun _ => ?_))⟩
        refine q_lr (k := 1) (i := 0) (q := (.aload_n 0, 1, 0, 0, .null)) rfl (fun _ => rfl) l0 ?_
        refine h_gi J.1.1 (ix := 6) (pc := 45) rfl (by decide) (by decide) ?_
        refine r_s (fr' := (49, lv, [.int 4, .int ((xof hp).1 6 8)])) (hp' := hp) (q := (.iconst 4, 1, 0, 0, .null)) rfl (fun _ => rfl) (Nat.le_refl _) ?_
        exact r_ifc (len := 3) (a := 117) (b := 0) (v0 := .null) (cn := .eq) (off := 68) rfl (fun _ => K) (fun c => absurd c2 (zneq c))
      · have head2 : ∀ {r : zRe}, zR none d 3 yRT zc33 (56, lv, [.int (if (xof hp).1 2 4 = 0 then 1 else 0)]) hp r → zR none d 3 yRT zc33 (37, lv, []) hp r := by
          intro r K
          refine head (r_ifc (len := 3) (a := 117) (b := 0) (v0 := .null) (cn := .gt) (off := 76) rfl (fun c => absurd c c1) (fun _ => ?_))
          refine q_lr (k := 1) (i := 0) (q := (.aload_n 0, 1, 0, 0, .null)) rfl (fun _ => rfl) l0 ?_
          refine h_gi J.1.1 (ix := 6) (pc := 45) rfl (by decide) (by decide) ?_
          refine r_s (fr' := (49, lv, [.int 4, .int ((xof hp).1 6 8)])) (hp' := hp) (q := (.iconst 4, 1, 0, 0, .null)) rfl (fun _ => rfl) (Nat.le_refl _) ?_
          refine r_ifc (len := 3) (a := 117) (b := 0) (v0 := .null) (cn := .eq) (off := 68) rfl (fun c => absurd (zeq c) c2) (fun _ => ?_)
          refine q_lr (k := 1) (i := 1) (q := (.aload_n 1, 1, 0, 0, .null)) rfl (fun _ => rfl) l1 ?_
          exact r_call (ix := 2) (as := []) (rest := []) (rv := some (.int (if (xof hp).1 2 4 = 0 then 1 else 0))) (hp' := hp) (pc := 53) rfl xr51 rfl rfl rfl (h_kd J.1.1 (by decide)) (Nat.le_of_ble_eq_true rfl) (h_snd J.1.1 (by omega)) (Nat.le_refl _) K
        by_cases c3 : (xof hp).1 2 4 = 0
        · rw [if_pos c3] at head2
          have step : ∃ hp2, yJ hp0 hp2 ∧ hp.1 ≤ hp2.1 ∧ ∀ r, zR none d 3 yRT zc33 (111, lv, []) hp2 r → zR none d 3 yRT zc33 (59, lv, []) hp r := by
            have hE : yEF (yEA yAr) yFP := yEA_F yAr_F
            by_cases d0 : (xof hp).1 6 8 = 0
            · obtain ⟨hp2, J2, n2, z⟩ := h_read (d := d) (yt276 hE) (by omega) rfl (fun q hq => by
                rcases List.mem_cons.mp hq with rfl | hq
                · exact ⟨List.mem_of_getElem? (i := 0) rfl, rfl⟩
                · cases hq) (by decide) (by decide) J
              refine ⟨hp2, J2, n2, fun r K => ?_⟩
              refine q_lr (k := 1) (i := 0) (q := (.aload_n 0, 1, 0, 0, .null)) rfl (fun _ => rfl) l0 ?_
              refine h_gi J.1.1 (ix := 6) (pc := 60) rfl (by decide) (by decide) ?_
              refine r_if (len := 3) (a := 74) (b := 0) (v0 := .null) (cn := .ne) (off := 11) rfl (fun c => absurd d0 (znet c)) (fun _ => ?_)
              refine q_lr (k := 1) (i := 0) (q := (.aload_n 0, 1, 0, 0, .null)) rfl (fun _ => rfl) l0 ?_
              refine q_lr (k := 1) (i := 1) (q := (.aload_n 1, 1, 0, 0, .null)) rfl (fun _ => rfl) l1 ?_
              refine r_call (ix := 6) (as := [.ref 2]) (rest := []) (rv := none) (hp' := hp2) (pc := 68) rfl xr34 rfl rfl rfl (h_kd J.1.1 (by decide)) (Nat.le_of_ble_eq_true rfl) z n2 ?_
              exact r_s (fr' := (111, lv, [])) (hp' := hp2) (q := (.goto 40, 3, 111, 0, .null)) rfl (fun _ => rfl) (Nat.le_refl _) K
            · have h74 : ∀ {r : zRe}, zR none d 3 yRT zc33 (74, lv, []) hp r → zR none d 3 yRT zc33 (59, lv, []) hp r := by
                intro r K
                refine q_lr (k := 1) (i := 0) (q := (.aload_n 0, 1, 0, 0, .null)) rfl (fun _ => rfl) l0 ?_
                refine h_gi J.1.1 (ix := 6) (pc := 60) rfl (by decide) (by decide) ?_
                exact r_if (len := 3) (a := 74) (b := 0) (v0 := .null) (cn := .ne) (off := 11) rfl (fun _ => K) (fun c => absurd (zne c) d0)
              by_cases d1 : (xof hp).1 6 8 = 1
              · obtain ⟨hp2, J2, n2, z⟩ := h_read (d := d) (yt576 hE) (by omega) rfl (fun q hq => by
                  rcases List.mem_cons.mp hq with rfl | hq
                  · exact ⟨List.mem_of_getElem? (i := 0) rfl, rfl⟩
                  · cases hq) (by decide) (by decide) J
                refine ⟨hp2, J2, n2, fun r K => h74 ?_⟩
                refine q_lr (k := 1) (i := 0) (q := (.aload_n 0, 1, 0, 0, .null)) rfl (fun _ => rfl) l0 ?_
                refine h_gi J.1.1 (ix := 6) (pc := 75) rfl (by decide) (by decide) ?_
                refine r_s (fr' := (79, lv, [.int 1, .int ((xof hp).1 6 8)])) (hp' := hp) (q := (.iconst 1, 1, 0, 0, .null)) rfl (fun _ => rfl) (Nat.le_refl _) ?_
                refine r_ifc (len := 3) (a := 90) (b := 0) (v0 := .null) (cn := .ne) (off := 11) rfl (fun c => absurd d1 (znet c)) (fun _ => ?_)
                refine q_lr (k := 1) (i := 0) (q := (.aload_n 0, 1, 0, 0, .null)) rfl (fun _ => rfl) l0 ?_
                refine q_lr (k := 1) (i := 1) (q := (.aload_n 1, 1, 0, 0, .null)) rfl (fun _ => rfl) l1 ?_
                refine r_call (ix := 6) (as := [.ref 2]) (rest := []) (rv := none) (hp' := hp2) (pc := 84) rfl xr35 rfl rfl rfl (h_kd J.1.1 (by decide)) (Nat.le_of_ble_eq_true rfl) z n2 ?_
                exact r_s (fr' := (111, lv, [])) (hp' := hp2) (q := (.goto 24, 3, 111, 0, .null)) rfl (fun _ => rfl) (Nat.le_refl _) K
              · have h90 : ∀ {r : zRe}, zR none d 3 yRT zc33 (90, lv, []) hp r → zR none d 3 yRT zc33 (59, lv, []) hp r := by
                  intro r K
                  refine h74 ?_
                  refine q_lr (k := 1) (i := 0) (q := (.aload_n 0, 1, 0, 0, .null)) rfl (fun _ => rfl) l0 ?_
                  refine h_gi J.1.1 (ix := 6) (pc := 75) rfl (by decide) (by decide) ?_
                  refine r_s (fr' := (79, lv, [.int 1, .int ((xof hp).1 6 8)])) (hp' := hp) (q := (.iconst 1, 1, 0, 0, .null)) rfl (fun _ => rfl) (Nat.le_refl _) ?_
                  exact r_ifc (len := 3) (a := 90) (b := 0) (v0 := .null) (cn := .ne) (off := 11) rfl (fun _ => K) (fun c => absurd (zne c) d1)
                by_cases d2 : (xof hp).1 6 8 = 2
                · obtain ⟨hp2, J2, n2, z⟩ := h_read (d := d) (yt575 hE) (by omega) rfl (fun q hq => by
                    rcases List.mem_cons.mp hq with rfl | hq
                    · exact ⟨List.mem_of_getElem? (i := 2) rfl, rfl⟩
                    · cases hq) (by decide) (by decide) J
                  refine ⟨hp2, J2, n2, fun r K => h90 ?_⟩
                  refine q_lr (k := 1) (i := 0) (q := (.aload_n 0, 1, 0, 0, .null)) rfl (fun _ => rfl) l0 ?_
                  refine h_gi J.1.1 (ix := 6) (pc := 91) rfl (by decide) (by decide) ?_
                  refine r_s (fr' := (95, lv, [.int 2, .int ((xof hp).1 6 8)])) (hp' := hp) (q := (.iconst 2, 1, 0, 0, .null)) rfl (fun _ => rfl) (Nat.le_refl _) ?_
                  refine r_ifc (len := 3) (a := 106) (b := 0) (v0 := .null) (cn := .ne) (off := 11) rfl (fun c => absurd d2 (znet c)) (fun _ => ?_)
                  refine q_lr (k := 1) (i := 0) (q := (.aload_n 0, 1, 0, 0, .null)) rfl (fun _ => rfl) l0 ?_
                  refine q_lr (k := 1) (i := 1) (q := (.aload_n 1, 1, 0, 0, .null)) rfl (fun _ => rfl) l1 ?_
                  refine r_call (ix := 6) (as := [.ref 2]) (rest := []) (rv := none) (hp' := hp2) (pc := 100) rfl xr36 rfl rfl rfl (h_kd J.1.1 (by decide)) (Nat.le_of_ble_eq_true rfl) z n2 ?_
                  exact r_s (fr' := (111, lv, [])) (hp' := hp2) (q := (.goto 8, 3, 111, 0, .null)) rfl (fun _ => rfl) (Nat.le_refl _) K
                · obtain ⟨hp2, J2, n2, z⟩ := h_read (d := d) (yt643 hE) (by omega) rfl (fun q hq => by
                    rcases List.mem_cons.mp hq with rfl | hq
                    · exact ⟨List.mem_of_getElem? (i := 0) rfl, rfl⟩
                    · cases hq) (by decide) (by decide) J
                  refine ⟨hp2, J2, n2, fun r K => h90 ?_⟩
                  refine q_lr (k := 1) (i := 0) (q := (.aload_n 0, 1, 0, 0, .null)) rfl (fun _ => rfl) l0 ?_
                  refine h_gi J.1.1 (ix := 6) (pc := 91) rfl (by decide) (by decide) ?_
                  refine r_s (fr' := (95, lv, [.int 2, .int ((xof hp).1 6 8)])) (hp' := hp) (q := (.iconst 2, 1, 0, 0, .null)) rfl (fun _ => rfl) (Nat.le_refl _) ?_
                  refine r_ifc (len := 3) (a := 106) (b := 0) (v0 := .null) (cn := .ne) (off := 11) rfl (fun _ => ?_) (fun c => absurd (zne c) d2)
                  refine q_lr (k := 1) (i := 0) (q := (.aload_n 0, 1, 0, 0, .null)) rfl (fun _ => rfl) l0 ?_
                  refine q_lr (k := 1) (i := 1) (q := (.aload_n 1, 1, 0, 0, .null)) rfl (fun _ => rfl) l1 ?_
                  exact r_call (ix := 6) (as := [.ref 2]) (rest := []) (rv := none) (hp' := hp2) (pc := 108) rfl xr38 rfl rfl rfl (h_kd J.1.1 (by decide)) (Nat.le_of_ble_eq_true rfl) z n2 K
          obtain ⟨hp2, J2, n2, st⟩ := step
          have e5 : (i + Int32.ofInt 1).toInt = i.toInt + 1 := xa1 (by show _ ≤ _ + (1 : Int); omega) (by show _ + (1 : Int) ≤ _; omega)
          obtain ⟨hp3, lv3, J3, n3, m0, m1, k3⟩ := yrr_loop hd n (hp := hp2) (lv := zs1 lv 2 (.int (i + Int32.ofInt 1))) (i := i + Int32.ofInt 1) J2 (by omega) (by omega) (by omega) (x_o1 l0 rfl rfl) (x_o1 l1 rfl rfl) (zs1_ld _ _ _)
          refine ⟨hp3, lv3, J3, Nat.le_trans n2 n3, m0, m1, fun r K => head2 (r_if (len := 3) (a := 117) (b := 0) (v0 := .null) (cn := .eq) (off := 61) rfl (fun c => absurd (zeq c) (by decide)) (fun _ => st r ?_))⟩
          refine q_inc (i := 2) (n := 1) (q := (.iinc 2 1, 3, 0, 0, .null)) rfl (fun _ => rfl) l2 (by decide) ?_
          exact r_s (fr' := (37, zs1 lv 2 (.int (i + Int32.ofInt 1)), [])) (hp' := hp2) (q := (.goto (-77), 3, 37, 0, .null)) rfl (fun _ => rfl) (Nat.le_refl _) (k3 r K)
        · rw [if_neg c3] at head2
          exact ⟨hp, lv, J, Nat.le_refl _, l0, l1, fun r K => head2 (r_if (len := 3) (a := 117) (b := 0) (v0 := .null) (cn := .eq) (off := 61) rfl (fun _ => K) (fun c => absurd rfl (zneq c)))⟩
end YRDR
end
section
/-! The class's rule: a new Rule. -/
set_option maxRecDepth 4000 in
theorem xg292 : zg zms 292 = some (zm292.2.2.1, zm292.2.2.2.1, zc292) := rfl
set_option maxRecDepth 4000 in
theorem xg25 : zg zms 25 = some (zm25.2.2.1, zm25.2.2.2.1, zc25) := rfl
theorem xr292 : zar 292 = (2, 200) := by decide +kernel
theorem xr25 : zar 25 = (1, 4) := by decide +kernel
section YNEW
variable {hp hp0 hp' : zHp} {ev : zEv} {d nL : Nat} {rt : Option FieldType} {cd : List (Option zEn)} {r : zRe} {pc : Nat} {lv : List (Nat × Value)}
theorem zup2 {h : Nat → zCl} {i : Nat} {a b : zCl} : zup (zup h i a) i b = zup h i b := by
  funext j
  unfold zup
  by_cases e : j = i
  · rw [if_pos e, if_pos e]
  · rw [if_neg e, if_neg e, if_neg e]
theorem zupo {h : Nat → zCl} {i j : Nat} {a : zCl} (e : ¬ j = i) : zup h i a j = h j := if_neg e
theorem zups {h : Nat → zCl} {i : Nat} {a : zCl} : zup h i a i = a := if_pos rfl
theorem h_len {len a b ix n : Nat} {rest : List Value} {v0 : Value} {f : Nat → Int32} (hq : zg cd pc = some (.arraylength, len, a, b, v0)) (h1 : ix < hp.1) (h2 : ix < zSC) (hc : hp.2 ix = .inl (0, n, .inl f)) (K : zR ev d nL rt cd (pc + 1, lv, .int (Int32.ofNat n) :: rest) hp r) : zR ev d nL rt cd (pc, lv, .ref ix :: rest) hp r := by
  refine r_s hq (fun call => ?_) (Nat.le_refl _) K
  show zAlen ztb ev (pc, lv, .ref ix :: rest) hp = _
  unfold zAlen
  dsimp only
  rw [if_pos h2, if_pos h1, hc]
  rfl
/-- a constructor's call whose answer is known -/
theorem r_callI {i len k ix n ci : Nat} {as st rest : List Value} {v : Value} {rv : Option Value} (hq : zg cd pc = some (.invokespecial i, len, k, 1, v)) (ha : zar k = (n, ci)) (hst : st.drop n = .ref ix :: rest) (htk : (st.take n).reverse = as) (hln : (st.take n).length = n) (hix : ix < zSC) (hsm : (rest.map fun v => v.category).sum ≤ 8) (hc : zCan d k (.ref ix :: as) hp (rv, hp')) (hm : hp.1 ≤ hp'.1) (K : zR ev d nL rt cd (pc + 3, lv, rv.toList ++ rest) hp' r) : zR ev d nL rt cd (pc, lv, st) hp r := by
  obtain ⟨n0, f0, K⟩ := K
  obtain ⟨fc, hc⟩ := hc
  refine ⟨n0 + 1, f0 + fc, fun f1 f2 h1 h2 => ?_⟩
  obtain ⟨g, rfl⟩ : ∃ g, f2 = g + 1 := ⟨f2 - 1, by omega⟩
  unfold zrun
  rw [hq]
  dsimp only
  have e : zdo zts ev (zcall zts zms f1 d) nL rt (.invokespecial i, len, k, 1, v) (pc, lv, st) hp = some (.inl ((pc + 3, lv, rv.toList ++ rest), hp')) := by
    show zCalI (zcall zts zms f1 d) k (zar k).1 (pc, lv, st) hp = _
    rw [ha]
    unfold zCalI
    dsimp only
    rw [hst]
    dsimp only
    rw [if_pos ⟨hln, hix, hsm⟩, htk, hc f1 (by omega)]
    rfl
  rw [e]
  dsimp only
  rw [if_pos hm]
  exact K f1 g (by omega) (by omega)
/-- Arrays.copyOf of the steps -/
theorem h_cpy {f : Nat → Int32} {L : Int32} (h7 : hp.2 7 = .inl (0, 400, .inl f)) (l7 : 7 < hp.1) (hN : hp.1 < zSC) (hL : 0 ≤ L.toInt ∧ L.toInt ≤ 400) (hd : 1 ≤ d) : ∃ (n : Nat) (g : Nat → Int32), (n ≤ 400 ∧ (n = L.toInt.toNat ∧ ∀ j, j < n → g j = f j)) ∧ zCan d 292 [.ref 7, .int L] hp (some (.ref hp.1), (hp.1 + 1, zup hp.2 hp.1 (.inl (0, n, .inl g)))) := by
  obtain ⟨e, rfl⟩ : ∃ e, d = e + 1 := ⟨d - 1, by omega⟩
  have e4 : (Int32.ofNat 400).toInt = 400 := rfl
  have l7s : 7 < zSC := by decide
  by_cases c : L = Int32.ofNat 400
  · refine ⟨400, f, ⟨Nat.le_refl _, by rw [c, e4]; rfl, fun _ _ => rfl⟩, zCan_body (nL := 3) (rt := some (.array .int)) (cd := zc292) xg292 ⟨Nat.le_of_ble_eq_true rfl, by decide⟩ (Nat.le_succ _) ?_⟩
    refine q_li (k := 1) (i := 1) (x := L) (q := (.iload_n 1, 1, 0, 0, .null)) rfl (fun _ => rfl) rfl ?_
    refine q_lr (k := 1) (i := 0) (x := 7) (q := (.aload_n 0, 1, 0, 0, .null)) rfl (fun _ => rfl) rfl ?_
    refine h_len (pc := 2) rfl l7 l7s h7 ?_
    refine r_ifc (len := 3) (a := 14) (b := 0) (v0 := .null) (cn := .ne) (off := 11) rfl (fun z => absurd c (znet z)) (fun _ => ?_)
    refine q_lr (k := 1) (i := 0) (x := 7) (q := (.aload_n 0, 1, 0, 0, .null)) rfl (fun _ => rfl) rfl ?_
    refine r_s (fr' := (10, lv_args 0 [.ref 7, .int L], [.ref hp.1])) (hp' := (hp.1 + 1, zup hp.2 hp.1 (.inl (0, 400, .inl f)))) (q := (.invokevirtual 316, 3, 0, 9, .null)) rfl (fun call => ?_) (Nat.le_succ _) ?_
    · show zCln (7, lv_args 0 [.ref 7, .int L], [.ref 7]) hp = _
      unfold zCln
      dsimp only
      rw [if_pos ⟨l7, l7s, hN, by decide⟩, h7]
      rfl
    refine r_s (fr' := (13, lv_args 0 [.ref 7, .int L], [.ref hp.1])) (hp' := (hp.1 + 1, zup hp.2 hp.1 (.inl (0, 400, .inl f)))) (q := (.checkcast 317, 3, 0, 0, .null)) rfl (fun call => ?_) (Nat.le_refl _) ?_
    · show zCst (10, lv_args 0 [.ref 7, .int L], [.ref hp.1]) (hp.1 + 1, zup hp.2 hp.1 (.inl (0, 400, .inl f))) = _
      unfold zCst
      dsimp only
      rw [if_pos ⟨Nat.lt_succ_self _, hN⟩, zups]
      rfl
    exact r_ret (q := (.areturn, 1, 0, 0, .null)) rfl rfl (fun _ => rfl)
  · have cl : L.toInt ≠ 400 := fun z => c (Int32.toInt_inj.mp (z.trans e4.symm))
    have n0 : ¬ L < 0 := fun z => by
      have z : L.toInt < (0 : Int) := Int32.lt_iff_toInt_lt.mp z
      omega
    have ln : L.toNatClampNeg ≤ 400 := by
      show L.toInt.toNat ≤ 400
      omega
    have lt : L < Int32.ofNat 400 := Int32.lt_iff_toInt_lt.mpr (by rw [e4]; omega)
    have n7 : ¬ 7 = hp.1 := by omega
    refine ⟨L.toNatClampNeg, va_cpy f (fun _ => 0) (0 : Int32).toNatClampNeg (0 : Int32).toNatClampNeg L.toNatClampNeg, ⟨ln, rfl, fun j hj => by
      show va_cpy f (fun _ => 0) 0 0 L.toNatClampNeg j = f j
      rw [pk_cpy_in (Nat.zero_le _) (by rw [Nat.zero_add]; exact hj), Nat.sub_zero, Nat.zero_add]⟩, zCan_body (nL := 3) (rt := some (.array .int)) (cd := zc292) xg292 ⟨Nat.le_of_ble_eq_true rfl, by decide⟩ (Nat.le_succ _) ?_⟩
    refine q_li (k := 1) (i := 1) (x := L) (q := (.iload_n 1, 1, 0, 0, .null)) rfl (fun _ => rfl) rfl ?_
    refine q_lr (k := 1) (i := 0) (x := 7) (q := (.aload_n 0, 1, 0, 0, .null)) rfl (fun _ => rfl) rfl ?_
    refine h_len (pc := 2) rfl l7 l7s h7 ?_
    refine r_ifc (len := 3) (a := 14) (b := 0) (v0 := .null) (cn := .ne) (off := 11) rfl (fun _ => ?_) (fun z => absurd (zne z) c)
    refine q_li (k := 1) (i := 1) (x := L) (q := (.iload_n 1, 1, 0, 0, .null)) rfl (fun _ => rfl) rfl ?_
    refine r_s (fr' := (17, lv_args 0 [.ref 7, .int L], [.ref hp.1])) (hp' := (hp.1 + 1, zup hp.2 hp.1 (.inl (0, L.toNatClampNeg, .inl (fun _ => 0))))) (q := (.newarray .int, 2, 0, 0, .null)) rfl (fun call => ?_) (Nat.le_succ _) ?_
    · show zNewa .int (15, lv_args 0 [.ref 7, .int L], [.int L]) hp = _
      unfold zNewa
      dsimp only
      rw [if_pos ⟨n0, Nat.le_trans ln (by decide), hN⟩]
      rfl
    have hc7 : (zup hp.2 hp.1 (.inl (0, L.toNatClampNeg, .inl (fun _ => 0)))) 7 = .inl (0, 400, .inl f) := (zupo n7).trans h7
    have hcN : (zup hp.2 hp.1 (.inl (0, L.toNatClampNeg, .inl (fun _ => 0)))) hp.1 = .inl (0, L.toNatClampNeg, .inl (fun _ => 0)) := zups
    have l7b : 7 < hp.1 + 1 := by omega
    refine q_sr (k := 1) (i := 2) (q := (.astore_n 2, 1, 0, 0, .null)) rfl (fun _ => rfl) (by decide) ?_
    have m0 : zld (zs1 (lv_args 0 [.ref 7, .int L]) 2 (.ref hp.1)) 0 = some (.ref 7) := rfl
    have m1 : zld (zs1 (lv_args 0 [.ref 7, .int L]) 2 (.ref hp.1)) 1 = some (.int L) := rfl
    have m2 : zld (zs1 (lv_args 0 [.ref 7, .int L]) 2 (.ref hp.1)) 2 = some (.ref hp.1) := zs1_ld _ _ _
    generalize zs1 (lv_args 0 [.ref 7, .int L]) 2 (.ref hp.1) = lw at *
    refine q_lr (k := 1) (i := 0) (q := (.aload_n 0, 1, 0, 0, .null)) rfl (fun _ => rfl) m0 ?_
    refine r_s (fr' := (20, lw, [.int 0, .ref 7])) (hp' := (hp.1 + 1, zup hp.2 hp.1 (.inl (0, L.toNatClampNeg, .inl (fun _ => 0))))) (q := (.iconst 0, 1, 0, 0, .null)) rfl (fun _ => rfl) (Nat.le_refl _) ?_
    refine q_lr (k := 1) (i := 2) (q := (.aload_n 2, 1, 0, 0, .null)) rfl (fun _ => rfl) m2 ?_
    refine r_s (fr' := (22, lw, [.int 0, .ref hp.1, .int 0, .ref 7])) (hp' := (hp.1 + 1, zup hp.2 hp.1 (.inl (0, L.toNatClampNeg, .inl (fun _ => 0))))) (q := (.iconst 0, 1, 0, 0, .null)) rfl (fun _ => rfl) (Nat.le_refl _) ?_
    refine q_lr (k := 1) (i := 0) (q := (.aload_n 0, 1, 0, 0, .null)) rfl (fun _ => rfl) m0 ?_
    refine h_len (pc := 23) rfl l7b l7s hc7 ?_
    refine q_li (k := 1) (i := 1) (q := (.iload_n 1, 1, 0, 0, .null)) rfl (fun _ => rfl) m1 ?_
    refine r_s (fr' := (28, lw, [.int L, .int 0, .ref hp.1, .int 0, .ref 7])) (hp' := (hp.1 + 1, zup hp.2 hp.1 (.inl (0, L.toNatClampNeg, .inl (fun _ => 0))))) (q := (.invokestatic 304, 3, 0, 3, .null)) rfl (fun call => ?_) (Nat.le_refl _) ?_
    · show zMin (25, lw, [.int L, .int (Int32.ofNat 400), .int 0, .ref hp.1, .int 0, .ref 7]) _ = _
      unfold zMin
      dsimp only
      rw [if_pos (Nat.le_of_ble_eq_true rfl), if_pos lt]
      rfl
    refine r_s (fr' := (31, lw, [])) (hp' := (hp.1 + 1, zup hp.2 hp.1 (.inl (0, L.toNatClampNeg, .inl (va_cpy f (fun _ => 0) (0 : Int32).toNatClampNeg (0 : Int32).toNatClampNeg L.toNatClampNeg))))) (q := (.invokestatic 150, 3, 0, 0, .null)) rfl (fun call => ?_) (Nat.le_refl _) ?_
    · show zCpy (28, lw, [.int L, .int 0, .ref hp.1, .int 0, .ref 7]) (hp.1 + 1, zup hp.2 hp.1 (.inl (0, L.toNatClampNeg, .inl (fun _ => 0)))) = _
      unfold zCpy
      dsimp only
      rw [if_pos ⟨l7b, l7s, Nat.lt_succ_self _, hN, n7, by decide, by decide, n0⟩, hc7, hcN]
      show (if (0 : Int32).toNatClampNeg + L.toNatClampNeg ≤ 400 ∧ (0 : Int32).toNatClampNeg + L.toNatClampNeg ≤ L.toNatClampNeg ∧ (([] : List Value).map fun v => v.category).sum ≤ 8 then zn (28 + 3) lw [] (hp.1 + 1, zup (zup hp.2 hp.1 (.inl (0, L.toNatClampNeg, .inl (fun _ => 0)))) hp.1 (.inl (0, L.toNatClampNeg, .inl (va_cpy f (fun _ => 0) (0 : Int32).toNatClampNeg (0 : Int32).toNatClampNeg L.toNatClampNeg)))) else none) = _
      rw [if_pos ⟨by rw [show (0 : Int32).toNatClampNeg = 0 from rfl]; omega, by rw [show (0 : Int32).toNatClampNeg = 0 from rfl]; omega, by decide⟩, zup2]
      rfl
    refine q_lr (k := 1) (i := 2) (q := (.aload_n 2, 1, 0, 0, .null)) rfl (fun _ => rfl) m2 ?_
    exact r_ret (q := (.areturn, 1, 0, 0, .null)) rfl rfl (fun _ => rfl)
/-- Rule's constructor -/
theorem h_ini {a b : Nat} (ha : a < hp.1) (h4 : hp.2 a = .inr (4, [.null, .null])) (hN : hp.1 < zSC) (hd : 1 ≤ d) : zCan d 25 [.ref a, .ref b] hp (none, (hp.1 + 1, zup (zup hp.2 hp.1 (.inl (3, 64, .inr (.inl (fun _ => 0))))) a (.inr (4, [.ref b, .ref hp.1])))) := by
  obtain ⟨e, rfl⟩ : ∃ e, d = e + 1 := ⟨d - 1, by omega⟩
  have na : ¬ a = hp.1 := by omega
  have as : a < zSC := Nat.lt_trans ha hN
  refine zCan_body (nL := 2) (rt := none) (cd := zc25) xg25 ⟨Nat.le_of_ble_eq_true rfl, by decide⟩ (Nat.le_succ _) ?_
  refine q_lr (k := 1) (i := 0) (x := a) (q := (.aload_n 0, 1, 0, 0, .null)) rfl (fun _ => rfl) rfl ?_
  refine r_s (fr' := (4, lv_args 0 [.ref a, .ref b], [])) (hp' := hp) (q := (.invokespecial 3, 3, 0, 0, .null)) rfl (fun _ => rfl) (Nat.le_refl _) ?_
  refine q_lr (k := 1) (i := 0) (x := a) (q := (.aload_n 0, 1, 0, 0, .null)) rfl (fun _ => rfl) rfl ?_
  refine r_s (fr' := (7, lv_args 0 [.ref a, .ref b], [.int 64, .ref a])) (hp' := hp) (q := (.bipush 64, 2, 0, 0, .null)) rfl (fun _ => rfl) (Nat.le_refl _) ?_
  refine r_s (fr' := (9, lv_args 0 [.ref a, .ref b], [.ref hp.1, .ref a])) (hp' := (hp.1 + 1, zup hp.2 hp.1 (.inl (3, 64, .inr (.inl (fun _ => 0)))))) (q := (.newarray .long, 2, 0, 0, .null)) rfl (fun call => ?_) (Nat.le_succ _) ?_
  · show zNewa .long (7, lv_args 0 [.ref a, .ref b], [.int 64, .ref a]) hp = _
    unfold zNewa
    dsimp only
    rw [if_pos ⟨by decide, by decide, hN⟩]
    rfl
  refine r_put (pc := 9) rfl ⟨Nat.lt_succ_of_lt ha, as, rfl⟩ ((zupo na).trans h4) (by decide) ?_
  refine q_lr (k := 1) (i := 0) (x := a) (q := (.aload_n 0, 1, 0, 0, .null)) rfl (fun _ => rfl) rfl ?_
  refine q_lr (k := 1) (i := 1) (x := b) (q := (.aload_n 1, 1, 0, 0, .null)) rfl (fun _ => rfl) rfl ?_
  refine r_put (pc := 14) rfl ⟨Nat.lt_succ_of_lt ha, as, rfl⟩ zups (Nat.le_of_ble_eq_true rfl) ?_
  dsimp only
  rw [zup2]
  exact r_ret (q := (.return_, 1, 0, 0, .null)) rfl rfl (fun _ => rfl)
/-- three cells are new: a Rule, its steps, its stack -/
def yNw (hp hp5 : zHp) : Prop := ∃ (n : Nat) (g : Nat → Int32) (f : Nat → Int64), (n ≤ 400 ∧ (n = ((xof hp).1 6 1).toInt.toNat ∧ ∀ j, j < n → g j = (xof hp).1 7 j)) ∧ hp5.1 = hp.1 + 3 ∧ hp5.2 hp.1 = .inr (4, [.ref (hp.1 + 1), .ref (hp.1 + 2)]) ∧ hp5.2 (hp.1 + 1) = .inl (0, n, .inl g) ∧ hp5.2 (hp.1 + 2) = .inl (3, 64, .inr (.inl f)) ∧ ∀ i, i ≠ hp.1 → i ≠ hp.1 + 1 → i ≠ hp.1 + 2 → hp5.2 i = hp.2 i
theorem h_tail (hd : 8 ≤ d) (H : yH0 hp) (hN : hp.1 + 3 ≤ zSC) (l0 : zld lv 0 = some (.ref 6)) (l1 : zld lv 1 = some (.ref 2)) : ∃ x : zRe, zR none d 3 yRT zc33 (117, lv, []) hp x ∧ hp.1 ≤ x.2.1 ∧ (x = (some .null, hp) ∨ ∃ hp5, x = (some (.ref hp.1), hp5) ∧ yNw hp hp5) := by
  have head : ∀ {r : zRe}, zR none d 3 yRT zc33 (121, lv, [.int (if (xof hp).1 2 4 = 0 then 1 else 0)]) hp r → zR none d 3 yRT zc33 (117, lv, []) hp r := by
    intro r K
    refine q_lr (k := 1) (i := 1) (q := (.aload_n 1, 1, 0, 0, .null)) rfl (fun _ => rfl) l1 ?_
    exact r_call (ix := 2) (as := []) (rest := []) (rv := some (.int (if (xof hp).1 2 4 = 0 then 1 else 0))) (hp' := hp) (pc := 118) rfl xr51 rfl rfl rfl (h_kd H (by decide)) (Nat.le_of_ble_eq_true rfl) (h_snd H (by omega)) (Nat.le_refl _) K
  by_cases c3 : (xof hp).1 2 4 = 0
  · rw [if_pos c3] at head
    obtain ⟨i1, i2, -, f7, h7⟩ := xta_ok H (show xta 7 0 400 = true by decide)
    have n7 : ¬ 7 = hp.1 := by omega
    obtain ⟨j1, j2, fs6, x6, h6, k6⟩ := xti_ok H (show xti 6 5 1 = true by decide)
    obtain ⟨-, -, fs6b, h6b, k6b⟩ := xtr_ok H (show xtr 6 5 0 7 = true by decide)
    have n6 : ¬ 6 = hp.1 := by omega
    have b6 := xT_of H 6 1 (0, 400) rfl
    have e6 : (xof hp).1 6 1 = x6 := by
      unfold xof
      dsimp only
      rw [h6]
      dsimp only
      rw [k6]
    rw [e6] at b6
    have b61 : (0 : Int) ≤ x6.toInt := b6.1
    have b62 : x6.toInt ≤ 400 := b6.2
    have hN1 : hp.1 < zSC := by omega
    obtain ⟨n, g, hn, z⟩ := h_cpy (d := d) (hp := (hp.1 + 1, zup hp.2 hp.1 (.inr (4, [.null, .null])))) (f := f7) (L := x6) ((zupo n7).trans h7) (by show 7 < hp.1 + 1; omega) (by show hp.1 + 1 < zSC; omega) ⟨b61, b62⟩ (by omega)
    have e7 : (xof hp).1 7 = f7 := by
      funext j
      unfold xof
      dsimp only
      rw [h7]
    have hn : n ≤ 400 ∧ (n = ((xof hp).1 6 1).toInt.toNat ∧ ∀ j, j < n → g j = (xof hp).1 7 j) := ⟨hn.1, by rw [e6]; exact hn.2.1, fun j hj => by rw [e7]; exact hn.2.2 j hj⟩
    have z2 := h_ini (d := d) (hp := (hp.1 + 2, zup (zup hp.2 hp.1 (.inr (4, [.null, .null]))) (hp.1 + 1) (.inl (0, n, .inl g)))) (a := hp.1) (b := hp.1 + 1) (by show hp.1 < hp.1 + 2; omega) ((zupo (by omega)).trans zups) (by show hp.1 + 2 < zSC; omega) (by omega)
    refine ⟨(some (.ref hp.1), (hp.1 + 3, zup (zup (zup (zup hp.2 hp.1 (.inr (4, [.null, .null]))) (hp.1 + 1) (.inl (0, n, .inl g))) (hp.1 + 2) (.inl (3, 64, .inr (.inl (fun _ => 0))))) hp.1 (.inr (4, [.ref (hp.1 + 1), .ref (hp.1 + 2)])))), head (r_if (len := 3) (a := 145) (b := 0) (v0 := .null) (cn := .eq) (off := 24) rfl (fun c => absurd (zeq c) (by decide)) (fun _ => ?_)), Nat.le_add_right _ 3, Or.inr ⟨_, rfl, n, g, fun _ => 0, hn, rfl, zups, ((zupo (by omega)).trans (zupo (by omega))).trans zups, (zupo (by omega)).trans zups, fun i a1 a2 a3 => (((zupo a1).trans (zupo a3)).trans (zupo a2)).trans (zupo a1)⟩⟩
    · refine r_s (fr' := (127, lv, [.ref hp.1])) (hp' := (hp.1 + 1, zup hp.2 hp.1 (.inr (4, [.null, .null])))) (q := (.new 59, 3, 4, 0, .null)) rfl (fun call => ?_) (Nat.le_succ _) ?_
      · show zNew 4 zdf4 (124, lv, []) hp = _
        unfold zNew
        rw [if_pos hN1]
        rfl
      refine r_s (fr' := (128, lv, [.ref hp.1, .ref hp.1])) (hp' := (hp.1 + 1, zup hp.2 hp.1 (.inr (4, [.null, .null])))) (q := (.dup, 1, 0, 0, .null)) rfl (fun _ => rfl) (Nat.le_refl _) ?_
      refine q_lr (k := 1) (i := 0) (q := (.aload_n 0, 1, 0, 0, .null)) rfl (fun _ => rfl) l0 ?_
      refine r_get (pc := 129) (ix := 6) (fs := fs6b) rfl (by decide) ⟨by show 6 < hp.1 + 1; omega, j2⟩ ((zupo n6).trans h6b) k6b ?_
      refine q_lr (k := 1) (i := 0) (q := (.aload_n 0, 1, 0, 0, .null)) rfl (fun _ => rfl) l0 ?_
      refine r_get (pc := 133) (ix := 6) (fs := fs6) rfl (by decide) ⟨by show 6 < hp.1 + 1; omega, j2⟩ ((zupo n6).trans h6) k6 ?_
      refine r_callS (as := [.ref 7, .int x6]) (rest := [.ref hp.1, .ref hp.1]) (rv := some (.ref (hp.1 + 1))) (pc := 136) rfl xr292 rfl rfl rfl (Nat.le_of_ble_eq_true rfl) z (Nat.le_succ _) ?_
      refine r_callI (ix := hp.1) (as := [.ref (hp.1 + 1)]) (rest := [.ref hp.1]) (rv := none) (pc := 139) rfl xr25 rfl rfl rfl hN1 (Nat.le_of_ble_eq_true rfl) z2 (Nat.le_succ _) ?_
      refine r_s (fr' := (146, lv, [.ref hp.1])) (q := (.goto 4, 3, 146, 0, .null)) rfl (fun _ => rfl) (Nat.le_refl _) ?_
      exact r_ret (q := (.areturn, 1, 0, 0, .null)) rfl rfl (fun _ => rfl)
  · rw [if_neg c3] at head
    refine ⟨(some .null, hp), head (r_if (len := 3) (a := 145) (b := 0) (v0 := .null) (cn := .eq) (off := 24) rfl (fun _ => ?_) (fun c => absurd rfl (zneq c))), Nat.le_refl _, Or.inl rfl⟩
    refine r_s (fr' := (146, lv, [.null])) (hp' := hp) (q := (.aconst_null, 1, 0, 0, .null)) rfl (fun _ => rfl) (Nat.le_refl _) ?_
    exact r_ret (q := (.areturn, 1, 0, 0, .null)) rfl rfl (fun _ => rfl)
end YNEW
end
section
/-! The class's rule: its spec. -/
set_option maxRecDepth 4000 in
theorem xg126 : zg zms 126 = some (zm126.2.2.1, zm126.2.2.2.1, zc126) := rfl
theorem xr127 : zar 127 = (0, 10) := by decide +kernel
section YRUS
variable {hp hp0 hp' : zHp} {d : Nat}
theorem yokc_le {h h' : Nat} (k : h ≤ h') {c : yC} {x : zCl} (q : yokc h c x) : yokc h' c x := by
  unfold yokc at q ⊢
  split at q
  · exact q
  · split at q
    · exact q
    · obtain ⟨f, e, b⟩ := q
      refine ⟨f, e, fun j hj => (b j hj).imp_right (fun z => ?_)⟩
      obtain ⟨k2, e2, l2⟩ := z
      exact ⟨k2, e2, Nat.lt_of_lt_of_le l2 k⟩
    · exact q
    · exact q
  · exact q
theorem yH0_nw {hp5 : zHp} {c : Nat} (H : yH0 hp) (hc : hp.1 = 88 + 3 * c) (h9 : hp.1 + 3 ≤ 1000) (h : yNw hp hp5) : yH0 hp5 := by
  obtain ⟨n, g, f, hn, e1, e2, e3, e4, e5⟩ := h
  refine ⟨by rw [e1]; omega, by rw [e1]; exact h9, fun i hi => ?_⟩
  rw [e1] at hi ⊢
  by_cases i0 : i = hp.1
  · rw [i0, e2, hc, yty_r0]
    refine ⟨_, rfl, rfl, fun j t ht => ?_⟩
    match j, ht with
    | 0, ht =>
      have ht : some ((2, ((88 + 3 * c : Nat) : Int) + 1, ((88 + 3 * c : Nat) : Int) + 1) : Nat × Int × Int) = some t := ht
      cases ht
      exact ⟨_, rfl, 88 + 3 * c + 1, rfl, (by show ((88 + 3 * c : Nat) : Int) + 1 ≤ ((88 + 3 * c + 1 : Nat) : Int); omega), (by show ((88 + 3 * c + 1 : Nat) : Int) ≤ ((88 + 3 * c : Nat) : Int) + 1; omega)⟩
    | 1, ht =>
      have ht : some ((2, ((88 + 3 * c : Nat) : Int) + 2, ((88 + 3 * c : Nat) : Int) + 2) : Nat × Int × Int) = some t := ht
      cases ht
      exact ⟨_, rfl, 88 + 3 * c + 2, rfl, (by show ((88 + 3 * c : Nat) : Int) + 2 ≤ ((88 + 3 * c + 2 : Nat) : Int); omega), (by show ((88 + 3 * c + 2 : Nat) : Int) ≤ ((88 + 3 * c : Nat) : Int) + 2; omega)⟩
    | j + 2, ht => cases ht
  · by_cases i1 : i = hp.1 + 1
    · rw [i1, e3, hc, show 88 + 3 * c + 1 = 89 + 3 * c by omega, yty_r1]
      exact ⟨n, g, hn.1, rfl⟩
    · by_cases i2 : i = hp.1 + 2
      · rw [i2, e4, hc, show 88 + 3 * c + 2 = 90 + 3 * c by omega, yty_r2]
        exact ⟨f, rfl⟩
      · rw [e5 i i0 i1 i2]
        exact yokc_le (by omega) (H.2.2 i (by omega))
theorem yrd_eq {a b : zHp} {i : Nat} {j : Int} (e : a.2 i = b.2 i) (h : j < 0 → (i < a.1 ↔ i < b.1)) : yrd a i j = yrd b i j := by
  unfold yrd
  rw [e]
  cases b.2 i with
  | inr q => rfl
  | inl q =>
    obtain ⟨t, n, x⟩ := q
    dsimp only
    by_cases hj : j < 0
    · rw [if_pos hj, if_pos hj]
      by_cases ha : i < a.1
      · rw [if_pos ha, if_pos ((h hj).mp ha)]
      · rw [if_neg ha, if_neg (fun z => ha ((h hj).mpr z))]
    · rw [if_neg hj, if_neg hj]
abbrev yMS : yM := [(6, 6, 1), (6, 6, 3), (6, 6, 4), (6, 6, 5), (6, 6, 6), (6, 6, 7), (6, 6, 8)]
abbrev yz7 (m : xS) : xS := xu (xu (xu (xu (xu (xu (xu m 6 1 0) 6 3 0) 6 4 0) 6 5 0) 6 6 0) 6 7 0) 6 8 0
theorem yz7_T {m : xS} (h : xT m) : xT (yz7 m) ∧ xfr yMS m (yz7 m) := by
  have t1 := xT_c h (i := 6) (j := 1) (v := 0) (lo := 0) (hi := 400) rfl (by decide) (by decide)
  have t2 := xT_c t1 (i := 6) (j := 3) (v := 0) (lo := 0) (hi := 400) rfl (by decide) (by decide)
  have t3 := xT_c t2 (i := 6) (j := 4) (v := 0) (lo := -2147483648) (hi := 2147483647) rfl (by decide) (by decide)
  have t4 := xT_c t3 (i := 6) (j := 5) (v := 0) (lo := -2147483648) (hi := 2147483647) rfl (by decide) (by decide)
  have t5 := xT_c t4 (i := 6) (j := 6) (v := 0) (lo := -2147483648) (hi := 2147483647) rfl (by decide) (by decide)
  have t6 := xT_c t5 (i := 6) (j := 7) (v := 0) (lo := -2147483648) (hi := 2147483647) rfl (by decide) (by decide)
  have t7 := xT_c t6 (i := 6) (j := 8) (v := 0) (lo := -2147483648) (hi := 2147483647) rfl (by decide) (by decide)
  exact ⟨t7, xfr_t (xfr_u (by decide)) (xfr_t (xfr_u (by decide)) (xfr_t (xfr_u (by decide)) (xfr_t (xfr_u (by decide)) (xfr_t (xfr_u (by decide)) (xfr_t (xfr_u (by decide)) (xfr_u (by decide)))))))⟩
/-- E where its cells are left alone -/
theorem yE_F {M : yM} {a b : zHp} (h9 : yinM M 999 0 = false) (hd : ydj M yFP = true) (f : yF M a b) (h : yEA yAr a) : yEA yAr b := yEA_F yAr_F a b h (f.2.1 h9) (fun i j k => f.2.2 i j (Or.inr (ydj_ok hd i j k)))
theorem h_rr (hd : 9 ≤ d) (J : yJ hp0 hp) (hN : hp.1 + 3 ≤ zSC) : ∃ (x : zRe) (hp2 : zHp), yJ hp0 hp2 ∧ zCan d 33 [.ref 6, .ref 2] hp x ∧ hp.1 ≤ x.2.1 ∧ (x = (some .null, hp2) ∨ ∃ hp5, x = (some (.ref hp2.1), hp5) ∧ yNw hp2 hp5) := by
  obtain ⟨e, rfl⟩ : ∃ e, d = e + 1 := ⟨d - 1, by omega⟩
  obtain ⟨hT, fr⟩ := yz7_T (xT_of J.1.1)
  have fy : yF yMS hp (xW hp (yz7 (xof hp))) := xF fr.2 (fun _ _ _ => rfl)
  have J1 : yJ hp0 (xW hp (yz7 (xof hp))) := ⟨⟨xH J.1.1 hT (fun _ _ _ => rfl), yE_F rfl (by decide) fy J.1.2⟩, (fy.2.2 2 0 (Or.inr rfl)).trans J.2.1, yF_trans J.2.2 (yF_le (by decide) fy)⟩
  obtain ⟨hp2, lv2, J2, n2, m0, m1, k2⟩ := yrr_loop (d := e) (by omega) 402 (hp := xW hp (yz7 (xof hp))) (lv := zs1 (lv_args 0 [.ref 6, .ref 2]) 2 (.int 0)) (i := 0) J1 (by decide) (by decide) (by decide) rfl rfl (zs1_ld _ _ _)
  have n1 : hp.1 = hp0.1 := J.2.2.2.1 rfl
  have n3 : hp2.1 = hp0.1 := J2.2.2.2.1 rfl
  obtain ⟨x, zx, nx, hx⟩ := h_tail (d := e) (by omega) J2.1.1 (by omega) m0 m1
  refine ⟨x, hp2, J2, zCan_body (nL := 3) (rt := yRT) (cd := zc33) xg33 ⟨Nat.le_of_ble_eq_true rfl, by decide⟩ (by omega) ?_, by omega, hx⟩
  have hK : zR none e 3 yRT zc33 (0, lv_args 0 [.ref 6, .ref 2], []) (xW hp (xof hp)) x := by
    refine q_lr (k := 1) (i := 0) (x := 6) (q := (.aload_n 0, 1, 0, 0, .null)) rfl (fun _ => rfl) rfl ?_
    refine r_s (fr' := (2, lv_args 0 [.ref 6, .ref 2], [.int 0, .ref 6])) (hp' := xW hp (xof hp)) (q := (.iconst 0, 1, 0, 0, .null)) rfl (fun _ => rfl) (Nat.le_refl _) ?_
    refine r_pi J.1.1 (pc := 2) rfl (by decide) rfl rfl ?_
    refine q_lr (k := 1) (i := 0) (x := 6) (q := (.aload_n 0, 1, 0, 0, .null)) rfl (fun _ => rfl) rfl ?_
    refine r_s (fr' := (7, lv_args 0 [.ref 6, .ref 2], [.int 0, .ref 6])) (hp' := xW hp _) (q := (.iconst 0, 1, 0, 0, .null)) rfl (fun _ => rfl) (Nat.le_refl _) ?_
    refine r_pi J.1.1 (pc := 7) rfl (by decide) rfl rfl ?_
    refine q_lr (k := 1) (i := 0) (x := 6) (q := (.aload_n 0, 1, 0, 0, .null)) rfl (fun _ => rfl) rfl ?_
    refine r_s (fr' := (12, lv_args 0 [.ref 6, .ref 2], [.int 0, .ref 6])) (hp' := xW hp _) (q := (.iconst 0, 1, 0, 0, .null)) rfl (fun _ => rfl) (Nat.le_refl _) ?_
    refine r_pi J.1.1 (pc := 12) rfl (by decide) rfl rfl ?_
    refine q_lr (k := 1) (i := 0) (x := 6) (q := (.aload_n 0, 1, 0, 0, .null)) rfl (fun _ => rfl) rfl ?_
    refine r_s (fr' := (17, lv_args 0 [.ref 6, .ref 2], [.int 0, .ref 6])) (hp' := xW hp _) (q := (.iconst 0, 1, 0, 0, .null)) rfl (fun _ => rfl) (Nat.le_refl _) ?_
    refine r_pi J.1.1 (pc := 17) rfl (by decide) rfl rfl ?_
    refine q_lr (k := 1) (i := 0) (x := 6) (q := (.aload_n 0, 1, 0, 0, .null)) rfl (fun _ => rfl) rfl ?_
    refine r_s (fr' := (22, lv_args 0 [.ref 6, .ref 2], [.int 0, .ref 6])) (hp' := xW hp _) (q := (.iconst 0, 1, 0, 0, .null)) rfl (fun _ => rfl) (Nat.le_refl _) ?_
    refine r_pi J.1.1 (pc := 22) rfl (by decide) rfl rfl ?_
    refine q_lr (k := 1) (i := 0) (x := 6) (q := (.aload_n 0, 1, 0, 0, .null)) rfl (fun _ => rfl) rfl ?_
    refine r_s (fr' := (27, lv_args 0 [.ref 6, .ref 2], [.int 0, .ref 6])) (hp' := xW hp _) (q := (.iconst 0, 1, 0, 0, .null)) rfl (fun _ => rfl) (Nat.le_refl _) ?_
    refine r_pi J.1.1 (pc := 27) rfl (by decide) rfl rfl ?_
    refine q_lr (k := 1) (i := 0) (x := 6) (q := (.aload_n 0, 1, 0, 0, .null)) rfl (fun _ => rfl) rfl ?_
    refine r_s (fr' := (32, lv_args 0 [.ref 6, .ref 2], [.int 0, .ref 6])) (hp' := xW hp _) (q := (.iconst 0, 1, 0, 0, .null)) rfl (fun _ => rfl) (Nat.le_refl _) ?_
    refine r_pi J.1.1 (pc := 32) rfl (by decide) rfl rfl ?_
    refine r_s (fr' := (36, lv_args 0 [.ref 6, .ref 2], [.int 0])) (hp' := xW hp _) (q := (.iconst 0, 1, 0, 0, .null)) rfl (fun _ => rfl) (Nat.le_refl _) ?_
    exact q_si (k := 1) (i := 2) (q := (.istore_n 2, 1, 0, 0, .null)) rfl (fun _ => rfl) (by decide) (k2 x zx)
  rw [xW_of] at hK
  exact hK
theorem yty13 : yty 13 = (1, 4, 6, 0, []) := rfl
theorem yty0 : (yty 0).1 = 0 ∧ (yty 0).2.1 = 10 ∧ (yty 0).2.2.2.2[8]? = some (0, 0, 6) := ⟨rfl, rfl, rfl⟩
theorem yrul_s : yTs (yEA yAr) 12 ys646 := by
  intro d hd hp r as H gg hl hlen
  have has := yas1 (c := 0) gg hlen
  subst has
  obtain ⟨e, rfl⟩ : ∃ e, d = e + 1 := ⟨d - 1, by omega⟩
  have b8 := xT_of H.1 0 8 (0, 6) rfl
  have b81 : (0 : Int) ≤ ((xof hp).1 0 8).toInt := b8.1
  have b82 : ((xof hp).1 0 8).toInt ≤ 6 := b8.2
  have hN : (hp.1 : Int) = 88 + 3 * ((xof hp).1 0 8).toInt := H.2.2.2
  have one : ∀ {x : Int32} {q : zHp}, (yH0 q ∧ yEA yAr q) → yF ys646.2.2.2.2 hp q → yPo (yEA yAr) ys646.2.2.2.2 hp r ys646.2.2.1.1 ys646.2.2.2.1 (some (.int x), q) := fun {x q} a b => ⟨a, b, _, List.mem_cons_self, (fun _ => x.toInt), fun s hs => absurd hs (Nat.not_lt_zero _), Nat.zero_le _, yany1⟩
  have head : ∀ {r : zRe}, zR none e 2 (some .int) zc126 (6, lv_args 0 [.ref 0], [.int 6, .int ((xof hp).1 0 8)]) hp r → zR none e 2 (some .int) zc126 (0, lv_args 0 [.ref 0], []) hp r := by
    intro r K
    refine q_lr (k := 1) (i := 0) (x := 0) (q := (.aload_n 0, 1, 0, 0, .null)) rfl (fun _ => rfl) rfl ?_
    refine h_gi H.1 (ix := 0) (pc := 1) rfl (by decide) (by decide) ?_
    exact r_s (fr' := (6, lv_args 0 [.ref 0], [.int 6, .int ((xof hp).1 0 8)])) (hp' := hp) (q := (.bipush 6, 2, 0, 0, .null)) rfl (fun _ => rfl) (Nat.le_refl _) K
  by_cases c : zcmp .lt ((xof hp).1 0 8) 6 = true
  · have c6 : ((xof hp).1 0 8).toInt < 6 := zt c
    obtain ⟨x1, z1, H1, f1, q1, hq1, r1, a1, a2, g1⟩ := yt645 (yEA_F yAr_F) e (by omega) hp r [.ref 0] H gg (by decide) rfl
    have hq1 : q1 ∈ ys645.2.2.2.1 := hq1
    rcases List.mem_cons.mp hq1 with rfl | hq1
    · obtain ⟨x10, hp1⟩ := x1
      have e0 : x10 = none := by
        cases x10 with
        | none => rfl
        | some v => exact g1.2.2.2.2.elim
      subst e0
      have J1 : yJ hp hp1 := ⟨H1, yat_r g1 (List.mem_of_getElem? (i := 0) rfl), yF_le (by decide) f1⟩
      have n1 : hp1.1 = hp.1 := f1.2.1 rfl
      have s1000 : zSC = 1000 := rfl
      obtain ⟨x2, hp2, J2, z2, n2, hx⟩ := h_rr (d := e) (by omega) J1 (by omega)
      have n22 : hp2.1 = hp.1 := J2.2.2.2.1 rfl
      have e28 : (xof hp2).1 0 8 = (xof hp).1 0 8 := by rw [xof_rd, xof_rd, J2.2.2.2.2 0 ((8 : Nat) : Int) (Or.inr rfl)]
      have body : ∀ {r : zRe}, zR none e 2 (some .int) zc126 (26, lv_args 0 [.ref 0], x2.1.toList) x2.2 r → zR none e 2 (some .int) zc126 (0, lv_args 0 [.ref 0], []) hp r := by
        intro r K
        refine head (r_ifc (len := 3) (a := 11) (b := 0) (v0 := .null) (cn := .lt) (off := 5) rfl (fun _ => ?_) (fun z => by rw [c] at z; cases z))
        refine q_lr (k := 1) (i := 0) (x := 0) (q := (.aload_n 0, 1, 0, 0, .null)) rfl (fun _ => rfl) rfl ?_
        refine r_call (ix := 0) (as := []) (rest := []) (rv := none) (hp' := hp1) (pc := 12) rfl xr127 rfl rfl rfl (h_kd H.1 (by decide)) (Nat.le_of_ble_eq_true rfl) z1 (by omega) ?_
        refine q_lr (k := 1) (i := 0) (x := 0) (q := (.aload_n 0, 1, 0, 0, .null)) rfl (fun _ => rfl) rfl ?_
        refine h_gr J1.1.1 (ix := 0) (c := 6) (pc := 16) rfl (by decide) (by decide) ?_
        refine q_lr (k := 1) (i := 0) (x := 0) (q := (.aload_n 0, 1, 0, 0, .null)) rfl (fun _ => rfl) rfl ?_
        refine h_gr J1.1.1 (ix := 0) (c := 2) (pc := 20) rfl (by decide) (by decide) ?_
        refine r_call (ix := 6) (as := [.ref 2]) (rest := []) (rv := x2.1) (hp' := x2.2) (pc := 23) rfl xr33 rfl rfl rfl (h_kd J1.1.1 (by decide)) (Nat.le_of_ble_eq_true rfl) z2 n2 ?_
        rw [List.append_nil]
        exact K
      rcases hx with rfl | ⟨hp5, rfl, nw⟩
      · refine ⟨(some (.int (-2 - (xof hp2).1 2 4)), hp2), zCan_body (nL := 2) (rt := some .int) (cd := zc126) xg126 ⟨Nat.le_of_ble_eq_true rfl, by decide⟩ (by show hp.1 ≤ hp2.1; omega) (body ?_), one J2.1 (yF_le (by decide) J2.2.2)⟩
        refine r_s (fr' := (27, zs1 (lv_args 0 [.ref 0]) 1 .null, [])) (hp' := hp2) (q := (.astore_n 1, 1, 0, 0, .null)) rfl (fun _ => rfl) (Nat.le_refl _) ?_
        refine r_s (fr' := (28, zs1 (lv_args 0 [.ref 0]) 1 .null, [.null])) (hp' := hp2) (q := (.aload_n 1, 1, 0, 0, .null)) rfl (fun _ => rfl) (Nat.le_refl _) ?_
        refine r_s (fr' := (31, zs1 (lv_args 0 [.ref 0]) 1 .null, [])) (hp' := hp2) (q := (.ifnonnull 14, 3, 42, 0, .null)) rfl (fun _ => rfl) (Nat.le_refl _) ?_
        refine r_s (fr' := (33, zs1 (lv_args 0 [.ref 0]) 1 .null, [.int (-2)])) (hp' := hp2) (q := (.bipush (-2), 2, 0, 0, .null)) rfl (fun _ => rfl) (Nat.le_refl _) ?_
        refine q_lr (k := 1) (i := 0) (x := 0) (q := (.aload_n 0, 1, 0, 0, .null)) rfl (fun _ => rfl) rfl ?_
        refine h_gr J2.1.1 (ix := 0) (c := 2) (pc := 34) rfl (by decide) (by decide) ?_
        refine h_gi J2.1.1 (ix := 2) (pc := 37) rfl (by decide) (by decide) ?_
        refine r_s (fr' := (41, zs1 (lv_args 0 [.ref 0]) 1 .null, [.int (-2 - (xof hp2).1 2 4)])) (hp' := hp2) (q := (.isub, 1, 0, 0, .null)) rfl (fun _ => rfl) (Nat.le_refl _) ?_
        exact q_ri (q := (.ireturn, 1, 0, 0, .null)) rfl (fun _ => rfl) rfl rfl
      · obtain ⟨k, hk⟩ : ∃ k : Nat, ((xof hp).1 0 8).toInt = (k : Int) := ⟨((xof hp).1 0 8).toInt.toNat, by omega⟩
        have N2 : hp2.1 = 88 + 3 * k := by omega
        have H5 : yH0 hp5 := yH0_nw J2.1.1 N2 (by omega) nw
        obtain ⟨n, g, f, hn, w1, w2, w3, w4, w5⟩ := nw
        -- the row of rules
        have k13 := J2.1.1.2.2 13 (by omega)
        rw [yty13] at k13
        obtain ⟨f13, e13, b13⟩ : ∃ f : Nat → Option Nat, hp2.2 13 = .inl (4, 6, .inr (.inr (.inr (.inr f)))) ∧ ∀ j, j < 6 → f j = none ∨ ∃ k : Nat, f j = some (88 + 3 * k) ∧ 88 + 3 * k + 2 < hp2.1 := k13
        obtain ⟨i1, i2, fs, x8, h0, h8⟩ := xti_ok J2.1.1 (show xti 0 10 8 = true by decide)
        have ex8 : (xof hp2).1 0 8 = x8 := by
          unfold xof
          dsimp only
          rw [h0]
          dsimp only
          rw [h8]
        have x8k : x8.toInt = (k : Int) := by rw [← ex8, e28]; exact hk
        have x8n : x8.toNatClampNeg = k := by
          show x8.toInt.toNat = k
          omega
        have g13 : hp5.2 13 = .inl (4, 6, .inr (.inr (.inr (.inr f13)))) := (w5 13 (by omega) (by omega) (by omega)).trans e13
        have g0 : hp5.2 0 = .inr (10, fs) := (w5 0 (by omega) (by omega) (by omega)).trans h0
        have x9 : (x8 + 1).toInt = x8.toInt + 1 := xa1 (by show _ ≤ _ + (1 : Int); omega) (by show _ + (1 : Int) ≤ _; omega)
        have H6 : yH0 (hp5.1, zup hp5.2 13 (.inl (4, 6, .inr (.inr (.inr (.inr (va_up f13 x8.toNatClampNeg (some hp2.1)))))))) := yset_H H5 (fun _ => by
          rw [yty13]
          refine ⟨_, rfl, fun j hj => ?_⟩
          unfold va_up
          split
          · exact Or.inr ⟨k, by rw [N2], by omega⟩
          · rcases b13 j hj with q | ⟨k2, q1, q2⟩
            · exact Or.inl q
            · exact Or.inr ⟨k2, q1, by omega⟩)
        have H7 : yH0 (hp5.1, zup (zup hp5.2 13 (.inl (4, 6, .inr (.inr (.inr (.inr (va_up f13 x8.toNatClampNeg (some hp2.1)))))))) 0 (.inr (10, fs.set 8 (.int (x8 + 1))))) := yset_H H6 (fun _ => by
          have k0 := H5.2.2 0 (by omega)
          obtain ⟨u0, u1, u2⟩ := yty0
          unfold yokc at k0 ⊢
          rw [u0] at k0 ⊢
          obtain ⟨fs2, e2, l2, t2⟩ := k0
          rw [g0] at e2
          have e3 : fs = fs2 := (Prod.mk.inj (Sum.inr.inj e2)).2
          subst e3
          refine ⟨fs.set 8 (.int (x8 + 1)), by rw [u1], by rw [List.length_set]; exact l2, fun j t ht => ?_⟩
          obtain ⟨v, v1, v2⟩ := t2 j t ht
          by_cases ej : j = 8
          · subst ej
            rw [u2] at ht
            cases ht
            exact ⟨.int (x8 + 1), by rw [List.getElem?_set, if_pos rfl, if_pos (List.getElem?_eq_some_iff.mp v1).1], x8 + 1, rfl, by show (0 : Int) ≤ _; omega, by show _ ≤ (6 : Int); omega⟩
          · exact ⟨v, by rw [List.getElem?_set, if_neg (fun z => ej z.symm)]; exact v1, v2⟩)
        generalize hg : ((hp5.1, zup (zup hp5.2 13 (.inl (4, 6, .inr (.inr (.inr (.inr (va_up f13 x8.toNatClampNeg (some hp2.1)))))))) 0 (.inr (10, fs.set 8 (.int (x8 + 1))))) : zHp) = hp7 at H7
        have hl8 : 8 < fs.length := (List.getElem?_eq_some_iff.mp h8).1
        have v0 : hp7.2 0 = .inr (10, fs.set 8 (.int (x8 + 1))) := by
          rw [← hg]
          show (zup (zup hp5.2 13 (.inl (4, 6, .inr (.inr (.inr (.inr (va_up f13 x8.toNatClampNeg (some hp2.1)))))))) 0 (.inr (10, fs.set 8 (.int (x8 + 1))))) 0 = _
          exact zups
        have v13 : hp7.2 13 = .inl (4, 6, .inr (.inr (.inr (.inr (va_up f13 x8.toNatClampNeg (some hp2.1)))))) := by
          rw [← hg]
          show (zup (zup hp5.2 13 (.inl (4, 6, .inr (.inr (.inr (.inr (va_up f13 x8.toNatClampNeg (some hp2.1)))))))) 0 (.inr (10, fs.set 8 (.int (x8 + 1))))) 13 = _
          exact (zupo (by decide)).trans zups
        have vo : ∀ i, i ≠ 0 → i ≠ 13 → i ≠ hp2.1 → i ≠ hp2.1 + 1 → i ≠ hp2.1 + 2 → hp7.2 i = hp2.2 i := fun i q1 q2 q3 q4 q5 => by
          rw [← hg]
          show (zup (zup hp5.2 13 (.inl (4, 6, .inr (.inr (.inr (.inr (va_up f13 x8.toNatClampNeg (some hp2.1)))))))) 0 (.inr (10, fs.set 8 (.int (x8 + 1))))) i = _
          exact ((zupo q1).trans (zupo q2)).trans (w5 i q3 q4 q5)
        have vn : hp7.1 = hp2.1 + 3 := by rw [← hg]; exact w1
        have fM : yF ys646.2.2.2.2 hp hp7 := by
          refine ⟨by omega, (fun z => by cases z), fun i j hij => ?_⟩
          have in88 : 88 ≤ i → i ≤ 999 → yinM ys646.2.2.2.2 i j = true := fun p1 p2 => by
            unfold yinM
            rw [List.any_eq_true]
            refine ⟨(88, 999, 1000), List.mem_of_getElem? (i := 17) rfl, ?_⟩
            rw [decide_eq_true p1, decide_eq_true p2]
            rfl
          have hij2 : (j < 0 ∧ i < hp.1) ∨ yinM yMR i j = false := hij.imp_right (yleM_ok (by decide))
          rw [← J2.2.2.2.2 i j hij2]
          by_cases q0 : i = 0
          · subst q0
            unfold yrd
            rw [v0, h0]
            dsimp only
            by_cases hj : j < 0
            · rw [if_pos hj, if_pos hj]
            · rw [if_neg hj, if_neg hj, List.getElem?_set]
              rw [if_neg (fun z => ?_)]
              rcases hij with q | q
              · exact hj q.1
              · have ej : j = 8 := by omega
                subst ej
                cases q
          · by_cases q13 : i = 13
            · subst q13
              rcases hij with q | q
              · unfold yrd
                rw [v13, e13]
                dsimp only
                rw [if_pos q.1, if_pos q.1, if_pos (by omega), if_pos (by omega)]
              · cases q
            · have lt88 : ∀ z, i = hp2.1 + z → z ≤ 2 → False := fun z p1 p2 => by
                rcases hij with q | q
                · omega
                · rw [in88 (by omega) (by omega)] at q
                  cases q
              refine yrd_eq (vo i q0 q13 (fun z => lt88 0 z (by omega)) (fun z => lt88 1 z (by omega)) (fun z => lt88 2 z (by omega))) (fun hj => ?_)
              rcases hij with q | q
              · omega
              · by_cases l88 : i < 88
                · omega
                · by_cases l9 : i ≤ 999
                  · rw [in88 (by omega) l9] at q
                    cases q
                  · omega
        have E7 : yEA yAr hp7 := by
          refine ⟨yE1_F fM ?_ H.2.1, ?_, ?_⟩
          · intro c j hc
            rcases hc with rfl | rfl | rfl | rfl <;> rfl
          · have ke : ∀ i j : Nat, yinM ys646.2.2.2.2 i (j : Int) = false → (xof hp7).1 i j = (xof hp).1 i j := fun i j hj => by
              rw [xof_rd, xof_rd, fM.2.2 i j (Or.inr hj)]
            have e2 : (xof hp7).1 72 = (xof hp).1 72 := funext fun j => ke 72 j rfl
            have e4 : (xof hp7).1 74 = (xof hp).1 74 := funext fun j => ke 74 j rfl
            have e5 : (xof hp7).1 75 = (xof hp).1 75 := funext fun j => ke 75 j rfl
            unfold xA wfc wfs
            rw [e2, e4, e5]
            exact H.2.2.1
          · have e8 : (xof hp7).1 0 8 = x8 + 1 := by
              unfold xof
              dsimp only
              rw [v0]
              dsimp only
              rw [List.getElem?_set, if_pos rfl, if_pos hl8]
            rw [e8, vn]
            omega
        refine ⟨(some (.int (x8 + 1 - 1)), hp7), zCan_body (nL := 2) (rt := some .int) (cd := zc126) xg126 ⟨Nat.le_of_ble_eq_true rfl, by decide⟩ (by show hp.1 ≤ hp7.1; omega) (body ?_), one ⟨H7, E7⟩ fM⟩
        refine q_sr (k := 1) (i := 1) (x := hp2.1) (q := (.astore_n 1, 1, 0, 0, .null)) rfl (fun _ => rfl) (by decide) ?_
        have m0 : zld (zs1 (lv_args 0 [.ref 0]) 1 (.ref hp2.1)) 0 = some (.ref 0) := rfl
        have m1 : zld (zs1 (lv_args 0 [.ref 0]) 1 (.ref hp2.1)) 1 = some (.ref hp2.1) := zs1_ld _ _ _
        generalize zs1 (lv_args 0 [.ref 0]) 1 (.ref hp2.1) = lw at *
        have t5 : ∀ {z : Nat}, z < 88 → z < hp5.1 := fun hz => by omega
        have o13 : (zup hp5.2 13 (.inl (4, 6, .inr (.inr (.inr (.inr (va_up f13 x8.toNatClampNeg (some hp2.1)))))))) 0 = .inr (10, fs) := (zupo (by decide)).trans g0
        refine q_lr (k := 1) (i := 1) (q := (.aload_n 1, 1, 0, 0, .null)) rfl (fun _ => rfl) m1 ?_
        refine r_s (fr' := (42, lw, [])) (hp' := hp5) (q := (.ifnonnull 14, 3, 42, 0, .null)) rfl (fun _ => rfl) (Nat.le_refl _) ?_
        refine q_lr (k := 1) (i := 0) (q := (.aload_n 0, 1, 0, 0, .null)) rfl (fun _ => rfl) m0 ?_
        refine h_gr H5 (ix := 0) (c := 13) (pc := 43) rfl (by decide) (by decide) ?_
        refine q_lr (k := 1) (i := 0) (q := (.aload_n 0, 1, 0, 0, .null)) rfl (fun _ => rfl) m0 ?_
        refine r_get (pc := 47) (ix := 0) rfl (by decide) ⟨t5 (by decide), by decide⟩ g0 h8 ?_
        refine q_lr (k := 1) (i := 1) (q := (.aload_n 1, 1, 0, 0, .null)) rfl (fun _ => rfl) m1 ?_
        refine r_s (fr' := (52, lw, [])) (hp' := (hp5.1, zup hp5.2 13 (.inl (4, 6, .inr (.inr (.inr (.inr (va_up f13 x8.toNatClampNeg (some hp2.1))))))))) (q := (.aastore, 1, 0, 0, .null)) rfl (fun call => ?_) (Nat.le_refl _) ?_
        · show zAast (51, lw, [.ref hp2.1, .int x8, .ref 13]) hp5 = _
          unfold zAast
          dsimp only
          rw [if_pos (show 13 < hp5.1 ∧ 13 < zSC ∧ hp2.1 < hp5.1 ∧ hp2.1 < zSC from ⟨t5 (by decide), by decide, by rw [w1]; omega, by rw [s1000, N2]; omega⟩), g13, w2]
          show (if ¬ (x8 < 0 ∨ 6 ≤ x8.toNatClampNeg) then _ else _) = _
          rw [if_pos (fun z => by
            rcases z with z | z
            · have z : x8.toInt < (0 : Int) := Int32.lt_iff_toInt_lt.mp z
              omega
            · omega)]
          rfl
        refine q_lr (k := 1) (i := 0) (q := (.aload_n 0, 1, 0, 0, .null)) rfl (fun _ => rfl) m0 ?_
        refine r_s (fr' := (54, lw, [.ref 0, .ref 0])) (hp' := (hp5.1, zup hp5.2 13 (.inl (4, 6, .inr (.inr (.inr (.inr (va_up f13 x8.toNatClampNeg (some hp2.1))))))))) (q := (.dup, 1, 0, 0, .null)) rfl (fun _ => rfl) (Nat.le_refl _) ?_
        refine r_get (pc := 54) (ix := 0) rfl (by decide) ⟨t5 (by decide), by decide⟩ o13 h8 ?_
        refine r_s (fr' := (58, lw, [.int 1, .int x8, .ref 0])) (hp' := (hp5.1, zup hp5.2 13 (.inl (4, 6, .inr (.inr (.inr (.inr (va_up f13 x8.toNatClampNeg (some hp2.1))))))))) (q := (.iconst 1, 1, 0, 0, .null)) rfl (fun _ => rfl) (Nat.le_refl _) ?_
        refine r_s (fr' := (59, lw, [.int (x8 + 1), .ref 0])) (hp' := (hp5.1, zup hp5.2 13 (.inl (4, 6, .inr (.inr (.inr (.inr (va_up f13 x8.toNatClampNeg (some hp2.1))))))))) (q := (.iadd, 1, 0, 0, .null)) rfl (fun _ => rfl) (Nat.le_refl _) ?_
        refine r_put (pc := 59) (ix := 0) rfl ⟨t5 (by decide), by decide, rfl⟩ o13 hl8 ?_
        dsimp only
        rw [hg]
        refine q_lr (k := 1) (i := 0) (q := (.aload_n 0, 1, 0, 0, .null)) rfl (fun _ => rfl) m0 ?_
        refine r_get (pc := 63) (ix := 0) (v := .int (x8 + 1)) rfl (by decide) ⟨by omega, by decide⟩ v0 (by rw [List.getElem?_set, if_pos rfl, if_pos hl8]) ?_
        refine r_s (fr' := (67, lw, [.int 1, .int (x8 + 1)])) (hp' := hp7) (q := (.iconst 1, 1, 0, 0, .null)) rfl (fun _ => rfl) (Nat.le_refl _) ?_
        refine r_s (fr' := (68, lw, [.int (x8 + 1 - 1)])) (hp' := hp7) (q := (.isub, 1, 0, 0, .null)) rfl (fun _ => rfl) (Nat.le_refl _) ?_
        exact q_ri (q := (.ireturn, 1, 0, 0, .null)) rfl (fun _ => rfl) rfl rfl
    · cases hq1
  · refine ⟨(some (.int (-1)), hp), zCan_body (nL := 2) (rt := some .int) (cd := zc126) xg126 ⟨Nat.le_of_ble_eq_true rfl, by decide⟩ (Nat.le_refl _) (head (r_ifc (len := 3) (a := 11) (b := 0) (v0 := .null) (cn := .lt) (off := 5) rfl (fun z => absurd z c) (fun _ => ?_))), one H (yF_refl _ _)⟩
    refine r_s (fr' := (10, lv_args 0 [.ref 0], [.int (-1)])) (hp' := hp) (q := (.iconst (-1), 1, 0, 0, .null)) rfl (fun _ => rfl) (Nat.le_refl _) ?_
    exact q_ri (q := (.ireturn, 1, 0, 0, .null)) rfl (fun _ => rfl) rfl rfl
end YRUS
end
section
/-! All that was left to do by hand; the start; the claim's run. -/
theorem hpC_75 : (List.range 6).all (fun t => (xof hpC).1 75 t == 0) = true := by decide +kernel
theorem hpC_08 : ((xof hpC).1 0 8 == 0) = true := by decide +kernel
theorem hpC_A : yAr hpC := by
  refine ⟨fun t c ht hc => ?_, ?_⟩
  · exfalso
    have h := List.all_eq_true.mp hpC_75 t (List.mem_range.mpr ht)
    have h := eq_of_beq h
    rw [h] at hc
    have hc : (c : Int) < 0 := hc
    omega
  · rw [eq_of_beq hpC_08, hpC_n]
    rfl
theorem yXx : yXt (yEA yAr) := by
  refine ⟨yEA_F yAr_F, fun q hq => ?_⟩
  rcases List.mem_cons.mp hq with rfl | hq
  · exact yact_s
  rcases List.mem_cons.mp hq with rfl | hq
  · exact ycam_s
  rcases List.mem_cons.mp hq with rfl | hq
  · exact ysum_s
  rcases List.mem_cons.mp hq with rfl | hq
  · exact yrule_r
  rcases List.mem_cons.mp hq with rfl | hq
  · exact yL4 yAr_F
  rcases List.mem_cons.mp hq with rfl | hq
  · exact yL5 yAr_F
  rcases List.mem_cons.mp hq with rfl | hq
  · exact yL7 yAr_F
  rcases List.mem_cons.mp hq with rfl | hq
  · exact yL8 yAr_F
  rcases List.mem_cons.mp hq with rfl | hq
  · exact yL243 yAr_F
  rcases List.mem_cons.mp hq with rfl | hq
  · exact yundo yAr_F
  rcases List.mem_cons.mp hq with rfl | hq
  · exact yrul_s
  cases hq
end
section
/-! Rules for the class's printed bodies: text.bytes, lengths, strings. -/
def yTx (B : zHp) : Prop := ∃ fs : List Value, B.2 2 = .inr (6, fs) ∧ fs[0]? = some (.ref 1)
def zsv (j i : Nat) : Int32 := match ztb none j with
  | some (_, _, f) => f i
  | none => 0
theorem xnar_ok {ty : FieldType} {x : Int32} (hy : narrow ty (.int x) = .int (vp_nar ty x)) (h : (vp_nar ty x == x) = true) : narrow ty (.int x) = .int x := hy.trans (congrArg Value.int (eq_of_beq h))
section XCRU
variable {B : zHp} {s : xS} {ev : zEv} {d nL : Nat} {rt : Option FieldType} {cd : List (Option zEn)} {r : zRe} {pc : Nat} {lv : List (Nat × Value)} {hp : zHp}
theorem r_grx {i len : Nat} {rest : List Value} {v0 : Value} (H : yH0 B) (X : yTx B) (hq : zg cd pc = some (.getfield i, len, 6, 0, v0)) (K : zR ev d nL rt cd (pc + 3, lv, .ref 1 :: rest) (xW B s) r) : zR ev d nL rt cd (pc, lv, .ref 2 :: rest) (xW B s) r := by
  obtain ⟨fs, h3, h4⟩ := X
  exact r_get hq (by decide) ⟨Nat.lt_of_lt_of_le (by decide) H.1, by decide⟩ (xW_o h3) (xf_r h4) K
theorem q_len {len a b ix k n : Nat} {rest : List Value} {v0 : Value} (H : yH0 B) (hq : zg cd pc = some (.arraylength, len, a, b, v0)) (ht : xta ix k n = true) (K : zR ev d nL rt cd (pc + 1, lv, .int (Int32.ofNat n) :: rest) (xW B s) r) : zR ev d nL rt cd (pc, lv, .ref ix :: rest) (xW B s) r := by
  obtain ⟨h1, h2, h5, f, h3⟩ := xta_ok H ht
  refine r_s hq (fun call => ?_) (Nat.le_refl _) K
  show zAlen ztb ev (pc, lv, .ref ix :: rest) (xW B s) = _
  unfold zAlen
  dsimp only
  rw [if_pos h2, if_pos (show ix < (xW B s).1 from h1), xW_a h3]
  dsimp only
  rw [if_pos (by omega)]
  rfl
theorem q_sbl {len a b i n : Nat} {rest : List Value} {v0 : Value} {f : Nat → Int32} {e : Int32} (hq : zg cd pc = some (.baload, len, a, b, v0)) (hi : ¬ i < zSC) (ht : ztb ev (i - zSC) = some (1, n, f)) (hj : xib e n = true) (K : zR ev d nL rt cd (pc + 1, lv, .int (f e.toNatClampNeg) :: rest) hp r) : zR ev d nL rt cd (pc, lv, .int e :: .ref i :: rest) hp r := by
  refine r_s hq (fun call => ?_) (Nat.le_refl _) K
  show zBald ztb ev (pc, lv, .int e :: .ref i :: rest) hp = _
  unfold zBald
  dsimp only
  rw [if_neg hi, ht]
  show (if ¬ (e < 0 ∨ n ≤ e.toNatClampNeg) then zn (pc + 1) lv (.int (f e.toNatClampNeg) :: rest) hp else none) = _
  rw [if_pos (of_decide_eq_true hj)]
  rfl
theorem q_sil {len a b i n : Nat} {rest : List Value} {v0 : Value} {f : Nat → Int32} {e : Int32} (hq : zg cd pc = some (.iaload, len, a, b, v0)) (hi : ¬ i < zSC) (ht : ztb ev (i - zSC) = some (0, n, f)) (hj : xib e n = true) (K : zR ev d nL rt cd (pc + 1, lv, .int (f e.toNatClampNeg) :: rest) hp r) : zR ev d nL rt cd (pc, lv, .int e :: .ref i :: rest) hp r := by
  refine r_s hq (fun call => ?_) (Nat.le_refl _) K
  show zIald ztb ev (pc, lv, .int e :: .ref i :: rest) hp = _
  unfold zIald
  dsimp only
  rw [if_neg hi, ht]
  show (if ¬ (e < 0 ∨ n ≤ e.toNatClampNeg) then zn (pc + 1) lv (.int (f e.toNatClampNeg) :: rest) hp else none) = _
  rw [if_pos (of_decide_eq_true hj)]
  rfl
end XCRU
end
section
/-! Texts: runs of bytes, numbers, words. -/
def tsp (P : Int → Bool) (b : Nat → Int) (n : Nat) : Nat → Nat → Nat
  | 0, p => p
  | f + 1, p => if p < n ∧ P (b p) = true then tsp P b n f (p + 1) else p
def tS (P : Int → Bool) (b : Nat → Int) (n p : Nat) : Nat := tsp P b n (n - p) p
def tbl (x : Int) : Bool := x == 32
def tdg (x : Int) : Bool := decide (48 ≤ x) && decide (x ≤ 57)
def tlt (x : Int) : Bool := decide (97 ≤ x) && decide (x ≤ 122)
/-- the bytes from p up to e -/
def tw (b : Nat → Int) (p e : Nat) : List Int := (List.range (e - p)).map (fun i => b (p + i))
/-- the number of the first k digits from p on -/
def tv (b : Nat → Int) (p : Nat) : Nat → Int
  | 0 => 0
  | k + 1 => 10 * tv b p k + b (p + k) - 48
section TTXT
variable {P : Int → Bool} {b : Nat → Int} {n p : Nat}
theorem tS_t (h : p < n) (hb : P (b p) = true) : tS P b n p = tS P b n (p + 1) := by
  unfold tS
  rw [show n - p = (n - (p + 1)) + 1 by omega]
  show (if p < n ∧ P (b p) = true then _ else p) = _
  rw [if_pos ⟨h, hb⟩]
theorem tS_f (h : ¬ (p < n ∧ P (b p) = true)) : tS P b n p = p := by
  unfold tS
  cases n - p with
  | zero => rfl
  | succ k => exact if_neg h
theorem tS_ind {Q : Nat → Prop} (h0 : ∀ p, ¬ (p < n ∧ P (b p) = true) → Q p) (h1 : ∀ p, p < n → P (b p) = true → Q (p + 1) → Q p) : ∀ p, Q p := by
  have key : ∀ k p, n - p = k → Q p := by
    intro k
    induction k with
    | zero => intro p hp; exact h0 p (fun z => by omega)
    | succ k ih =>
      intro p hp
      by_cases c : p < n ∧ P (b p) = true
      · exact h1 p c.1 c.2 (ih (p + 1) (by omega))
      · exact h0 p c
  exact fun p => key (n - p) p rfl
theorem tS_ge : ∀ p, p ≤ tS P b n p := tS_ind (n := n) (P := P) (b := b) (fun p h => by rw [tS_f h]; exact Nat.le_refl _) (fun p h1 h2 ih => by rw [tS_t h1 h2]; omega)
theorem tS_le : ∀ p, p ≤ n → tS P b n p ≤ n := tS_ind (n := n) (P := P) (b := b) (fun p h k => by rw [tS_f h]; exact k) (fun p h1 h2 ih k => by rw [tS_t h1 h2]; exact ih (by omega))
theorem tS_end : ∀ p, ¬ (tS P b n p < n ∧ P (b (tS P b n p)) = true) := tS_ind (n := n) (P := P) (b := b) (fun p h => by rw [tS_f h]; exact h) (fun p h1 h2 ih => by rw [tS_t h1 h2]; exact ih)
theorem tS_in : ∀ p j, p ≤ j → j < tS P b n p → j < n ∧ P (b j) = true := tS_ind (n := n) (P := P) (b := b) (fun p h j h1 h2 => by rw [tS_f h] at h2; omega) (fun p h1 h2 ih j h3 h4 => by
  rw [tS_t h1 h2] at h4
  by_cases e : j = p
  · subst e
    exact ⟨h1, h2⟩
  · exact ih j (by omega) h4)
theorem tS_id (p : Nat) : tS P b n (tS P b n p) = tS P b n p := tS_f (tS_end p)
theorem tS_lt (h : p < n) (hb : P (b p) = true) : p < tS P b n p := by
  rw [tS_t h hb]
  exact tS_ge (p + 1)
theorem tw_nil (p : Nat) : tw b p p = [] := by
  unfold tw
  rw [Nat.sub_self]
  rfl
theorem tw_len (p e : Nat) : (tw b p e).length = e - p := by
  unfold tw
  rw [List.length_map, List.length_range]
theorem tw_get {p e i : Nat} (h : i < e - p) : (tw b p e)[i]? = some (b (p + i)) := by
  unfold tw
  rw [List.getElem?_map, List.getElem?_range h]
  rfl
theorem tw_snoc {p e : Nat} (h : p ≤ e) : tw b p (e + 1) = tw b p e ++ [b e] := by
  unfold tw
  rw [show e + 1 - p = (e - p) + 1 by omega, List.range_succ, List.map_append, List.map_singleton, show p + (e - p) = e by omega]
theorem tw_cons {p e : Nat} (h : p < e) : tw b p e = b p :: tw b (p + 1) e := by
  unfold tw
  rw [show e - p = (e - (p + 1)) + 1 by omega, List.range_succ_eq_map, List.map_cons, List.map_map]
  refine congrArg (b p :: ·) (List.map_congr_left (fun i _ => ?_))
  show b (p + (i + 1)) = b (p + 1 + i)
  rw [show p + (i + 1) = p + 1 + i by omega]
theorem tv_b (h : ∀ j, p ≤ j → j < p + 5 → j < p + n → 48 ≤ b j ∧ b j ≤ 57) : ∀ k, k ≤ 5 → k ≤ n → 0 ≤ tv b p k ∧ tv b p k < 10 ^ k := by
  intro k
  induction k with
  | zero => intro _ _; exact ⟨Int.le_refl _, by show (0 : Int) < 10 ^ 0; decide⟩
  | succ k ih =>
    intro h1 h2
    obtain ⟨a1, a2⟩ := ih (by omega) (by omega)
    have a3 := h (p + k) (by omega) (by omega) (by omega)
    show 0 ≤ 10 * tv b p k + b (p + k) - 48 ∧ 10 * tv b p k + b (p + k) - 48 < 10 ^ (k + 1)
    rw [Int.pow_succ]
    omega
end TTXT
/-- a list of a row's first places, the last first -/
def tk (f : Nat → Int32) : Nat → List Int
  | 0 => []
  | n + 1 => (f n).toInt :: tk f n
theorem tk_len (f : Nat → Int32) : ∀ n, (tk f n).length = n := by
  intro n
  induction n with
  | zero => rfl
  | succ n ih => show (tk f n).length + 1 = n + 1; rw [ih]
theorem tk_c {f g : Nat → Int32} : ∀ n, (∀ j, j < n → f j = g j) → tk f n = tk g n := by
  intro n
  induction n with
  | zero => intro _; rfl
  | succ n ih =>
    intro h
    show (f n).toInt :: tk f n = (g n).toInt :: tk g n
    rw [h n (by omega), ih (fun j hj => h j (by omega))]
/-- the words of rules and villages, as bytes -/
def tLend : List Int := [108, 101, 110, 100]
def tIf : List Int := [105, 102]
def tNot : List Int := [110, 111, 116]
def tAnd : List Int := [97, 110, 100]
def tOr : List Int := [111, 114]
def tWds : List (List Int) := [[116, 111, 111, 108], [107, 105, 110, 100], [111, 119, 110, 101, 114], [104, 111, 108, 100, 101, 114], [116, 111], [108, 101, 110, 116], [115, 104, 97, 114, 112], [111, 117, 116], [100, 97, 121], [110, 101, 101, 100], [112, 97, 121], [111, 119, 101, 115], [116, 114, 117, 115, 116, 115]]
def tCls : List (List Int) := [[118, 105, 108, 108, 97, 103, 101], [116, 111, 111, 108], [116, 114, 117, 115, 116], [119, 111, 114, 107], [116, 104, 97, 110, 107, 115]]
/-- which of these words stands there -/
def tix (w : List Int) : List (List Int) → Option Nat
  | [] => none
  | v :: vs => if v = w then some 0 else (tix w vs).map (· + 1)
end
