/-! summedBy of the reference: codes are run, the stack never empties. -/
section XSUM
variable {F : Nat} {m : xS}
/-- nothing but the stack has changed -/
def xfl (m m' : xS) : Prop := (∀ i j, i ≠ 78 → m'.2 i j = m.2 i j) ∧ ∀ i j, ¬ (i = 70 ∧ j = 20) → m'.1 i j = m.1 i j
theorem xfl_r (m : xS) : xfl m m := ⟨fun _ _ _ => rfl, fun _ _ _ => rfl⟩
theorem xfl_t {a b c : xS} (h1 : xfl a b) (h2 : xfl b c) : xfl a c := ⟨fun i j k => (h2.1 i j k).trans (h1.1 i j k), fun i j k => (h2.2 i j k).trans (h1.2 i j k)⟩
theorem xan (c : Int32) : (c &&& 15).toInt = c.toInt % 16 := by
  have e : (c &&& 15).toBitVec.toNat = c.toBitVec.toNat % 16 := by
    rw [Int32.toBitVec_and, BitVec.toNat_and]
    exact Nat.and_two_pow_sub_one_eq_mod _ 4
  have i1 := BitVec.toInt_eq_toNat_cond (c &&& 15).toBitVec
  have i2 := BitVec.toInt_eq_toNat_cond c.toBitVec
  have j1 : (c &&& 15).toInt = (c &&& 15).toBitVec.toInt := rfl
  have j2 : c.toInt = c.toBitVec.toInt := rfl
  have l := c.toBitVec.isLt
  rw [j1, i1, j2, i2, e]
  split <;> split <;> omega
theorem xsh (c : Int32) : (c >>> ((4 : Int32) &&& 31)).toInt = c.toInt / 16 := by
  show ((c >>> ((4 : Int32) &&& 31)).toBitVec).toInt = _
  have e : ((4 : Int32) &&& 31).toBitVec.smod 32 = 4#32 := by decide
  rw [Int32.toBitVec_shiftRight, e]
  show (c.toBitVec.sshiftRight 4).toInt = _
  rw [BitVec.toInt_sshiftRight, Int.shiftRight_eq_div_pow]
  rfl
theorem P200 {v : Int64} {D : Nat} (h : xT m) (hD : (m.1 70 20).toInt = (D : Int)) (h64 : D < 64) : xP (D200 F v m) (fun _ m' => xT m' ∧ xfl m m' ∧ (m'.1 70 20).toInt = (D : Int) + 1) := by
  have e : (m.1 70 20 + 1).toInt = (m.1 70 20).toInt + 1 := xa1 (by show _ ≤ _ + (1 : Int); omega) (by show _ + (1 : Int) ≤ _; omega)
  unfold D200
  refine xP_g (xib_t (by omega) (by omega)) (xP_r ⟨xT_c (m := xul m 78 (m.1 70 20).toNatClampNeg v) h (i := 70) (j := 20) (lo := 0) (hi := 64) rfl (by omega) (by omega), ⟨fun i j k => if_neg (fun z => k z.1), fun i j k => xu_o k⟩, ?_⟩)
  rw [xu_s, e, hD]
theorem P201 {D : Nat} (h : xT m) (hD : (m.1 70 20).toInt = (D : Int) + 1) (h64 : D < 64) : xP (D201 F m) (fun _ m' => xT m' ∧ xfl m m' ∧ (m'.1 70 20).toInt = (D : Int)) := by
  have e : (m.1 70 20 - 1).toInt = (m.1 70 20).toInt - 1 := xs1 (by show _ ≤ _ - (1 : Int); omega) (by show _ - (1 : Int) ≤ _; omega)
  unfold D201
  refine xP_g (xib_t (by omega) (by omega)) (xP_r ⟨xT_c h (i := 70) (j := 20) (lo := 0) (hi := 64) rfl (by omega) (by omega), ⟨fun _ _ _ => rfl, fun i j k => xu_o k⟩, ?_⟩)
  rw [xu_s]
  omega
theorem P202 {v : Int32} {a b : Int64} : xP (D202 F v a b m) (fun _ m' => m' = m) := by
  have nz : zcmp .ne (lg_cmp b 0) 0 = true → (!(b == 0)) = true := fun c => by
    cases hb : (b == 0) with
    | false => rfl
    | true =>
      rw [beq_iff_eq] at hb
      subst hb
      exact absurd c (by decide)
  unfold D202
  exact (xP_i (fun _ => (xP_r rfl)) (fun _ => (xP_i (fun _ => (xP_r rfl)) (fun _ => (xP_i (fun _ => (xP_r rfl)) (fun _ => (xP_i (fun _ => (xP_i (fun c => xP_g (nz c) (xP_r rfl)) (fun _ => xP_r rfl))) (fun _ => (xP_i (fun _ => (xP_i (fun _ => xP_r rfl) (fun _ => xP_r rfl))) (fun _ => (xP_i (fun _ => (xP_i (fun _ => xP_r rfl) (fun _ => xP_r rfl))) (fun _ => (xP_i (fun _ => (xP_i (fun _ => xP_r rfl) (fun _ => xP_r rfl))) (fun _ => (xP_i (fun _ => (xP_i (fun _ => xP_r rfl) (fun _ => xP_r rfl))) (fun _ => (xP_i (fun _ => (xP_i (fun _ => xP_r rfl) (fun _ => xP_r rfl))) (fun _ => (xP_i (fun _ => (xP_r rfl)) (fun _ => (xP_i (fun _ => (xP_r rfl)) (fun _ => (xP_i (fun _ => (xP_r rfl)) (fun _ => (xP_i (fun _ => (xP_i (fun c => xP_g (nz c) (xP_r rfl)) (fun _ => xP_r rfl))) (fun _ => (xP_r rfl)))))))))))))))))))))))))))
theorem zdp_p {f : Nat → Int32} {a n : Nat} : ∀ {k D : Nat}, zdp f a (n + k) = some D → ∃ D1, zdp f a n = some D1
  | 0, D, h => ⟨D, h⟩
  | k + 1, D, h => by
    have h : (zdp f a (n + k)).bind (zst (f (a + (n + k)))) = some D := h
    cases e : zdp f a (n + k) with
    | none => rw [e] at h; cases h
    | some D1 => exact zdp_p e
theorem P203_8 {t lo hi D' : Nat} (ht : t < 6) (hh : hi ≤ 400) {v1 v2 v3 : Int32} (e1 : v1.toInt = (t : Int)) (e3 : v3.toInt = (hi : Int)) (h1 : 1 ≤ D') : ∀ (f : Nat) {v4 : Int32} {m : xS} {k D : Nat}, xT m → v4.toInt = (k : Int) → lo ≤ k → k ≤ hi → hi < f + k → zdp (m.1 72) (400 * t + lo) (hi - lo) = some D' → zdp (m.1 72) (400 * t + lo) (k - lo) = some D → (m.1 70 20).toInt = (D : Int) → xP (D203_8 F f v1 v2 v3 v4 m) (fun _ m' => xT m' ∧ xfl m m')
  | 0, v4, m, k, D, h, e4, l1, l2, l3, z1, z2, hD => by omega
  | f + 1, v4, m, k, D, h, e4, l1, l2, l3, z1, z2, hD => by
    have bd := h 70 20 (0, 64) rfl
    have bd1 : (0 : Int) ≤ (m.1 70 20).toInt := bd.1
    have bd2 : (m.1 70 20).toInt ≤ 64 := bd.2
    unfold D203_8
    refine xP_i (fun c => ?_) (fun c => ?_)
    · have c : v3.toInt ≤ v4.toInt := zt c
      have kh : k = hi := by omega
      rw [kh] at z2
      have e : D = D' := Option.some.inj (z2.symm.trans z1)
      exact xP_b (P201 (F := F) (D := D - 1) h (by omega) (by omega)) (fun v m1 q => xP_r ⟨q.1, q.2.1⟩)
    · have c : ¬ v3.toInt ≤ v4.toInt := zf c
      have a1 : ((400 : Int32) * v1).toInt = 400 * v1.toInt := xm1 (by show _ ≤ (400 : Int) * _; omega) (by show (400 : Int) * _ ≤ _; omega)
      have a2 : ((400 : Int32) * v1 + v4).toInt = 400 * (t : Int) + (k : Int) := by
        rw [xa1 (by rw [a1]; omega) (by rw [a1]; omega), a1]
        omega
      have a3 : ((400 : Int32) * v1 + v4).toNatClampNeg = 400 * t + k := by
        show Int.toNat _ = _
        rw [a2]
        omega
      refine xP_g (xib_t (by omega) (by omega)) (xP_g (xib_t (by omega) (by omega)) ?_)
      rw [a3]
      obtain ⟨D2, z3⟩ : ∃ D2, zdp (m.1 72) (400 * t + lo) (k - lo + 1) = some D2 := zdp_p (k := hi - k - 1) (by rw [show k - lo + 1 + (hi - k - 1) = hi - lo by omega]; exact z1)
      have z4 : zst (m.1 72 (400 * t + k)) D = some D2 := by
        have z5 : (zdp (m.1 72) (400 * t + lo) (k - lo)).bind (zst (m.1 72 (400 * t + lo + (k - lo)))) = some D2 := z3
        rw [z2, show 400 * t + lo + (k - lo) = 400 * t + k by omega] at z5
        exact z5
      have go : ∀ {m2 : xS} {w5 w6 : Int32}, xT m2 → xfl m m2 → (m2.1 70 20).toInt = (D2 : Int) → xP (D203_129 F (D203_8 F f) v1 v2 v3 v4 w5 w6 m2) (fun _ m' => xT m' ∧ xfl m m') := by
        intro m2 w5 w6 t2 f2 d2
        unfold D203_129
        have e5 : (v4 + Int32.ofInt 1).toInt = v4.toInt + 1 := xa1 (by show _ ≤ _ + (1 : Int); omega) (by show _ + (1 : Int) ≤ _; omega)
        have q72 : m2.1 72 = m.1 72 := funext fun j => f2.2 72 j (by omega)
        exact xP_m (P203_8 (lo := lo) ht hh e1 e3 h1 f (k := k + 1) (D := D2) t2 (by omega) (by omega) (by omega) (by omega) (by rw [q72]; exact z1) (by rw [q72, show k + 1 - lo = k - lo + 1 by omega]; exact z3) d2) (fun v m' q => ⟨q.1, xfl_t f2 q.2⟩)
      generalize m.1 72 (400 * t + k) = cc at z4 ⊢
      have an := xan cc
      have sh := xsh cc
      have z4 : zs0 cc D = some D2 := by
        unfold zst at z4
        split at z4
        · exact z4
        · cases z4
      unfold zs0 at z4
      refine xP_i (fun c0 => ?_) (fun c0 => ?_)
      · have c0 : ¬ cc.toInt % 16 = 0 := fun z => znet c0 (Int32.toInt_inj.mp (by rw [an, z]; rfl))
        rw [if_neg c0] at z4
        refine xP_i (fun c1 => ?_) (fun c1 => ?_)
        · have c1 : ¬ cc.toInt % 16 = 1 := fun z => znet c1 (Int32.toInt_inj.mp (by rw [an, z]; rfl))
          rw [if_neg c1] at z4
          refine xP_i (fun c2 => ?_) (fun c2 => ?_)
          · have c2 : ¬ cc.toInt % 16 = 11 := fun z => znet c2 (Int32.toInt_inj.mp (by rw [an, z]; rfl))
            rw [if_neg c2] at z4
            split at z4
            · next hk =>
              have z4 : D - 1 = D2 := Option.some.inj z4
              refine xP_b (P201 (F := F) (D := D - 1) h (by omega) (by omega)) (fun v5 m5 q5 => ?_)
              refine xP_b (P201 (F := F) (D := D - 2) q5.1 (by rw [q5.2.2]; omega) (by omega)) (fun v6 m6 q6 => ?_)
              refine xP_b (P202 (F := F)) (fun v7 m7 q7 => ?_)
              have q7 : m7 = m6 := q7
              subst q7
              refine xP_b (P200 (F := F) (D := D - 2) q6.1 q6.2.2 (by omega)) (fun v8 m8 q8 => ?_)
              exact go q8.1 (xfl_t q5.2.1 (xfl_t q6.2.1 q8.2.1)) (show (m8.1 70 20).toInt = (D2 : Int) by have := q8.2.2; omega)
            · cases z4
          · have c2 : cc &&& 15 = 11 := zne c2
            have c3 : cc.toInt % 16 = 11 := by rw [← an, c2]; rfl
            rw [if_pos c3] at z4
            split at z4
            · next hk =>
              have z4 : D = D2 := Option.some.inj z4
              refine xP_b (P201 (F := F) (D := D - 1) h (by omega) (by omega)) (fun v5 m5 q5 => ?_)
              refine xP_b (P200 (F := F) (D := D - 1) q5.1 q5.2.2 (by omega)) (fun v8 m8 q8 => ?_)
              exact go q8.1 (xfl_t q5.2.1 q8.2.1) (show (m8.1 70 20).toInt = (D2 : Int) by have := q8.2.2; omega)
            · cases z4
        · have c1 : cc &&& 15 = 1 := zne c1
          have c3 : cc.toInt % 16 = 1 := by rw [← an, c1]; rfl
          rw [if_pos c3] at z4
          split at z4
          · next hk =>
            have z4 : D + 1 = D2 := Option.some.inj z4
            refine xP_g (xib_t (by rw [sh]; omega) (by rw [sh]; omega)) ?_
            refine xP_b (P200 (F := F) (D := D) h hD (by omega)) (fun v8 m8 q8 => ?_)
            exact go q8.1 q8.2.1 (show (m8.1 70 20).toInt = (D2 : Int) by have := q8.2.2; omega)
          · cases z4
      · have c0 : cc &&& 15 = 0 := zne c0
        have c3 : cc.toInt % 16 = 0 := by rw [← an, c0]; rfl
        rw [if_pos c3] at z4
        split at z4
        · next hk =>
          have z4 : D + 1 = D2 := Option.some.inj z4
          refine xP_b (P200 (F := F) (D := D) h hD (by omega)) (fun v8 m8 q8 => ?_)
          exact go q8.1 q8.2.1 (show (m8.1 70 20).toInt = (D2 : Int) by have := q8.2.2; omega)
        · cases z4
theorem P203 {t : Nat} {v1 v2 v3 : Int32} (hF : 500 ≤ F) (ht : t < 6) (e1 : v1.toInt = (t : Int)) (h : xT m) (w : wfs m t v2 v3) : xP (D203 F v1 v2 v3 m) (fun _ m' => xT m' ∧ xfl m m') := by
  obtain ⟨w1, w2, w3, D', w4, w5⟩ := w
  unfold D203
  have hT : xT (xu m 70 20 0) := xT_c h (i := 70) (j := 20) (lo := 0) (hi := 64) rfl (by decide) (by decide)
  refine xP_m (P203_8 (F := F) (lo := v2.toInt.toNat) (hi := v3.toInt.toNat) ht (by omega) e1 (by omega) w4 F (k := v2.toInt.toNat) (D := 0) hT (by omega) (Nat.le_refl _) (by omega) (by omega) w5 (by rw [Nat.sub_self]; rfl) rfl) (fun v m' q => ⟨q.1, xfl_t (show xfl m (xu m 70 20 0) from ⟨fun _ _ _ => rfl, fun i j k => xu_o k⟩) q.2⟩)
theorem xA_l {m' : xS} (f : xfl m m') (h : xA m) : xA m' := by
  have e2 : m'.1 72 = m.1 72 := funext fun j => f.2 72 j (by omega)
  have e4 : m'.1 74 = m.1 74 := funext fun j => f.2 74 j (by omega)
  have e5 : m'.1 75 = m.1 75 := funext fun j => f.2 75 j (by omega)
  unfold xA wfc wfs
  rw [e2, e4, e5]
  exact h
theorem P244_2 {t : Nat} {v1 : Int32} (hF : 500 ≤ F) (ht : t < 6) (e1 : v1.toInt = (t : Int)) : ∀ (f : Nat) {v2 : Int32} {m : xS} {k : Nat}, xT m → xA m → v2.toInt = (k : Int) → k ≤ 12 → 12 < f + k → xP (D244_2 F f v1 v2 m) (fun _ m' => xT m' ∧ xfl m m')
  | 0, v2, m, k, h, hA, e2, l1, l2 => by omega
  | f + 1, v2, m, k, h, hA, e2, l1, l2 => by
    have b5 := h 75 t (0, 12) (by
      unfold xbn
      rw [if_pos (by decide)]
      exact if_pos ⟨by decide, ht⟩)
    have b51 : (0 : Int) ≤ (m.1 75 t).toInt := b5.1
    have b52 : (m.1 75 t).toInt ≤ 12 := b5.2
    have a0 : v1.toNatClampNeg = t := by
      show Int.toNat _ = _
      rw [e1]
      omega
    unfold D244_2
    refine xP_g (xib_t (by omega) (by omega)) ?_
    rw [a0]
    refine xP_i (fun c => xP_r ⟨h, xfl_r m⟩) (fun c => ?_)
    have c : ¬ (m.1 75 t).toInt ≤ v2.toInt := zf c
    have w := hA t k ht (by omega)
    have a1 : ((48 : Int32) * v1).toInt = 48 * v1.toInt := xm1 (by show _ ≤ (48 : Int) * _; omega) (by show (48 : Int) * _ ≤ _; omega)
    have a2 : ((4 : Int32) * v2).toInt = 4 * v2.toInt := xm1 (by show _ ≤ (4 : Int) * _; omega) (by show (4 : Int) * _ ≤ _; omega)
    have a3 : ((48 : Int32) * v1 + 4 * v2).toInt = 48 * (t : Int) + 4 * (k : Int) := by
      rw [xa1 (by rw [a1, a2]; omega) (by rw [a1, a2]; omega), a1, a2]
      omega
    have b1 : ((48 : Int32) * v1 + 4 * v2 + 1).toInt = 48 * (t : Int) + 4 * (k : Int) + 1 := by
      rw [xa1 (by rw [a3]; show _ ≤ _ + (1 : Int); omega) (by rw [a3]; show _ + (1 : Int) ≤ _; omega), a3]
      rfl
    have b2 : ((48 : Int32) * v1 + 4 * v2 + 2).toInt = 48 * (t : Int) + 4 * (k : Int) + 2 := by
      rw [xa1 (by rw [a3]; show _ ≤ _ + (2 : Int); omega) (by rw [a3]; show _ + (2 : Int) ≤ _; omega), a3]
      rfl
    have b3 : ((48 : Int32) * v1 + 4 * v2 + 3).toInt = 48 * (t : Int) + 4 * (k : Int) + 3 := by
      rw [xa1 (by rw [a3]; show _ ≤ _ + (3 : Int); omega) (by rw [a3]; show _ + (3 : Int) ≤ _; omega), a3]
      rfl
    have c0 : ((48 : Int32) * v1 + 4 * v2).toNatClampNeg = 48 * t + 4 * k := by
      show Int.toNat _ = _
      rw [a3]
      omega
    have c1 : ((48 : Int32) * v1 + 4 * v2 + 1).toNatClampNeg = 48 * t + 4 * k + 1 := by
      show Int.toNat _ = _
      rw [b1]
      omega
    have c2 : ((48 : Int32) * v1 + 4 * v2 + 2).toNatClampNeg = 48 * t + 4 * k + 2 := by
      show Int.toNat _ = _
      rw [b2]
      omega
    have c3 : ((48 : Int32) * v1 + 4 * v2 + 3).toNatClampNeg = 48 * t + 4 * k + 3 := by
      show Int.toNat _ = _
      rw [b3]
      omega
    have fin : ∀ {m2 : xS}, xT m2 → xfl m m2 → xP (D244_58 F v1 v2 (48 * v1 + 4 * v2) m2) (fun _ m' => xT m' ∧ xfl m m') := by
      intro m2 t2 f2
      have w2 := xA_l f2 hA t k ht (by rw [f2.2 75 t (by omega)]; omega)
      unfold D244_58
      refine xP_g (xib_t (by omega) (by omega)) (xP_g (xib_t (by omega) (by omega)) ?_)
      rw [c0, c1]
      exact xP_b (P203 hF ht e1 t2 w2.1) (fun v m1 q => xP_r ⟨q.1, xfl_t f2 q.2⟩)
    refine xP_g (xib_t (by omega) (by omega)) ?_
    rw [c2, c3]
    refine xP_i (fun d => fin h (xfl_r m)) (fun d => ?_)
    have d : ¬ (m.1 74 (48 * t + 4 * k + 2)).toInt < 0 := zf d
    refine xP_g (xib_t (by omega) (by omega)) (xP_g (xib_t (by omega) (by omega)) ?_)
    refine xP_b (P203 hF ht e1 h (w.2.resolve_left d)) (fun v m1 q => ?_)
    refine xP_i (fun _ => ?_) (fun _ => fin q.1 q.2)
    have e5 : (v2 + Int32.ofInt 1).toInt = v2.toInt + 1 := xa1 (by show _ ≤ _ + (1 : Int); omega) (by show _ + (1 : Int) ≤ _; omega)
    exact xP_m (P244_2 hF ht e1 f (k := k + 1) q.1 (xA_l q.2 hA) (by omega) (by omega) (by omega)) (fun v m' q2 => ⟨q2.1, xfl_t q.2 q2.2⟩)
theorem yas2 {hp : zHp} {r : Nat → Int} {b : yB} {n : Nat} {as : List Value} {c : Nat} {l : yL} (g : yG hp r (n, b, [], [], [(0, (2, yc c, yc 0)), (1, (0, l, yc 0))], []) (lv_args 0 as) []) (hlen : as.length = 2) : ∃ x : Int32, as = [.ref c, .int x] ∧ x.toInt = yev r l := by
  match as, hlen with
  | [a, b], _ =>
    have ha : a = .ref c := by
      obtain ⟨-, w, w1, w2⟩ := g.2.2.2.1 0 (2, yc c, yc 0) rfl
      have w1 : some a = some w := w1
      cases w1
      rcases w2 with ⟨w2, -⟩ | ⟨-, w2⟩
      · have w2 : yev r (yc c) = -1 := w2
        rw [yev_c] at w2
        omega
      · have w2 : a = .ref (yev r (yc c)).toNat := w2
        rw [yev_c] at w2
        rw [w2]
        rfl
    subst ha
    obtain ⟨-, w, w1, w2⟩ := g.2.2.2.1 1 (0, l, yc 0) rfl
    have w1 : some b = some w := w1
    cases w1
    obtain ⟨x, rfl, hx⟩ := yvI' rfl w2
    exact ⟨x, rfl, hx⟩
theorem ysum_s : yTs (yEA yAr) 5 ys2 := by
  intro d hd hp r as H gg hl hlen
  obtain ⟨x, has, hx⟩ := yas2 (c := 70) (l := (1, 0, 0)) (n := 1) (b := [(0, 0, 5)]) gg hlen
  subst has
  have hb := gg.1 (0, 0, 5) List.mem_cons_self
  have hb1 : (0 : Int) ≤ r 0 := hb.2.1
  have hb2 : r 0 ≤ 5 := hb.2.2
  have hx : x.toInt = r 0 := hx.trans (by show 1 * r 0 + 0 = _; omega)
  obtain ⟨y, hy, hT, f⟩ := P244_2 (F := 500) (t := x.toInt.toNat) (v1 := x) (by omega) (by omega) (by omega) 500 (v2 := 0) (k := 0) (xT_of H.1) H.2.2.1 rfl (by omega) (by omega)
  have z := Z244 H.1 (F := 500) (a1 := x) (x := y) hy (d := d) (by omega)
  rw [xW_of] at z
  have fr : ∀ i j : Nat, yinM ys2.2.2.2.2 i (j : Int) = false → ¬ (i = 70 ∧ j = 20) ∧ i ≠ 78 := by
    intro i j hij
    refine ⟨fun q => ?_, fun q => ?_⟩
    · obtain ⟨rfl, rfl⟩ := q
      cases hij
    · subst q
      cases hij
  have fy : yF ys2.2.2.2.2 hp (xW hp y.2) := xF (fun i j k => f.2 i j (fr i j k).1) (fun i j k => f.1 i j (fr i j k).2)
  refine ⟨_, z, ⟨xH H.1 hT (fun i j k => f.1 i j k), ⟨yP_F fy rfl rfl H.2.1.1, yP_F fy rfl rfl H.2.1.2.1, fun k hk => yP_F fy rfl rfl (H.2.1.2.2.1 k hk), fun k hk => yP_F fy rfl rfl (H.2.1.2.2.2 k hk)⟩, yA_F yAr_F (M := ys2.2.2.2.2) rfl (ydj_ok (by decide)) fy H.2.2⟩, fy, _, List.mem_cons_self, (fun s => if s = 0 then r 0 else y.1.toInt), (fun s hs => ?_), by decide, ?_⟩
  · have hs : s < 1 := hs
    have : s = 0 := by omega
    subst this
    rfl
  · refine ⟨fun e he => ?_, (fun x hx => by cases hx), (fun t ht => by cases ht), (fun i a e => by cases e), ⟨⟨Or.inr (by decide), Or.inl rfl⟩, y.1, rfl, by show y.1.toInt = 1 * y.1.toInt + 0; omega⟩, trivial⟩
    rcases List.mem_cons.mp he with rfl | he
    · have := y64 y.1
      exact ⟨by decide, this.1, Int.le_of_lt_add_one this.2⟩
    · cases he
end XSUM
