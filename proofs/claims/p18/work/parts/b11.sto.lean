/-! undo, image, back, seed, in pairs. -/
section KSTO
variable {m : xS} {F : Nat} {s : Nat → Int32}
theorem xT_kpc {n h : Nat} (hT : xT m) (n20 : n < 20) (h20 : h ≤ 20) : xT (kpc m n h) := by
  unfold kpc
  refine xT_c (xT_c ?_ (i := 14) (j := 1) (lo := 0) (hi := 19) rfl (by rw [nJ (by omega)]; omega) (by rw [nJ (by omega)]; omega)) (i := 14) (j := 2) (lo := 0) (hi := 20) rfl (by rw [nJ (by omega)]; omega) (by rw [nJ (by omega)]; omega)
  intro i j p hp
  by_cases z : i = 16 + n ∧ j < 114
  · obtain ⟨rfl, hj⟩ := z
    rw [xcp_s hj]
    have key : (List.range 20).all (fun i => (yty (16 + i)).2.2.2.1 == 1) = true := by decide +kernel
    have k1 : (yty (16 + n)).2.2.2.1 = 1 := eq_of_beq (List.all_eq_true.mp key n (List.mem_range.mpr n20))
    have k2 := xtS16_20 (r := 16 + n) ⟨by omega, by omega⟩
    unfold xta at k2
    simp only [Bool.and_eq_true, decide_eq_true_eq, beq_iff_eq] at k2
    obtain ⟨h1, h2, h3, h4, h5⟩ := k2
    unfold xbn at hp
    rw [if_pos h1, h2] at hp
    rw [h3, h4, k1, if_pos ⟨by decide, hj⟩] at hp
    exact hT 10 j p ((xbn_a (k := 0) (n := 114) (ec := 1) (by decide) rfl (by decide) hj).trans hp)
  · have e : (xcp m (16 + n) 10 114).1 i j = m.1 i j := by
      unfold xcp
      exact if_neg z
    rw [e]
    exact hT i j p hp
theorem znz {x : Int32} (h : x = 0) : zcmp .ne x 0 = false := by rw [h]; decide
theorem znn {x : Int32} (h : x ≠ 0) : zcmp .ne x 0 = true := by
  rw [zcn]
  simp [h]
theorem nI0 {h : Nat} (h0 : 0 < h) (l : h < 2000) : Int32.ofNat h ≠ 0 := fun z => by
  have := congrArg Int32.toInt z
  rw [nJ l] at this
  have this : (h : Int) = 0 := this
  omega
theorem kUndo (hF : 3000 ≤ F) (M : rMx m) : xP (D138_0 F m) (fun v1 m1 => ∀ m1', xrw m1 m1' → xT m1' → xP (D221 F m1') (fun v2 m2 => (true = true → v1 = v2) ∧ rMx m2)) := by
  have M0 := M
  obtain ⟨⟨R, I⟩, ⟨n, h, ⟨n20, h20⟩, ⟨e1, e2, e3⟩, H⟩, Mi, Mx⟩ := M0
  unfold D138_0
  by_cases h0 : h = 0
  · subst h0
    refine ⟨(_, _), ob rfl (oF (znz e2) rfl), fun m1' w t1 => ⟨(-1, m1'), ?_, fun _ => rfl, rMx_w w M⟩⟩
    unfold D221
    exact oF (znz ((w.2 70 11 25 (by decide)).trans e3)) rfl
  · have h0 : 0 < h := by omega
    refine ⟨(_, _), ob rfl (oT (znn (by show m.1 14 2 ≠ 0; rw [e2]; exact nI0 h0 (by omega))) (ob (c17_9 e1 e2 n20 h20 h0) (ob rfl rfl))), fun m1' w t1 => ?_⟩
    have k : ∀ a, a ≠ 10 → a ≠ 14 → (xcp (xu (xu m 14 1 (Int32.ofNat ((n + 19) % 20))) 14 2 (Int32.ofNat (h - 1))) 10 (16 + (n + 19) % 20) 114).1 a = m.1 a := fun a z1 z2 => (xcp_o z1).trans (funext fun b => (xu_o (fun z => z2 z.1)).trans (xu_o (fun z => z2 z.1)))
    have k10 : ∀ j, j < 114 → (xcp (xu (xu m 14 1 (Int32.ofNat ((n + 19) % 20))) 14 2 (Int32.ofNat (h - 1))) 10 (16 + (n + 19) % 20) 114).1 10 j = m.1 (16 + (n + 19) % 20) j := fun j hj => (xcp_s hj).trans ((xu_o (by omega)).trans (xu_o (by omega)))
    have k1 : (xcp (xu (xu m 14 1 (Int32.ofNat ((n + 19) % 20))) 14 2 (Int32.ofNat (h - 1))) 10 (16 + (n + 19) % 20) 114).1 14 1 = Int32.ofNat ((n + 19) % 20) := (congrFun (xcp_o (by decide)) 1).trans ((xu_o (by decide)).trans (xu_s _ _ _ _))
    have k2 : (xcp (xu (xu m 14 1 (Int32.ofNat ((n + 19) % 20))) 14 2 (Int32.ofNat (h - 1))) 10 (16 + (n + 19) % 20) 114).1 14 2 = Int32.ofNat (h - 1) := (congrFun (xcp_o (by decide)) 2).trans (xu_s _ _ _ _)
    dsimp only at w ⊢
    generalize xcp (xu (xu m 14 1 (Int32.ofNat ((n + 19) % 20))) 14 2 (Int32.ofNat (h - 1))) 10 (16 + (n + 19) % 20) 114 = m1 at *
    have e25 : m1'.1 70 25 = Int32.ofNat h := (w.2 70 11 25 (by decide)).trans ((congrFun (k 70 (by decide) (by decide)) 25).trans e3)
    obtain ⟨y, hy, q1, q2, q3, q4⟩ := r221 (F := F) (m := m1') (by omega) e25 h20 h0
    have o : ∀ a, a ≠ 80 → a ≠ 70 → y.2.1 a = m1'.1 a := fun a z1 z2 => (q2 a z1).trans (funext fun b => xu_o (fun z => z2 z.1))
    have e80 : m1'.1 80 = m.1 80 := (w.1 80 0 148 (by decide)).trans (k 80 (by decide) (by decide))
    have e81 : m1'.1 81 = m.1 81 := (w.1 81 0 2480 (by decide)).trans (k 81 (by decide) (by decide))
    have hr : ∀ k, k < 148 → y.2.1 80 k = hrow (m.1 80) (m.1 81) (h - 1) k := fun k hk => by
      unfold hrow
      split
      · next l => rw [q3 k l, e81]
      · rw [q4 k (by omega), e80]
    obtain ⟨R1, I1⟩ := H (h - 1) (by omega)
    rw [show 16 + (n + 20 - h + (h - 1)) % 20 = 16 + (n + 19) % 20 by omega] at R1
    refine ⟨y, hy, fun _ => by rw [q1, k2], ⟨?_, I9_c I1 hr⟩, ⟨(n + 19) % 20, h - 1, by omega, ⟨?_, ?_, ?_⟩, ?_⟩, fun a ha => ?_, ?_⟩
    · rw [o 10 (by decide) (by decide), w.1 10 0 114 (by decide)]
      exact R_c R1 hr k10
    · rw [o 14 (by decide) (by decide), w.2 14 2 1 (by decide), k1]
    · rw [o 14 (by decide) (by decide), w.2 14 2 2 (by decide), k2]
    · rw [q2 70 (by decide)]
      exact xu_s _ _ _ _
    · rw [o 81 (by decide) (by decide), e81]
      refine rHx_c (rH_u (s' := y.2.1 80) H n20 h20 h0 (fun k l1 l2 => by rw [q4 k l1, e80])) (fun a a1 a2 => ?_)
      rw [o a (by omega) (by omega), xrw_16 w ⟨a1, a2⟩, k a (by omega) (by omega)]
    · rw [o 87 (by decide) (by decide), o 42 (by decide) (by decide), o 85 (by decide) (by decide), o 86 (by decide) (by decide), o 41 (by decide) (by decide), o (37 + a) (by omega) (by omega), w.1 87 2 4 (by decide), w.1 42 2 4 (by decide), w.1 85 0 592 (by decide), w.1 86 0 4 (by decide), w.1 41 0 4 (by decide), xrw_37 w ⟨by omega, by omega⟩, k 87 (by decide) (by decide), k 42 (by decide) (by decide), k 85 (by decide) (by decide), k 86 (by decide) (by decide), k 41 (by decide) (by decide), k (37 + a) (by omega) (by omega)]
      exact Mi a ha
    · rw [q2 70 (by decide), xu_o (by decide), o 43 (by decide) (by decide), w.2 70 11 23 (by decide), w.2 43 1 0 (by decide), k 70 (by decide) (by decide), k 43 (by decide) (by decide)]
      exact Mx
-- image
theorem i148 {v1 : Int32} {k j : Nat} {w : Int32} (h1 : v1.toInt = (k : Int)) (h2 : w.toInt = (j : Int)) (hk : k < 4) (hj : j ≤ 148) : (148 * v1 + w).toInt = ((148 * k + j : Nat) : Int) := by
  have a1 : ((148 : Int32) * v1).toInt = 148 * v1.toInt := xm1 (by show _ ≤ (148 : Int) * _; omega) (by show (148 : Int) * _ ≤ _; omega)
  rw [xa1 (by omega) (by omega), a1]
  omega
theorem r278_33 {k : Nat} (hk : k < 4) {v1 : Int32} (h1 : v1.toInt = (k : Int)) : ∀ (f : Nat) {v2 : Int32} {m : xS} {i : Nat}, v2.toInt = (i : Int) → i ≤ 148 → 148 < f + i → xP (D278_33 F f v1 v2 m) (fun v m' => v = m.1 80 4 ∧ (∀ a, a ≠ 85 → m'.1 a = m.1 a) ∧ (∀ j, i ≤ j → j < 148 → m'.1 85 (148 * k + j) = m.1 80 j) ∧ ∀ j, (j < 148 * k + i ∨ 148 * k + 148 ≤ j) → m'.1 85 j = m.1 85 j)
  | 0, v2, m, i, hi, l1, l2 => by omega
  | f + 1, v2, m, i, hi, l1, l2 => by
    unfold D278_33
    refine xP_i (fun c => ?_) (fun c => ?_)
    · have c : (148 : Int) ≤ v2.toInt := zt c
      exact xP_r ⟨rfl, fun a _ => rfl, fun j hj hj2 => by omega, fun j _ => rfl⟩
    · have c : ¬ (148 : Int) ≤ v2.toInt := zf c
      have e := i148 h1 hi hk l1
      have a4 : v2.toNatClampNeg = i := by
        show Int.toNat _ = _
        rw [hi]
        omega
      refine xP_g (xib_t (by omega) (by omega)) (xP_g (gxb e (by omega)) ?_)
      rw [gxn e, a4]
      have e1 : (v2 + Int32.ofInt 1).toInt = v2.toInt + 1 := xa1 (by show _ ≤ _ + (1 : Int); omega) (by show _ + (1 : Int) ≤ _; omega)
      refine xP_m (r278_33 hk h1 f (i := i + 1) (by omega) (by omega) (by omega)) (fun v m' q => ?_)
      obtain ⟨q1, q2, q3, q4⟩ := q
      refine ⟨q1.trans (xu_o (by omega)), fun a ha => (q2 a ha).trans (funext fun b => xu_o (fun z => ha z.1)), fun j hj hj2 => ?_, fun j hj => (q4 j (by omega)).trans (xu_o (by omega))⟩
      by_cases z : j = i
      · subst z
        rw [q4 _ (by omega), xu_s]
      · rw [q3 j (by omega) hj2, xu_o (by omega)]
theorem pin4 {a1 : Int32} (h0 : ¬ a1.toInt < 0) (h4 : a1.toInt < 4) : ∃ k : Nat, k < 4 ∧ a1.toInt = (k : Int) := ⟨a1.toInt.toNat, by omega, by omega⟩
theorem kImage (hF : 3000 ≤ F) {a1 : Int32} (M : rMx m) : xP (D155_0 F a1 m) (fun v1 m1 => ∀ m1', xrw m1 m1' → xT m1' → xP (D278 F a1 m1') (fun v2 m2 => (true = true → v1 = v2) ∧ rMx m2)) := by
  have M0 := M
  obtain ⟨⟨R, I⟩, ⟨n, h, ⟨n20, h20⟩, ⟨e1, e2, e3⟩, H⟩, Mi, Mx⟩ := M0
  have rin : ∀ m1 : xS, D158 F a1.toInt64 0 3 m1 = some (pB (decide (0 ≤ a1.toInt) && decide (a1.toInt ≤ 3)), m1) := fun m1 => r158 rfl rfl
  unfold D155_0
  by_cases l0 : a1.toInt < 0
  · refine ⟨(_, _), oT (zcl.trans (decide_eq_true l0)) rfl, fun m1' w t1 => ⟨(-1, m1'), ?_, fun _ => rfl, rMx_w w M⟩⟩
    unfold D278
    exact ob (rin m1') (oF (znF (by rw [decide_eq_false (by omega), Bool.false_and])) rfl)
  by_cases l4 : a1.toInt < 4
  · obtain ⟨k, hk, ek⟩ := pin4 l0 l4
    have ik : xib a1 4 = true := gxb ek hk
    have K10 : (xu (xu (xcp m (37 + k) 10 114) 41 k (m.1 43 0)) 42 k 1).1 10 = m.1 10 := funext fun b => (xu_o (by omega)).trans ((xu_o (by omega)).trans (congrFun (xcp_o (by omega)) b))
    have v43 : (xcp m (37 + k) 10 114).1 43 0 = m.1 43 0 := congrFun (xcp_o (by omega)) 0
    refine ⟨(m.1 80 4, xu (xu (xcp m (37 + k) 10 114) 41 k (m.1 43 0)) 42 k 1), ?_, fun m1' w t1 => ?_⟩
    · refine oF (zcl.trans (decide_eq_false l0)) (oT (zcl.trans (decide_eq_true l4)) ?_)
      rw [if_pos ik, gxn ek]
      refine ob rfl ?_
      dsimp only
      rw [if_pos ik, if_pos ik, v43]
      exact ob (c81_9 (s := m.1 80) (by show R32 _ ((xu (xu (xcp m (37 + k) 10 114) 41 k (m.1 43 0)) 42 k 1).1 10); rw [K10]; exact R)) rfl
    · dsimp only at w ⊢
      have ko : ∀ a, a ≠ 37 + k → a ≠ 41 → a ≠ 42 → (xu (xu (xcp m (37 + k) 10 114) 41 k (m.1 43 0)) 42 k 1).1 a = m.1 a := fun a z1 z2 z3 => funext fun b => (xu_o (fun z => z3 z.1)).trans ((xu_o (fun z => z2 z.1)).trans (congrFun (xcp_o z1) b))
      have kr : ∀ j, j < 114 → (xu (xu (xcp m (37 + k) 10 114) 41 k (m.1 43 0)) 42 k 1).1 (37 + k) j = m.1 10 j := fun j hj => (xu_o (by omega)).trans ((xu_o (by omega)).trans (xcp_s hj))
      have k41 : ∀ j, (xu (xu (xcp m (37 + k) 10 114) 41 k (m.1 43 0)) 42 k 1).1 41 j = if j = k then m.1 43 0 else m.1 41 j := fun j => by
        rw [xu_o (by omega)]
        split
        · next z => rw [z, xu_s]
        · next z => exact (xu_o (fun y => z y.2)).trans (congrFun (xcp_o (by omega)) j)
      have k42 : ∀ j, (xu (xu (xcp m (37 + k) 10 114) 41 k (m.1 43 0)) 42 k 1).1 42 j = if j = k then 1 else m.1 42 j := fun j => by
        split
        · next z => rw [z, xu_s]
        · next z => exact (xu_o (fun y => z y.2)).trans ((xu_o (by omega)).trans (congrFun (xcp_o (by omega)) j))
      generalize xu (xu (xcp m (37 + k) 10 114) 41 k (m.1 43 0)) 42 k 1 = m1 at *
      have e80 : m1'.1 80 = m.1 80 := (w.1 80 0 148 (by decide)).trans (ko 80 (by omega) (by decide) (by decide))
      have e23 : m1'.1 70 23 = m.1 70 23 := (w.2 70 11 23 (by decide)).trans (congrFun (ko 70 (by omega) (by decide) (by decide)) 23)
      unfold D278
      obtain ⟨y, hy, q1, q2, q3, q4⟩ := r278_33 (F := F) hk ek F (v2 := 0) (m := xu (xu m1' 87 k 1) 86 k (m1'.1 70 23)) (i := 0) rfl (by omega) (by omega)
      refine ⟨y, ob (rin m1') (oT (znT (by rw [decide_eq_true (by omega), decide_eq_true (by omega)]; rfl)) ?_), fun _ => ?_, ?_⟩
      · dsimp only
        rw [if_pos ik, if_pos ik, gxn ek]
        exact hy
      · rw [q1, xu_o (by omega), xu_o (by omega), e80]
      · have u80 : (xu (xu m1' 87 k 1) 86 k (m1'.1 70 23)).1 80 = m.1 80 := (funext fun b => (xu_o (by omega)).trans (xu_o (by omega))).trans e80
        have o : ∀ a, a ≠ 85 → a ≠ 86 → a ≠ 87 → y.2.1 a = m1'.1 a := fun a z1 z2 z3 => (q2 a z1).trans (funext fun b => (xu_o (fun z => z2 z.1)).trans (xu_o (fun z => z3 z.1)))
        have y80 : y.2.1 80 = m.1 80 := (o 80 (by decide) (by decide) (by decide)).trans e80
        have y86 : ∀ j, y.2.1 86 j = if j = k then m.1 43 0 else m.1 86 j := fun j => by
          rw [q2 86 (by decide)]
          split
          · next z => rw [z, xu_s, e23, Mx]
          · next z => rw [xu_o (fun y => z y.2), xu_o (by omega), w.1 86 0 4 (by decide), ko 86 (by omega) (by decide) (by decide)]
        have y87 : ∀ j, y.2.1 87 j = if j = k then 1 else m.1 87 j := fun j => by
          rw [q2 87 (by decide), xu_o (by omega)]
          split
          · next z => rw [z, xu_s]
          · next z => rw [xu_o (fun y => z y.2), w.1 87 2 4 (by decide), ko 87 (by omega) (by decide) (by decide)]
        have y41 : ∀ j, y.2.1 41 j = if j = k then m.1 43 0 else m.1 41 j := fun j => by rw [o 41 (by decide) (by decide) (by decide), w.1 41 0 4 (by decide), k41]
        have y42 : ∀ j, y.2.1 42 j = if j = k then 1 else m.1 42 j := fun j => by rw [o 42 (by decide) (by decide) (by decide), w.1 42 2 4 (by decide), k42]
        refine ⟨⟨?_, by rw [y80]; exact I⟩, ⟨n, h, ⟨n20, h20⟩, ⟨?_, ?_, ?_⟩, ?_⟩, fun a ha => ?_, ?_⟩
        · rw [y80, o 10 (by decide) (by decide) (by decide), w.1 10 0 114 (by decide), ko 10 (by omega) (by decide) (by decide)]
          exact R
        · rw [o 14 (by decide) (by decide) (by decide), w.2 14 2 1 (by decide), ko 14 (by omega) (by decide) (by decide)]
          exact e1
        · rw [o 14 (by decide) (by decide) (by decide), w.2 14 2 2 (by decide), ko 14 (by omega) (by decide) (by decide)]
          exact e2
        · rw [o 70 (by decide) (by decide) (by decide), w.2 70 11 25 (by decide), ko 70 (by omega) (by decide) (by decide)]
          exact e3
        · rw [y80, o 81 (by decide) (by decide) (by decide), w.1 81 0 2480 (by decide), ko 81 (by omega) (by decide) (by decide)]
          exact rHx_c H (fun a a1 a2 => by rw [o a (by omega) (by omega) (by omega), xrw_16 w ⟨a1, a2⟩, ko a (by omega) (by omega) (by omega)])
        · rw [y87, y42, y86, y41]
          have o37 : y.2.1 (37 + a) = m1.1 (37 + a) := (o (37 + a) (by omega) (by omega) (by omega)).trans (xrw_37 w ⟨by omega, by omega⟩)
          by_cases z : a = k
          · subst z
            rw [if_pos rfl, if_pos rfl, if_pos rfl, if_pos rfl]
            have q : ∀ j, j < 148 → irow (y.2.1 85) a j = m.1 80 j := fun j hj => by
              show y.2.1 85 (148 * a + j) = _
              rw [q3 j (by omega) hj, u80]
            refine ⟨rfl, fun _ => ⟨R_c R q (fun j hj => by rw [o37]; exact kr j hj), I9_c I q, rfl⟩⟩
          · rw [if_neg z, if_neg z, if_neg z, if_neg z, o37, ko (37 + a) (by omega) (by omega) (by omega)]
            have q : ∀ j, j < 148 → irow (y.2.1 85) a j = irow (m.1 85) a j := fun j hj => by
              show y.2.1 85 (148 * a + j) = m.1 85 (148 * a + j)
              rw [q4 _ (by omega), xu_o (by omega), xu_o (by omega), w.1 85 0 592 (by decide), ko 85 (by omega) (by decide) (by decide)]
            refine ⟨(Mi a ha).1, fun nz => ?_⟩
            obtain ⟨b1, b2, b3⟩ := (Mi a ha).2 nz
            exact ⟨R_c b1 q (fun _ _ => rfl), I9_c b2 q, b3⟩
        · rw [o 70 (by decide) (by decide) (by decide), e23, o 43 (by decide) (by decide) (by decide), w.2 43 1 0 (by decide), ko 43 (by omega) (by decide) (by decide)]
          exact Mx
  · refine ⟨(_, _), oF (zcl.trans (decide_eq_false l0)) (oF (zcl.trans (decide_eq_false l4)) rfl), fun m1' w t1 => ⟨(-1, m1'), ?_, fun _ => rfl, rMx_w w M⟩⟩
    unfold D278
    exact ob (rin m1') (oF (znF (by rw [decide_eq_false (p := a1.toInt ≤ 3) (by omega), Bool.and_false])) rfl)
-- back
theorem r279_40 {k : Nat} (hk : k < 4) {v1 : Int32} (h1 : v1.toInt = (k : Int)) : ∀ (f : Nat) {v2 : Int32} {m : xS} {i : Nat}, v2.toInt = (i : Int) → i ≤ 148 → 148 < f + i → xP (D279_40 F f v1 v2 m) (fun v m' => v = m'.1 80 4 ∧ (∀ a, a ≠ 80 → m'.1 a = m.1 a) ∧ (∀ j, i ≤ j → j < 148 → m'.1 80 j = m.1 85 (148 * k + j)) ∧ ∀ j, (j < i ∨ 148 ≤ j) → m'.1 80 j = m.1 80 j)
  | 0, v2, m, i, hi, l1, l2 => by omega
  | f + 1, v2, m, i, hi, l1, l2 => by
    unfold D279_40
    refine xP_i (fun c => ?_) (fun c => ?_)
    · have c : (148 : Int) ≤ v2.toInt := zt c
      exact xP_r ⟨rfl, fun a _ => rfl, fun j hj hj2 => by omega, fun j _ => rfl⟩
    · have c : ¬ (148 : Int) ≤ v2.toInt := zf c
      have e := i148 h1 hi hk l1
      have a4 : v2.toNatClampNeg = i := by
        show Int.toNat _ = _
        rw [hi]
        omega
      refine xP_g (gxb e (by omega)) (xP_g (xib_t (by omega) (by omega)) ?_)
      rw [gxn e, a4]
      have e1 : (v2 + Int32.ofInt 1).toInt = v2.toInt + 1 := xa1 (by show _ ≤ _ + (1 : Int); omega) (by show _ + (1 : Int) ≤ _; omega)
      refine xP_m (r279_40 hk h1 f (i := i + 1) (by omega) (by omega) (by omega)) (fun v m' q => ?_)
      obtain ⟨q1, q2, q3, q4⟩ := q
      refine ⟨q1, fun a ha => (q2 a ha).trans (funext fun b => xu_o (fun z => ha z.1)), fun j hj hj2 => ?_, fun j hj => (q4 j (by omega)).trans (xu_o (by omega))⟩
      by_cases z : j = i
      · subst z
        rw [q4 _ (by omega), xu_s]
      · rw [q3 j (by omega) hj2, xu_o (by omega)]
theorem kBack (hF : 3000 ≤ F) {a1 : Int32} (M : rMx m) : xP (D156_0 F a1 m) (fun v1 m1 => ∀ m1', xrw m1 m1' → xT m1' → xP (D279 F a1 m1') (fun v2 m2 => (true = true → v1 = v2) ∧ rMx m2)) := by
  have M0 := M
  obtain ⟨⟨R, I⟩, ⟨n, h, ⟨n20, h20⟩, ⟨e1, e2, e3⟩, H⟩, Mi, Mx⟩ := M0
  have rin : ∀ m1 : xS, D158 F a1.toInt64 0 3 m1 = some (pB (decide (0 ≤ a1.toInt) && decide (a1.toInt ≤ 3)), m1) := fun m1 => r158 rfl rfl
  unfold D156_0
  by_cases l0 : a1.toInt < 0
  · refine ⟨(_, _), oT (zcl.trans (decide_eq_true l0)) rfl, fun m1' w t1 => ⟨(-1, m1'), ?_, fun _ => rfl, rMx_w w M⟩⟩
    unfold D279
    exact ob (rin m1') (oT (zeT (by rw [decide_eq_false (by omega), Bool.false_and])) rfl)
  by_cases l4 : a1.toInt < 4
  · obtain ⟨k, hk, ek⟩ := pin4 l0 l4
    have ik : xib a1 4 = true := gxb ek hk
    have mk := Mi k hk
    have b03 : (decide (0 ≤ a1.toInt) && decide (a1.toInt ≤ 3)) = true := by rw [decide_eq_true (by omega), decide_eq_true (by omega)]; rfl
    by_cases nz : m.1 42 k = 0
    · refine ⟨(_, _), oF (zcl.trans (decide_eq_false l0)) (oF (zc.trans (decide_eq_false (by show ¬ (4 : Int) ≤ _; omega))) ?_), fun m1' w t1 => ⟨(-1, m1'), ?_, fun _ => rfl, rMx_w w M⟩⟩
      · rw [if_pos ik, gxn ek]
        exact oF (znz nz) rfl
      · unfold D279
        refine ob (rin m1') (oF (zeF b03) ?_)
        dsimp only
        rw [if_pos ik, gxn ek]
        exact oF (znz (by rw [w.1 87 2 4 (by decide), mk.1]; exact nz)) rfl
    · obtain ⟨b1, b2, b3⟩ := mk.2 nz
      have ko : ∀ a, a ≠ 10 → a ≠ 14 → a ≠ 43 → (xu (xu (xcp m 10 (37 + k) 114) 43 0 (m.1 41 k)) 14 2 0).1 a = m.1 a := fun a z1 z2 z3 => funext fun b => (xu_o (fun z => z2 z.1)).trans ((xu_o (fun z => z3 z.1)).trans (congrFun (xcp_o z1) b))
      have kr : ∀ j, j < 114 → (xu (xu (xcp m 10 (37 + k) 114) 43 0 (m.1 41 k)) 14 2 0).1 10 j = m.1 (37 + k) j := fun j hj => (xu_o (by omega)).trans ((xu_o (by omega)).trans (xcp_s hj))
      have k1 : (xu (xu (xcp m 10 (37 + k) 114) 43 0 (m.1 41 k)) 14 2 0).1 14 1 = m.1 14 1 := (xu_o (by decide)).trans ((xu_o (by decide)).trans (congrFun (xcp_o (by decide)) 1))
      have k2 : (xu (xu (xcp m 10 (37 + k) 114) 43 0 (m.1 41 k)) 14 2 0).1 14 2 = 0 := xu_s _ _ _ _
      have k43 : (xu (xu (xcp m 10 (37 + k) 114) 43 0 (m.1 41 k)) 14 2 0).1 43 0 = m.1 41 k := (xu_o (by decide)).trans (xu_s _ _ _ _)
      have v41 : (xcp m 10 (37 + k) 114).1 41 k = m.1 41 k := congrFun (xcp_o (by decide)) k
      have R1 : R32 (irow (m.1 85) k) ((xu (xu (xcp m 10 (37 + k) 114) 43 0 (m.1 41 k)) 14 2 0).1 10) := R_c b1 (fun _ _ => rfl) kr
      refine ⟨(irow (m.1 85) k 4, xu (xu (xcp m 10 (37 + k) 114) 43 0 (m.1 41 k)) 14 2 0), ?_, fun m1' w t1 => ?_⟩
      · refine oF (zcl.trans (decide_eq_false l0)) (oF (zc.trans (decide_eq_false (by show ¬ (4 : Int) ≤ _; omega))) ?_)
        rw [if_pos ik, gxn ek]
        refine oT (znn nz) ?_
        rw [if_pos ik]
        refine ob rfl ?_
        dsimp only
        rw [if_pos ik, v41]
        exact ob rfl (ob (c81_9 R1) rfl)
      · dsimp only at w ⊢
        generalize xu (xu (xcp m 10 (37 + k) 114) 43 0 (m.1 41 k)) 14 2 0 = m1 at *
        unfold D279
        obtain ⟨y, hy, q1, q2, q3, q4⟩ := r279_40 (F := F) hk ek F (v2 := 0) (m := xu (xu m1' 70 23 (m1'.1 86 k)) 70 25 0) (i := 0) rfl (by omega) (by omega)
        have u85 : (xu (xu m1' 70 23 (m1'.1 86 k)) 70 25 0).1 85 = m.1 85 := (funext fun b => (xu_o (by omega)).trans (xu_o (by omega))).trans ((w.1 85 0 592 (by decide)).trans (ko 85 (by decide) (by decide) (by decide)))
        have o : ∀ a, a ≠ 80 → a ≠ 70 → y.2.1 a = m1'.1 a := fun a z1 z2 => (q2 a z1).trans (funext fun b => (xu_o (fun z => z2 z.1)).trans (xu_o (fun z => z2 z.1)))
        have hr : ∀ j, j < 148 → y.2.1 80 j = irow (m.1 85) k j := fun j hj => by
          rw [q3 j (by omega) hj, u85]
          rfl
        refine ⟨y, ob (rin m1') (oF (zeF b03) ?_), fun _ => ?_, ⟨?_, I9_c b2 hr⟩, ⟨n, 0, ⟨n20, by omega⟩, ⟨?_, ?_, ?_⟩, fun j hj => absurd hj (Nat.not_lt_zero j)⟩, fun a ha => ?_, ?_⟩
        · dsimp only
          rw [if_pos ik, gxn ek]
          refine oT (znn (by rw [w.1 87 2 4 (by decide), ko 87 (by decide) (by decide) (by decide), mk.1]; exact nz)) ?_
          rw [if_pos ik]
          exact hy
        · rw [q1, hr 4 (by omega)]
        · rw [o 10 (by decide) (by decide), w.1 10 0 114 (by decide)]
          exact R_c R1 hr (fun _ _ => rfl)
        · rw [o 14 (by decide) (by decide), w.2 14 2 1 (by decide), k1]
          exact e1
        · rw [o 14 (by decide) (by decide), w.2 14 2 2 (by decide), k2]
          rfl
        · rw [q2 70 (by decide), xu_s]
          rfl
        · rw [o 87 (by decide) (by decide), o 42 (by decide) (by decide), o 85 (by decide) (by decide), o 86 (by decide) (by decide), o 41 (by decide) (by decide), o (37 + a) (by omega) (by omega), w.1 87 2 4 (by decide), w.1 42 2 4 (by decide), w.1 85 0 592 (by decide), w.1 86 0 4 (by decide), w.1 41 0 4 (by decide), xrw_37 w ⟨by omega, by omega⟩, ko 87 (by decide) (by decide) (by decide), ko 42 (by decide) (by decide) (by decide), ko 85 (by decide) (by decide) (by decide), ko 86 (by decide) (by decide) (by decide), ko 41 (by decide) (by decide) (by decide), ko (37 + a) (by omega) (by omega) (by omega)]
          exact Mi a ha
        · rw [q2 70 (by decide), xu_o (by decide), xu_s, o 43 (by decide) (by decide), w.1 86 0 4 (by decide), ko 86 (by decide) (by decide) (by decide), w.2 43 1 0 (by decide), k43, b3]
  · refine ⟨(_, _), oF (zcl.trans (decide_eq_false l0)) (oT (zc.trans (decide_eq_true (by show (4 : Int) ≤ _; omega))) rfl), fun m1' w t1 => ⟨(-1, m1'), ?_, fun _ => rfl, rMx_w w M⟩⟩
    unfold D279
    exact ob (rin m1') (oT (zeT (by rw [decide_eq_false (p := a1.toInt ≤ 3) (by omega), Bool.and_false])) rfl)
-- seed
theorem kSeed {a1 : Int32} (M : rMx m) : xP (D152_0 F a1 m) (fun v1 m1 => ∀ m1', xrw m1 m1' → xT m1' → xP (D273 F a1 m1') (fun v2 m2 => (true = true → v1 = v2) ∧ rMx m2)) := by
  unfold D152_0 D273
  by_cases l0 : 0 ≤ a1.toInt
  · refine ⟨(_, _), oT (zc.trans (decide_eq_true l0)) rfl, fun m1' w t1 => ⟨(_, _), oT (zc.trans (decide_eq_true l0)) rfl, fun _ => ?_, ?_⟩⟩
    · show m.1 43 0 = m1'.1 70 23
      rw [w.2 70 11 23 (by decide)]
      exact M.2.2.2.symm
    · have M2 : rMx (xu (xu m 43 0 a1) 70 23 a1) := by
        have k : ∀ a, a ≠ 43 → a ≠ 70 → (xu (xu m 43 0 a1) 70 23 a1).1 a = m.1 a := fun a z1 z2 => funext fun b => (xu_o (fun z => z2 z.1)).trans (xu_o (fun z => z1 z.1))
        obtain ⟨⟨R, I⟩, ⟨n, h, ⟨n20, h20⟩, ⟨e1, e2, e3⟩, H⟩, Mi, Mx⟩ := M
        refine ⟨by rw [k 80 (by decide) (by decide), k 10 (by decide) (by decide)]; exact ⟨R, I⟩, ⟨n, h, ⟨n20, h20⟩, ⟨?_, ?_, ?_⟩, ?_⟩, fun a ha => ?_, ?_⟩
        · rw [k 14 (by decide) (by decide)]
          exact e1
        · rw [k 14 (by decide) (by decide)]
          exact e2
        · rw [xu_o (by decide), xu_o (by decide)]
          exact e3
        · rw [k 80 (by decide) (by decide), k 81 (by decide) (by decide)]
          exact rHx_c H (fun a a1 a2 => k a (by omega) (by omega))
        · rw [k 87 (by decide) (by decide), k 42 (by decide) (by decide), k 85 (by decide) (by decide), k 86 (by decide) (by decide), k 41 (by decide) (by decide), k (37 + a) (by omega) (by omega)]
          exact Mi a ha
        · rw [xu_s, xu_o (by decide), xu_s]
      have w2 : xrw (xu (xu m 43 0 a1) 70 23 a1) (xu m1' 70 23 a1) := by
        refine ⟨fun i k n ht => ?_, fun i a b ht => ?_⟩
        · by_cases z : i = 70
          · subst z
            exact absurd ht (by unfold xta; simp [show (yty 70).1 = 0 from rfl])
          · funext j
            rw [xu_o (fun y => z y.1), xu_o (fun y => z y.1), w.1 i k n ht]
        · by_cases z : i = 70 ∧ b = 23
          · obtain ⟨rfl, rfl⟩ := z
            rw [xu_s, xu_s]
          · rw [xu_o z, xu_o z]
            exact w.2 i a b ht
      exact rMx_w w2 M2
  · exact ⟨(_, _), oF (zc.trans (decide_eq_false l0)) rfl, fun m1' w t1 => ⟨(-1, m1'), oF (zc.trans (decide_eq_false l0)) rfl, fun _ => rfl, rMx_w w M⟩⟩
end KSTO
