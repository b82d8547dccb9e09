/-! The reference's village: clauses, the whole text, the call. -/
section VRF
variable {m0 : xS} {b : Nat → Int} {n p k : Nat} {s : Nat → Int} {m : xS} {F : Nat}
theorem tcls_c {w : List Int} {u : Nat} (h : tix w tCls = some u) : (u = 0 ∧ w = [118, 105, 108, 108, 97, 103, 101]) ∨ (u = 1 ∧ w = [116, 111, 111, 108]) ∨ (u = 2 ∧ w = [116, 114, 117, 115, 116]) ∨ (u = 3 ∧ w = [119, 111, 114, 107]) ∨ (u = 4 ∧ w = [116, 104, 97, 110, 107, 115]) := by
  unfold tCls at h
  by_cases c0 : w = [118, 105, 108, 108, 97, 103, 101]
  · subst c0
    have h : (0 : Nat) = u := Option.some.inj h
    exact Or.inl ⟨h.symm, rfl⟩
  rw [tix_ne c0] at h
  by_cases c1 : w = [116, 111, 111, 108]
  · subst c1
    have h : (1 : Nat) = u := Option.some.inj h
    exact Or.inr (Or.inl ⟨h.symm, rfl⟩)
  rw [tix_ne c1] at h
  by_cases c2 : w = [116, 114, 117, 115, 116]
  · subst c2
    have h : (2 : Nat) = u := Option.some.inj h
    exact Or.inr (Or.inr (Or.inl ⟨h.symm, rfl⟩))
  rw [tix_ne c2] at h
  by_cases c3 : w = [119, 111, 114, 107]
  · subst c3
    have h : (3 : Nat) = u := Option.some.inj h
    exact Or.inr (Or.inr (Or.inr (Or.inl ⟨h.symm, rfl⟩)))
  rw [tix_ne c3] at h
  by_cases c4 : w = [116, 104, 97, 110, 107, 115]
  · subst c4
    have h : (4 : Nat) = u := Option.some.inj h
    exact Or.inr (Or.inr (Or.inr (Or.inr ⟨h.symm, rfl⟩)))
  rw [tix_ne c4] at h
  cases h
theorem tcls_n {w : List Int} (h : tix w tCls = none) : w ≠ [118, 105, 108, 108, 97, 103, 101] ∧ w ≠ [116, 111, 111, 108] ∧ w ≠ [116, 114, 117, 115, 116] ∧ w ≠ [119, 111, 114, 107] ∧ w ≠ [116, 104, 97, 110, 107, 115] := by
  refine ⟨fun e => ?_, fun e => ?_, fun e => ?_, fun e => ?_, fun e => ?_⟩ <;> (subst e; cases h)
theorem rV_w0 (hF : 500 ≤ F) (h : rV m0 b n p 0 k s m) (e : tsk b n p = p) : xP (D167 F 33329961647564645 m) (fun r m' => rV m0 b n p 0 k s m' ∧ ((r = 1 ∧ twd b n p = [118, 105, 108, 108, 97, 103, 101]) ∨ (r = 0 ∧ twd b n p ≠ [118, 105, 108, 108, 97, 103, 101]))) := by
  have := rV_is (W := [118, 105, 108, 108, 97, 103, 101]) (w := 33329961647564645) hF h (by decide) (by decide) (by decide)
  rw [e] at this
  exact this
theorem rV_w1 (hF : 500 ≤ F) (h : rV m0 b n p 0 k s m) (e : tsk b n p = p) : xP (D167 F 1953460076 m) (fun r m' => rV m0 b n p 0 k s m' ∧ ((r = 1 ∧ twd b n p = [116, 111, 111, 108]) ∨ (r = 0 ∧ twd b n p ≠ [116, 111, 111, 108]))) := by
  have := rV_is (W := [116, 111, 111, 108]) (w := 1953460076) hF h (by decide) (by decide) (by decide)
  rw [e] at this
  exact this
theorem rV_w2 (hF : 500 ≤ F) (h : rV m0 b n p 0 k s m) (e : tsk b n p = p) : xP (D167 F 500136506228 m) (fun r m' => rV m0 b n p 0 k s m' ∧ ((r = 1 ∧ twd b n p = [116, 114, 117, 115, 116]) ∨ (r = 0 ∧ twd b n p ≠ [116, 114, 117, 115, 116]))) := by
  have := rV_is (W := [116, 114, 117, 115, 116]) (w := 500136506228) hF h (by decide) (by decide) (by decide)
  rw [e] at this
  exact this
theorem rV_w3 (hF : 500 ≤ F) (h : rV m0 b n p 0 k s m) (e : tsk b n p = p) : xP (D167 F 2003792491 m) (fun r m' => rV m0 b n p 0 k s m' ∧ ((r = 1 ∧ twd b n p = [119, 111, 114, 107]) ∨ (r = 0 ∧ twd b n p ≠ [119, 111, 114, 107]))) := by
  have := rV_is (W := [119, 111, 114, 107]) (w := 2003792491) hF h (by decide) (by decide) (by decide)
  rw [e] at this
  exact this
theorem rV_w4 (hF : 500 ≤ F) (h : rV m0 b n p 0 k s m) (e : tsk b n p = p) : xP (D167 F 127991660047219 m) (fun r m' => rV m0 b n p 0 k s m' ∧ ((r = 1 ∧ twd b n p = [116, 104, 97, 110, 107, 115]) ∨ (r = 0 ∧ twd b n p ≠ [116, 104, 97, 110, 107, 115]))) := by
  have := rV_is (W := [116, 104, 97, 110, 107, 115]) (w := 127991660047219) hF h (by decide) (by decide) (by decide)
  rw [e] at this
  exact this
/-- isVillageWord -/
theorem rV194 (hF : 500 ≤ F) (h : rV m0 b n p 0 k s m) (e : tsk b n p = p) : xP (D194 F m) (fun r m' => rV m0 b n p 0 k s m' ∧ ((r = 1 ∧ ∃ u, tix (twd b n p) tCls = some u) ∨ (r = 0 ∧ tix (twd b n p) tCls = none))) := by
  unfold D194 D194_50
  refine xP_b (rV_w0 hF h e) (fun r m1 q => ?_)
  obtain ⟨h1, q⟩ := q
  dsimp only
  rcases q with ⟨rfl, q⟩ | ⟨rfl, q0⟩
  · exact xP_i (fun _ => xP_r ⟨h1, Or.inl ⟨rfl, 0, by rw [q]; rfl⟩⟩) (fun c => absurd c (by decide))
  refine xP_i (fun c => absurd c (by decide)) (fun _ => ?_)
  refine xP_b (rV_w1 hF h1 e) (fun r m2 q => ?_)
  obtain ⟨h2, q⟩ := q
  dsimp only
  rcases q with ⟨rfl, q⟩ | ⟨rfl, q1⟩
  · exact xP_i (fun _ => xP_r ⟨h2, Or.inl ⟨rfl, 1, by rw [q]; rfl⟩⟩) (fun c => absurd c (by decide))
  refine xP_i (fun c => absurd c (by decide)) (fun _ => ?_)
  refine xP_b (rV_w2 hF h2 e) (fun r m3 q => ?_)
  obtain ⟨h3, q⟩ := q
  dsimp only
  rcases q with ⟨rfl, q⟩ | ⟨rfl, q2⟩
  · exact xP_i (fun _ => xP_r ⟨h3, Or.inl ⟨rfl, 2, by rw [q]; rfl⟩⟩) (fun c => absurd c (by decide))
  refine xP_i (fun c => absurd c (by decide)) (fun _ => ?_)
  refine xP_b (rV_w3 hF h3 e) (fun r m4 q => ?_)
  obtain ⟨h4, q⟩ := q
  dsimp only
  rcases q with ⟨rfl, q⟩ | ⟨rfl, q3⟩
  · exact xP_i (fun _ => xP_r ⟨h4, Or.inl ⟨rfl, 3, by rw [q]; rfl⟩⟩) (fun c => absurd c (by decide))
  refine xP_i (fun c => absurd c (by decide)) (fun _ => ?_)
  refine xP_b (rV_w4 hF h4 e) (fun r m5 q => ?_)
  obtain ⟨h5, q⟩ := q
  dsimp only
  rcases q with ⟨rfl, q⟩ | ⟨rfl, q4⟩
  · exact xP_i (fun c => absurd c (by decide)) (fun _ => xP_r ⟨h5, Or.inl ⟨rfl, 4, by rw [q]; rfl⟩⟩)
  · refine xP_i (fun _ => xP_r ⟨h5, Or.inr ⟨rfl, ?_⟩⟩) (fun c => absurd c (by decide))
    unfold tCls
    rw [tix_ne q0, tix_ne q1, tix_ne q2, tix_ne q3, tix_ne q4]
    rfl
theorem xbo_r {r : Int32} {o : Int ⊕ vSt} {m' : xS} (h : vrQ m0 b n k o r m') : xbo r = true := by
  unfold vrQ at h
  split at h
  · rw [h.1]; decide
  · rw [h.1]; decide
/-- a clause behind its word -/
theorem rV193 (hF : 500 ≤ F) (h : rV m0 b n p 0 (k + 1) s m) (e : tsk b n p = p) (ok : vOk s k) (k40 : k < 40) {v1 : Int32} (hv : v1.toInt = (p : Int)) {u : Nat} (hu : tix (twd b n p) tCls = some u) : xP (D193 F v1 m) (fun r m' => vrQ m0 b n (k + 1) (if vmay s k u = true then vbod b n (tS tlt b n p) s u else .inl (1 + 8 * (p : Int) + 4)) r m') := by
  have p4 : p ≤ 400 := Nat.le_trans h.2.2.1.2 h.2.1.2.1
  obtain ⟨o1, o2, o3, o4⟩ := ok
  obtain ⟨t, ht⟩ : ∃ t : Nat, s 2 = (t : Int) := ⟨(s 2).toNat, by omega⟩
  obtain ⟨t3, ht3⟩ : ∃ t : Nat, s 3 = (t : Int) := ⟨(s 3).toNat, by omega⟩
  have c := tcls_c hu
  unfold D193
  refine xP_b (rV_w0 hF h e) (fun r m1 q => ?_)
  obtain ⟨h1, q⟩ := q
  have s0 := h1.2.2.2.2.2 0 (by decide)
  dsimp only
  rcases c with ⟨rfl, hw⟩ | c
  · -- village
    rcases q with ⟨rfl, q⟩ | ⟨rfl, q⟩
    · refine xP_i (fun c => absurd c (by decide)) (fun _ => ?_)
      refine xP_b (rV187 hF h1 hv p4) (fun r m2 q2 => ?_)
      dsimp only
      rcases q2 with ⟨g1, rfl, g2⟩ | ⟨g1, g2⟩
      · refine xP_g (by decide) (xP_r ?_)
        have k0 : k ≠ 0 := fun z => by have := o1 z; omega
        have : vmay s k 0 = false := by unfold vmay; rw [if_neg k0]; rfl
        rw [this]
        exact ⟨rfl, g2⟩
      · refine xP_g (xbo_r g2) (xP_r ?_)
        have k0 : k = 0 := by
          by_cases z : k = 0
          · exact z
          · have := o2 (by omega); omega
        have : vmay s k 0 = true := by unfold vmay; rw [if_pos k0]; rfl
        rw [this]
        exact g2
    · exact absurd hw q
  have nv : u ≠ 0 := by rcases c with c | c | c | c <;> omega
  have hwn : twd b n p ≠ [118, 105, 108, 108, 97, 103, 101] := fun z => by
    rw [z] at hu
    have hu : (0 : Nat) = u := Option.some.inj hu
    omega
  rcases q with ⟨rfl, q⟩ | ⟨rfl, -⟩
  · exact absurd q hwn
  refine xP_i (fun _ => ?_) (fun c => absurd c (by decide))
  refine xP_i (fun c0 => ?_) (fun c0 => ?_)
  rotate_left
  · have c0 : (m1.1 76 0).toInt = 0 := Decidable.not_not.mp (zf c0)
    have k0 : k = 0 := by
      by_cases z : k = 0
      · exact z
      · have := o2 (by omega); omega
    refine xP_b (rV_x h1 hv p4 (x := 4) rfl (by decide) (by decide)) (fun r m2 q2 => ?_)
    obtain ⟨rfl, q2⟩ := q2
    dsimp only
    refine xP_g (by decide) (xP_r ?_)
    have : vmay s k u = false := by
      unfold vmay
      rw [if_pos k0]
      simpa using nv
    rw [this]
    exact ⟨rfl, q2⟩
  have c0 : (m1.1 76 0).toInt ≠ 0 := zt c0
  have k0 : k ≠ 0 := fun z => by have := o1 z; omega
  have s06 := o2 (by omega)
  have may : vmay s k u = ((u != 1 || decide (s 2 < 6)) && (u != 3 || decide (s 3 < 6))) := by
    unfold vmay
    rw [if_neg k0, decide_eq_true k40, show (u != 0) = true by simpa using nv]
    rfl
  rw [may]
  refine xP_b (rV_w1 hF h1 e) (fun r m2 q => ?_)
  obtain ⟨h2, q⟩ := q
  dsimp only
  rcases c with ⟨rfl, hw⟩ | c
  · rcases q with ⟨rfl, q⟩ | ⟨rfl, q⟩
    · refine xP_i (fun c => absurd c (by decide)) (fun _ => ?_)
      refine xP_b (rV188 hF h2 hv p4 ht (by omega) (by omega)) (fun r m3 q2 => ?_)
      dsimp only
      rcases q2 with ⟨g1, rfl, g2⟩ | ⟨g1, g2⟩
      · refine xP_g (by decide) (xP_r ?_)
        rw [decide_eq_false (p := s 2 < 6) (by omega)]
        exact ⟨rfl, g2⟩
      · refine xP_g (xbo_r g2) (xP_r ?_)
        rw [decide_eq_true (p := s 2 < 6) (by omega)]
        exact g2
    · exact absurd hw q
  have n1 : u ≠ 1 := by rcases c with c | c | c <;> omega
  rcases q with ⟨rfl, q⟩ | ⟨rfl, -⟩
  · rw [q] at hu
    have hu : (1 : Nat) = u := Option.some.inj hu
    omega
  refine xP_i (fun _ => ?_) (fun c => absurd c (by decide))
  refine xP_b (rV_w2 hF h2 e) (fun r m3 q => ?_)
  obtain ⟨h3, q⟩ := q
  dsimp only
  rcases c with ⟨rfl, hw⟩ | c
  · rcases q with ⟨rfl, q⟩ | ⟨rfl, q⟩
    · refine xP_i (fun c => absurd c (by decide)) (fun _ => ?_)
      refine xP_b (rV190 hF h3 (by omega)) (fun r m4 q2 => ?_)
      exact xP_g (xbo_r q2) (xP_r q2)
    · exact absurd hw q
  have n2 : u ≠ 2 := by rcases c with c | c <;> omega
  rcases q with ⟨rfl, q⟩ | ⟨rfl, -⟩
  · rw [q] at hu
    have hu : (2 : Nat) = u := Option.some.inj hu
    omega
  refine xP_i (fun _ => ?_) (fun c => absurd c (by decide))
  refine xP_b (rV_w3 hF h3 e) (fun r m4 q => ?_)
  obtain ⟨h4, q⟩ := q
  dsimp only
  rcases c with ⟨rfl, hw⟩ | ⟨rfl, hw⟩
  · rcases q with ⟨rfl, q⟩ | ⟨rfl, q⟩
    · refine xP_i (fun c => absurd c (by decide)) (fun _ => ?_)
      refine xP_b (rV192 hF h4 hv p4 ht3 (by omega) (by omega)) (fun r m5 q2 => ?_)
      dsimp only
      rcases q2 with ⟨g1, rfl, g2⟩ | ⟨g1, g2⟩
      · refine xP_g (by decide) (xP_r ?_)
        rw [decide_eq_false (p := s 3 < 6) (by omega)]
        exact ⟨rfl, g2⟩
      · refine xP_g (xbo_r g2) (xP_r ?_)
        rw [decide_eq_true (p := s 3 < 6) (by omega)]
        exact g2
    · exact absurd hw q
  · rcases q with ⟨rfl, q⟩ | ⟨rfl, -⟩
    · rw [q] at hu
      have hu : (3 : Nat) = 4 := Option.some.inj hu
      omega
    refine xP_i (fun _ => ?_) (fun c => absurd c (by decide))
    refine xP_b (rV191 hF h4 (by omega)) (fun r m5 q2 => ?_)
    exact xP_g (xbo_r q2) (xP_r q2)
/-- a clause -/
theorem rV195 (hF : 500 ≤ F) (h : rV m0 b n p 0 k s m) (ok : vOk s k) (k40 : k ≤ 40) : xP (D195 F m) (fun r m' => vrQ m0 b n (k + 1) (vcl b n k p s) r m') := by
  unfold D195
  refine xP_b (rV_see hF h) (fun v m1 q1 => ?_)
  obtain ⟨h1, -⟩ := q1
  have p4 : tsk b n p ≤ 400 := Nat.le_trans h1.2.2.1.2 h1.2.1.2.1
  have hv := h1.2.2.1.1
  have ei : tsk b n (tsk b n p) = tsk b n p := tS_id _
  have tw0 : twd b n (tsk b n p) = twd b n p := by
    show tw b (tS tbl b n (tS tbl b n p)) (tS tlt b n (tS tbl b n (tS tbl b n p))) = _
    rw [tS_id]
  dsimp only
  refine xP_i (fun c => ?_) (fun _ => ?_)
  · have c : (m1.1 70 11).toInt ≠ 6 := zt c
    exact absurd h1.2.2.2.2.1.1 c
  unfold D195_24
  refine xP_i (fun c => absurd c (by decide)) (fun _ => ?_)
  refine xP_b (rV194 hF h1 ei) (fun r m2 q2 => ?_)
  obtain ⟨h2, q2⟩ := q2
  rw [tw0] at q2
  dsimp only
  rcases q2 with ⟨rfl, u, hu⟩ | ⟨rfl, hu⟩
  · refine xP_i (fun _ => ?_) (fun c => absurd c (by decide))
    have vc : vcl b n k p s = if vmay s k u = true then vbod b n (tS tlt b n (tsk b n p)) s u else .inl (1 + 8 * (tsk b n p : Int) + 4) := by
      unfold vcl
      rw [hu]
    rw [vc]
    unfold D195_56
    refine xP_i (fun c => absurd c (by decide)) (fun _ => ?_)
    have hk := h2.2.2.2.2.1.2
    unfold D195_71
    refine xP_i (fun c => ?_) (fun c => ?_)
    · have c : (m2.1 70 14).toInt ≠ 40 := zt c
      refine xP_i (fun c => absurd c (by decide)) (fun _ => ?_)
      have h3 : rV m0 b n (tsk b n p) 0 (k + 1) s (xu m2 70 14 (m2.1 70 14 + 1)) := by
        obtain ⟨g1, g2, g3, g4, g5, g6⟩ := h2
        have e1 : (m2.1 70 14 + 1).toInt = (k : Int) + 1 := (xa1 (by show _ ≤ _ + (1 : Int); omega) (by show _ + (1 : Int) ≤ _; omega)).trans (by rw [hk]; rfl)
        have o : ∀ i, i ≠ 14 → (xu m2 70 14 (m2.1 70 14 + 1)).1 70 i = m2.1 70 i := fun i hi => xu_o (fun z => hi z.2)
        refine ⟨⟨xT_c g1.1 (i := 70) (j := 14) rfl (by omega) (by omega), xfr_t g1.2 (xfr_u rfl)⟩, ⟨by rw [o _ (by decide)]; exact g2.1, g2.2.1, fun i hi => ?_⟩, by rw [o _ (by decide)]; exact g3, by rw [o _ (by decide)]; exact g4, ⟨by rw [o _ (by decide)]; exact g5.1, by rw [xu_s]; exact e1⟩, fun i hi => ?_⟩
        · rw [xu_o (fun z => absurd z.1 (by decide))]
          exact g2.2.2 i hi
        · rw [xu_o (fun z => absurd z.1 (by decide))]
          exact g6 i hi
      refine xP_b (rV193 hF h3 ei ok (by omega) hv (u := u) (by rw [tw0]; exact hu)) (fun r m3 q3 => ?_)
      exact xP_g (xbo_r q3) (xP_r q3)
    · have c : (m2.1 70 14).toInt = 40 := Decidable.not_not.mp (zf c)
      refine xP_b (rV_x h2 hv p4 (x := 4) rfl (by decide) (by decide)) (fun r m3 q3 => ?_)
      obtain ⟨rfl, q3⟩ := q3
      dsimp only
      refine xP_g (by decide) (xP_r ?_)
      have : vmay s k u = false := by
        unfold vmay
        rw [if_neg (by omega), decide_eq_false (p := k < 40) (by omega), Bool.false_and, Bool.and_false]
      rw [this]
      exact ⟨rfl, q3⟩
  · refine xP_i (fun c => absurd c (by decide)) (fun _ => ?_)
    have vc : vcl b n k p s = .inl (1 + 8 * (tsk b n p : Int)) := by
      unfold vcl
      rw [hu]
    rw [vc]
    unfold D195_49
    refine xP_b (rV_x h2 hv p4 (x := 0) rfl (by decide) (by decide)) (fun r m3 q3 => ?_)
    obtain ⟨rfl, q3⟩ := q3
    dsimp only
    refine xP_g (by decide) (xP_r ⟨rfl, ?_⟩)
    rw [show (1 + 8 * (tsk b n p : Int) + 0) = 1 + 8 * (tsk b n p : Int) from Int.add_zero _] at q3
    exact q3
/-- a clause keeps the numbers -/
theorem vbod_ok {u : Nat} {e : Nat} {s' : Nat → Int} (ok : vOk s k) (hm : vmay s k u = true) (u5 : u < 5) (hp : p ≤ n) (h : vbod b n p s u = .inr (e, s')) : vOk s' (k + 1) ∧ e ≤ n := by
  obtain ⟨o1, o2, o3, o4⟩ := ok
  unfold vmay at hm
  unfold vbod at h
  by_cases u0 : u = 0
  · rw [if_pos u0] at h
    have k0 : k = 0 := by
      by_cases z : k = 0
      · exact z
      · rw [if_neg z, u0] at hm
        cases hm
    cases e1 : vnu b n p 2 6 with
    | inl g => rw [vn_l e1] at h; cases h
    | inr q1 =>
      obtain ⟨a, p1⟩ := q1
      rw [vn_r e1] at h
      have b1 := vnu_b e1
      cases e2 : vnu b n p1 1 20 with
      | inl g => rw [vn_l e2] at h; cases h
      | inr q2 =>
        obtain ⟨c, p2⟩ := q2
        rw [vn_r e2] at h
        have b2 := vnu_b e2
        have h := Sum.inr.inj h
        obtain ⟨h1, h2⟩ := Prod.mk.inj h
        subst h1
        subst h2
        refine ⟨⟨fun z => by omega, fun _ => ?_, ?_, ?_⟩, b2.2.2.1⟩
        · rw [vup_s]; omega
        · rw [vup_o (by decide), vup_o (by decide)]; exact o3
        · rw [vup_o (by decide), vup_o (by decide)]; exact o4
  rw [if_neg u0] at h
  have k0 : k ≠ 0 := fun z => by
    rw [if_pos z] at hm
    exact u0 (by simpa using hm)
  have s06 := o2 (by omega)
  rw [if_neg k0] at hm
  simp only [Bool.and_eq_true, Bool.or_eq_true, decide_eq_true_eq, bne_iff_ne] at hm
  obtain ⟨-, -, m1, m3⟩ := hm
  by_cases u1 : u = 1
  · rw [if_pos u1] at h
    have l6 := m1.resolve_left (fun z => z u1)
    cases e1 : vnu b n p 0 (s 0 - 1) with
    | inl g => rw [vn_l e1] at h; cases h
    | inr q1 =>
      obtain ⟨a, p1⟩ := q1
      rw [vn_r e1] at h
      cases e2 : vnu b n p1 0 4 with
      | inl g => rw [vn_l e2] at h; cases h
      | inr q2 =>
        obtain ⟨c, p2⟩ := q2
        rw [vn_r e2] at h
        cases e3 : vnu b n p2 0 9 with
        | inl g => rw [vn_l e3] at h; cases h
        | inr q3 =>
          obtain ⟨d, p3⟩ := q3
          rw [vn_r e3] at h
          have b3 := vnu_b e3
          have h := Sum.inr.inj h
          obtain ⟨h1, h2⟩ := Prod.mk.inj h
          subst h1
          subst h2
          unfold vTool
          refine ⟨⟨fun z => by omega, fun _ => ?_, ?_, ?_⟩, b3.2.2.1⟩
          · rw [vup_o (by omega), vup_o (by omega), vup_o (by omega), vup_o (by omega), vup_o (by omega), vup_o (by omega), vup_o (by omega)]; exact s06
          · rw [vup_s]; omega
          · rw [vup_o (by omega), vup_o (by omega), vup_o (by omega), vup_o (by omega), vup_o (by omega), vup_o (by omega), vup_o (by omega)]; exact o4
  rw [if_neg u1] at h
  by_cases u2 : u = 2
  · rw [if_pos u2] at h
    cases e1 : vtwoR b n p (s 0) with
    | inl g => rw [vtwo_l e1] at h; cases h
    | inr q1 =>
      obtain ⟨a, c, p1⟩ := q1
      have z := vtwo_r (K := fun a c e => (.inr (e, vup s (46 + 6 * a.toNat + c.toNat) 1) : Int ⊕ vSt)) e1
      rw [z.1] at h
      have h := Sum.inr.inj h
      obtain ⟨h1, h2⟩ := Prod.mk.inj h
      subst h1
      subst h2
      refine ⟨⟨fun z => by omega, fun _ => ?_, ?_, ?_⟩, z.2.2.2.2⟩
      · rw [vup_o (by omega)]; exact s06
      · rw [vup_o (by omega)]; exact o3
      · rw [vup_o (by omega)]; exact o4
  rw [if_neg u2] at h
  by_cases u3 : u = 3
  · rw [if_pos u3] at h
    have l6 := m3.resolve_left (fun z => z u3)
    cases e1 : vnu b n p 0 (s 0 - 1) with
    | inl g => rw [vn_l e1] at h; cases h
    | inr q1 =>
      obtain ⟨a, p1⟩ := q1
      rw [vn_r e1] at h
      cases e2 : vnu b n p1 0 4 with
      | inl g => rw [vn_l e2] at h; cases h
      | inr q2 =>
        obtain ⟨c, p2⟩ := q2
        rw [vn_r e2] at h
        cases e3 : vnu b n p2 1 20 with
        | inl g => rw [vn_l e3] at h; cases h
        | inr q3 =>
          obtain ⟨d, p3⟩ := q3
          rw [vn_r e3] at h
          cases e4 : vnu b n p3 1 50 with
          | inl g => rw [vn_l e4] at h; cases h
          | inr q4 =>
            obtain ⟨f, p4⟩ := q4
            rw [vn_r e4] at h
            have b4 := vnu_b e4
            have h := Sum.inr.inj h
            obtain ⟨h1, h2⟩ := Prod.mk.inj h
            subst h1
            subst h2
            unfold vWork
            refine ⟨⟨fun z => by omega, fun _ => ?_, ?_, ?_⟩, b4.2.2.1⟩
            · rw [vup_o (by omega), vup_o (by omega), vup_o (by omega), vup_o (by omega), vup_o (by omega)]; exact s06
            · rw [vup_o (by omega), vup_o (by omega), vup_o (by omega), vup_o (by omega), vup_o (by omega)]; exact o3
            · rw [vup_s]; omega
  rw [if_neg u3] at h
  cases e1 : vtwoR b n p (s 0) with
  | inl g => rw [vtwo_l e1] at h; cases h
  | inr q1 =>
    obtain ⟨a, c, p1⟩ := q1
    have z := vtwo_r (K := fun a c e => (vn b n e 0 9 fun d e2 => .inr (e2, vup s (82 + 6 * a.toNat + c.toNat) d) : Int ⊕ vSt)) e1
    rw [z.1] at h
    cases e2 : vnu b n p1 0 9 with
    | inl g => rw [vn_l e2] at h; cases h
    | inr q2 =>
      obtain ⟨d, p2⟩ := q2
      rw [vn_r e2] at h
      have b2 := vnu_b e2
      have h := Sum.inr.inj h
      obtain ⟨h1, h2⟩ := Prod.mk.inj h
      subst h1
      subst h2
      refine ⟨⟨fun z => by omega, fun _ => ?_, ?_, ?_⟩, b2.2.2.1⟩
      · rw [vup_o (by omega)]; exact s06
      · rw [vup_o (by omega)]; exact o3
      · rw [vup_o (by omega)]; exact o4
theorem vcl_ok {e : Nat} {s' : Nat → Int} (ok : vOk s k) (hp : p ≤ n) (h : vcl b n k p s = .inr (e, s')) : vOk s' (k + 1) ∧ e ≤ n ∧ k < 40 := by
  unfold vcl at h
  split at h
  · cases h
  · next u hu =>
    split at h
    · next hm =>
      have u5 : u < 5 := by
        rcases tcls_c hu with c | c | c | c | c <;> omega
      have l1 : tsk b n p ≤ n := tS_le _ hp
      have z := vbod_ok ok hm u5 (tS_le _ l1) h
      refine ⟨z.1, z.2, ?_⟩
      unfold vmay at hm
      by_cases k0 : k = 0
      · omega
      · rw [if_neg k0] at hm
        simp only [Bool.and_eq_true, decide_eq_true_eq] at hm
        exact hm.2.1
    · cases h
def vrW (m0 : xS) (o : Int ⊕ (Nat → Int)) (v : Int32) (m : xS) : Prop := (xT m ∧ xfr vM m0 m) ∧ (match o with
  | .inl g => v = 0 ∧ g ≠ 0 ∧ (m.1 70 9).toInt = g
  | .inr s => v = 1 ∧ (m.1 70 9).toInt = 0 ∧ ∀ j, j < 148 → (m.1 76 j).toInt = s j)
theorem rV196_88l {g : Int} {v1 : Int32} {s' : Nat → Int} (h : vrX m0 g m) : xP (D196_88 F v1 m) (fun v m' => vrW m0 (.inl g) v m') := by
  unfold D196_88
  refine xP_i (fun _ => xP_r ⟨⟨xT_c h.1.1 (i := 70) (j := 1) rfl (by decide) (by decide), xfr_t h.1.2 (xfr_u rfl)⟩, rfl, h.2.2, (congrArg Int32.toInt (xu_o (by decide))).trans h.2.1⟩) (fun c => ?_)
  have c : (m.1 70 9).toInt = 0 := Decidable.not_not.mp (zf c)
  exact absurd (h.2.1.symm.trans c) h.2.2
theorem rV196_66l {g : Int} (h : vrX m0 g m) : xP (D196_66 F 0 m) (fun v m' => vrW m0 (.inl g) v m') := by
  unfold D196_66
  exact xP_i (fun _ => rV196_88l (s' := fun _ => 0) h) (fun c => absurd c (by decide))
/-- the loop over clauses -/
theorem rV196_35 (hF : 500 ≤ F) : ∀ (g f : Nat) {k p : Nat} {s : Nat → Int} {r : Int32} {m : xS}, g ≤ f → k + g = 41 → vOk s k → p ≤ n → vrQ m0 b n (k + 1) (vcl b n k p s) r m → xP (D196_35 F (f + 1) r m) (fun v m' => vrW m0 (vrun b n (g + 1) k p s) v m') := by
  intro g
  induction g with
  | zero =>
    intro f k p s r m _ hk ok hp h
    have n4 : vrun b n (0 + 1) k p s = (match vcl b n k p s with
      | .inl g => .inl g
      | .inr q => if tsg b n (tsk b n q.1) = 59 then vrun b n 0 (k + 1) (tsk b n q.1 + 1) q.2 else if tsg b n (tsk b n q.1) = -1 then .inr q.2 else .inl (1 + 8 * (tsk b n q.1 : Int))) := rfl
    cases hc : vcl b n k p s with
    | inl x =>
      rw [hc] at h n4
      obtain ⟨rfl, h⟩ := h
      rw [n4]
      unfold D196_35
      exact xP_i (fun _ => rV196_66l h) (fun c => absurd c (by decide))
    | inr q =>
      obtain ⟨e, s'⟩ := q
      have := (vcl_ok ok hp hc).2.2
      omega
  | succ g ih =>
    intro f k p s r m hf hk ok hp h
    have nx : vrun b n (g + 1 + 1) k p s = (match vcl b n k p s with
      | .inl g => .inl g
      | .inr q => if tsg b n (tsk b n q.1) = 59 then vrun b n (g + 1) (k + 1) (tsk b n q.1 + 1) q.2 else if tsg b n (tsk b n q.1) = -1 then .inr q.2 else .inl (1 + 8 * (tsk b n q.1 : Int))) := rfl
    rw [nx]
    unfold D196_35
    cases hc : vcl b n k p s with
    | inl x =>
      rw [hc] at h
      obtain ⟨rfl, h⟩ := h
      exact xP_i (fun _ => rV196_66l h) (fun c => absurd c (by decide))
    | inr q =>
      obtain ⟨e, s'⟩ := q
      obtain ⟨ok', en, k40⟩ := vcl_ok ok hp hc
      rw [hc] at h
      obtain ⟨rfl, h⟩ := h
      refine xP_i (fun c => absurd c (by decide)) (fun _ => ?_)
      refine xP_b (rV_see hF h) (fun v m1 q1 => ?_)
      obtain ⟨h1, e1⟩ := q1
      dsimp only at h1 e1 ⊢
      have l1 : tsk b n e ≤ n := tS_le _ en
      refine xP_i (fun c => ?_) (fun c => ?_)
      · have c : v.toInt ≠ 59 := zt c
        rw [if_neg (by omega)]
        unfold D196_66
        refine xP_i (fun c => absurd c (by decide)) (fun _ => ?_)
        refine xP_b (rV_see hF h1) (fun v2 m2 q2 => ?_)
        obtain ⟨h2, e2⟩ := q2
        rw [tsk_id] at h2 e2
        dsimp only
        refine xP_i (fun d => ?_) (fun d => ?_)
        · have d : v2 = -1 := zeq d
          rw [if_pos (by rw [← e2, d]; rfl)]
          unfold D196_88
          have f0 := h2.2.2.2.1
          refine xP_i (fun c => ?_) (fun _ => xP_r ⟨⟨xT_c h2.1.1 (i := 70) (j := 1) rfl (by decide) (by decide), xfr_t h2.1.2 (xfr_u rfl)⟩, rfl, (congrArg Int32.toInt (xu_o (by decide))).trans f0, fun j hj => (congrArg Int32.toInt (xu_o (fun z => absurd z.1 (by decide)))).trans (h2.2.2.2.2.2 j hj)⟩)
          have c : (m2.1 70 9).toInt ≠ 0 := zt c
          exact absurd f0 c
        · have d : v2 ≠ -1 := zneq d
          have d2 : tsg b n (tsk b n e) ≠ -1 := fun z => d (Int32.toInt_inj.mp (e2.trans z))
          rw [if_neg d2]
          refine xP_b (rV_x h2 h2.2.2.1.1 (Nat.le_trans l1 h2.2.1.2.1) (x := 0) rfl (by decide) (by decide)) (fun r m3 q3 => ?_)
          obtain ⟨-, q3⟩ := q3
          rw [show (1 + 8 * (tsk b n e : Int) + 0) = 1 + 8 * (tsk b n e : Int) from Int.add_zero _] at q3
          exact rV196_88l (s' := fun _ => 0) q3
      · have c : v.toInt = 59 := Decidable.not_not.mp (zf c)
        have c2 : tsg b n (tsk b n e) = 59 := e1.symm.trans c
        have lt : tsk b n e < n := by
          unfold tsg at c2
          split at c2
          · assumption
          · omega
        rw [if_pos c2]
        have n4 : n ≤ 400 := h1.2.1.2.1
        have h8 := h1.2.2.1.1
        have e8 : (m1.1 70 8 + 1).toInt = ((tsk b n e + 1 : Nat) : Int) := (xa1 (by show _ ≤ _ + (1 : Int); omega) (by show _ + (1 : Int) ≤ _; omega)).trans (by rw [h8]; rfl)
        have h2 : rV m0 b n (tsk b n e + 1) 0 (k + 1) s' (xu m1 70 8 (m1.1 70 8 + 1)) := rV_of h1 (rT_p (rV_T h1) e8 n4 lt)
        refine xP_b (rV195 hF h2 ok' (by omega)) (fun r2 m2 q2 => ?_)
        obtain ⟨f', rfl⟩ : ∃ f', f = f' + 1 := ⟨f - 1, by omega⟩
        exact ih f' (by omega) (by omega) ok' lt q2
/-- readsAll -/
theorem rV196 (hF : 500 ≤ F) (N : rN m b n) (hX : xT m) (h11 : (m.1 70 11).toInt = 6) (h76 : ∀ j, j < 148 → (m.1 76 j).toInt = 0) : xP (D196 F m) (fun v m' => vrW m (vrun b n 42 0 0 (fun _ => 0)) v m') := by
  have et : (m.1 70 11).toNatClampNeg = 6 := by show (m.1 70 11).toInt.toNat = 6; omega
  unfold D196
  rw [et]
  refine xP_g (xib_t (by omega) (by omega)) ?_
  have b73 : xbn 73 6 = some (0, 400) := xbn_a (k := 0) (n := 7) (ec := 11) (by decide) rfl (by decide) (by decide)
  have hV : rV m b n 0 0 0 (fun _ => 0) (xu (xu (xu (xu (xu m 73 6 0) 70 14 0) 70 8 0) 70 9 0) 70 12 0) := by
    have q70 : ∀ {j : Nat}, j ≠ 14 → j ≠ 8 → j ≠ 9 → j ≠ 12 → (xu (xu (xu (xu (xu m 73 6 0) 70 14 0) 70 8 0) 70 9 0) 70 12 0).1 70 j = m.1 70 j := fun z1 z2 z3 z4 => (xu_o (fun z => z4 z.2)).trans ((xu_o (fun z => z3 z.2)).trans ((xu_o (fun z => z2 z.2)).trans ((xu_o (fun z => z1 z.2)).trans (xu_o (fun z => absurd z.1 (by decide))))))
    have qo : ∀ {i j : Nat}, i ≠ 70 → i ≠ 73 → (xu (xu (xu (xu (xu m 73 6 0) 70 14 0) 70 8 0) 70 9 0) 70 12 0).1 i j = m.1 i j := fun z1 z2 => (xu_o (fun z => z1 z.1)).trans ((xu_o (fun z => z1 z.1)).trans ((xu_o (fun z => z1 z.1)).trans ((xu_o (fun z => z1 z.1)).trans (xu_o (fun z => z2 z.1)))))
    refine ⟨⟨xT_c (xT_c (xT_c (xT_c (xT_c hX b73 (by decide) (by decide)) (i := 70) (j := 14) rfl (by decide) (by decide)) (i := 70) (j := 8) rfl (by decide) (by decide)) (i := 70) (j := 9) rfl (by decide) (by decide)) (i := 70) (j := 12) rfl (by decide) (by decide), xfr_t (xfr_t (xfr_t (xfr_t (xfr_u rfl) (xfr_u rfl)) (xfr_u rfl)) (xfr_u rfl)) (xfr_u rfl)⟩, ⟨by rw [q70 (by decide) (by decide) (by decide) (by decide)]; exact N.1, N.2.1, fun j hj => by rw [qo (by decide) (by decide)]; exact N.2.2 j hj⟩, ⟨?_, Nat.zero_le _⟩, ?_, ⟨by rw [q70 (by decide) (by decide) (by decide) (by decide)]; exact h11, ?_⟩, fun j hj => by rw [qo (by decide) (by decide)]; exact h76 j hj⟩
    · rw [(xu_o (by decide)).trans ((xu_o (by decide)).trans (xu_s _ _ _ _))]
      rfl
    · rw [(xu_o (by decide)).trans (xu_s _ _ _ _)]
      rfl
    · rw [(xu_o (by decide)).trans ((xu_o (by decide)).trans ((xu_o (by decide)).trans (xu_s _ _ _ _)))]
      rfl
  have ok0 : vOk (fun _ => 0) 0 := ⟨fun _ => rfl, fun z => absurd z (by decide), by decide, by decide⟩
  refine xP_b (rV195 hF hV ok0 (by decide)) (fun r m1 q1 => ?_)
  obtain ⟨f', hf⟩ : ∃ f', F = f' + 1 := ⟨F - 1, by omega⟩
  have z := rV196_35 hF 41 f' (by omega) rfl ok0 (Nat.zero_le _) q1
  rw [← hf] at z
  exact z
/-- behind the call: a fault, and said stays; or the village is said -/
def rVQ (m0 : xS) (b : Nat → Int) (n : Nat) (v : Int32) (m : xS) : Prop := (∃ g, vrun b n 42 0 0 (fun _ => 0) = .inl g ∧ g ≠ 0 ∧ v.toInt = -2 - g ∧ (∀ j, m.1 80 j = m0.1 80 j) ∧ m.1 70 25 = m0.1 70 25) ∨ (∃ s, vrun b n 42 0 0 (fun _ => 0) = .inr s ∧ v.toInt = s 2 ∧ (∀ j, j < 148 → (m.1 80 j).toInt = if 118 ≤ j ∧ j < 124 then -1 else s j) ∧ m.1 70 25 = 0)
theorem rV198_72 {s' : Nat → Int} : ∀ (f : Nat) {i : Nat} {v1 : Int32} {m : xS}, v1.toInt = (i : Int) → i ≤ 6 → 6 - i < f → (∀ j, j < 148 → (m.1 80 j).toInt = if 118 ≤ j ∧ j < 118 + i then -1 else s' j) → xP (D198_72 F f v1 m) (fun v m' => v.toInt = s' 2 ∧ (∀ j, j < 148 → (m'.1 80 j).toInt = if 118 ≤ j ∧ j < 124 then -1 else s' j) ∧ m'.1 70 25 = 0) := by
  intro f
  induction f with
  | zero => intro i v1 m _ _ l; omega
  | succ f ih =>
    intro i v1 m hv h6 hf h
    unfold D198_72
    refine xP_i (fun c => xP_r ⟨?_, fun j hj => ?_, xu_s _ _ _ _⟩) (fun c => ?_)
    · have := h 2 (by decide)
      rw [if_neg (by omega)] at this
      exact this
    · have c : (6 : Int) ≤ v1.toInt := zt c
      rw [xu_o (fun z => absurd z.1 (by decide)), h j hj]
      have : i = 6 := by omega
      rw [this]
    · have c : ¬ (6 : Int) ≤ v1.toInt := zf c
      have e1 : ((118 : Int32) + v1).toInt = ((118 + i : Nat) : Int) := ixp (c := 118) rfl hv (by omega)
      refine xP_g (xib_t (by omega) (by omega)) (ih (i := i + 1) (xinc hv (by omega)) (by omega) (by omega) (fun j hj => ?_))
      rw [show ((118 : Int32) + v1).toNatClampNeg = 118 + i by show Int.toNat _ = _; omega]
      by_cases e : j = 118 + i
      · subst e
        rw [xu_s, if_pos (by omega)]
        rfl
      · rw [xu_o (fun z => e z.2), h j hj]
        by_cases d : 118 ≤ j ∧ j < 118 + i
        · rw [if_pos d, if_pos (by omega)]
        · rw [if_neg d, if_neg (by omega)]
theorem rV198_45 {s' : Nat → Int} (hF : 500 ≤ F) : ∀ (f : Nat) {i : Nat} {v1 : Int32} {m : xS}, v1.toInt = (i : Int) → i ≤ 148 → 148 - i < f → (∀ j, j < 148 → (m.1 76 j).toInt = s' j) → (∀ j, j < i → (m.1 80 j).toInt = s' j) → xP (D198_45 F f v1 m) (fun v m' => v.toInt = s' 2 ∧ (∀ j, j < 148 → (m'.1 80 j).toInt = if 118 ≤ j ∧ j < 124 then -1 else s' j) ∧ m'.1 70 25 = 0) := by
  intro f
  induction f with
  | zero => intro i v1 m _ _ l; omega
  | succ f ih =>
    intro i v1 m hv h6 hf h76 h80
    have ei : v1.toNatClampNeg = i := by show v1.toInt.toNat = i; omega
    unfold D198_45
    refine xP_i (fun c => ?_) (fun c => ?_)
    · have c : (148 : Int) ≤ v1.toInt := zt c
      exact rV198_72 F (i := 0) rfl (by omega) (by omega) (fun j hj => by rw [if_neg (by omega)]; exact h80 j (by omega))
    · have c : ¬ (148 : Int) ≤ v1.toInt := zf c
      rw [ei]
      refine xP_g (xib_t (by omega) (by omega)) (xP_g (xib_t (by omega) (by omega)) (ih (i := i + 1) (xinc hv (by omega)) (by omega) (by omega) (fun j hj => (congrArg Int32.toInt (xu_o (fun z => absurd z.1 (by decide)))).trans (h76 j hj)) (fun j hj => ?_)))
      by_cases e : j = i
      · subst e
        rw [xu_s]
        exact h76 j (by omega)
      · rw [xu_o (fun z => e z.2)]
        exact h80 j (by omega)
theorem rV198_8 (hF : 500 ≤ F) : ∀ (f : Nat) {i : Nat} {v1 : Int32} {m : xS}, v1.toInt = (i : Int) → i ≤ 148 → 148 - i < f → xT m → rN m b n → (m.1 70 11).toInt = 6 → (∀ j, j < i → (m.1 76 j).toInt = 0) → xP (D198_8 F f v1 m) (rVQ m b n) := by
  intro f
  induction f with
  | zero => intro i v1 m _ _ l; omega
  | succ f ih =>
    intro i v1 m hv h6 hf hX N h11 h76
    have ei : v1.toNatClampNeg = i := by show v1.toInt.toNat = i; omega
    unfold D198_8
    refine xP_i (fun c => ?_) (fun c => ?_)
    · have c : (148 : Int) ≤ v1.toInt := zt c
      refine xP_b (rV196 hF N hX h11 (fun j hj => h76 j (by omega))) (fun v m1 q => ?_)
      obtain ⟨⟨q1, q2⟩, q3⟩ := q
      dsimp only
      cases hr : vrun b n 42 0 0 (fun _ => 0) with
      | inl g =>
        rw [hr] at q3
        obtain ⟨rfl, g0, g9⟩ := q3
        refine xP_i (fun c => absurd c (by decide)) (fun _ => xP_r (Or.inl ⟨g, hr, g0, ?_, fun j => q2.2 80 j (by unfold yinM; rfl), q2.2 70 25 rfl⟩))
        have b9 : 0 ≤ (m1.1 70 9).toInt ∧ (m1.1 70 9).toInt ≤ 4000 := q1 70 9 (0, 4000) rfl
        exact (xs1 (by show _ ≤ (-2 : Int) - _; omega) (by show (-2 : Int) - _ ≤ _; omega)).trans (by rw [g9]; rfl)
      | inr s' =>
        rw [hr] at q3
        obtain ⟨rfl, -, g76⟩ := q3
        refine xP_i (fun _ => ?_) (fun c => absurd c (by decide))
        exact xP_m (rV198_45 hF F (i := 0) rfl (by omega) (by omega) g76 (fun j hj => absurd hj (Nat.not_lt_zero _))) (fun v m' q => Or.inr ⟨s', hr, q⟩)
    · have c : ¬ (148 : Int) ≤ v1.toInt := zf c
      rw [ei]
      refine xP_g (xib_t (by omega) (by omega)) ?_
      have o : ∀ j, (xu m 76 i 0).1 70 j = m.1 70 j := fun j => xu_o (fun z => absurd z.1 (by decide))
      refine xP_m (ih (i := i + 1) (m := xu m 76 i 0) (xinc hv (by omega)) (by omega) (by omega) (xT_u hX (fun q hq => b76 (l := 0) (u := 5) (Or.inl ⟨by decide, by decide⟩) ⟨by decide, by decide⟩ q hq)) ⟨by rw [o]; exact N.1, N.2.1, fun j hj => by rw [xu_o (fun z => absurd z.1 (by decide))]; exact N.2.2 j hj⟩ (by rw [o]; exact h11) (fun j hj => ?_)) (fun v m' q => ?_)
      · by_cases e : j = i
        · subst e
          rw [xu_s]
          rfl
        · rw [xu_o (fun z => e z.2)]
          exact h76 j (by omega)
      · rcases q with ⟨g, g1, g2, g3, g4, g5⟩ | q
        · exact Or.inl ⟨g, g1, g2, g3, fun j => (g4 j).trans (xu_o (fun z => absurd z.1 (by decide))), g5.trans (o _)⟩
        · exact Or.inr q
/-- village -/
theorem rV198 (hF : 500 ≤ F) (N : rN m b n) (hX : xT m) : xP (D198 F m) (rVQ m b n) := by
  unfold D198
  refine xP_m (rV198_8 hF F (i := 0) (m := xu m 70 11 6) (b := b) (n := n) rfl (by omega) (by omega) (xT_c hX (i := 70) (j := 11) rfl (by decide) (by decide)) ⟨(congrArg Int32.toInt (xu_o (by decide))).trans N.1, N.2.1, fun j hj => by rw [xu_o (fun z => absurd z.1 (by decide))]; exact N.2.2 j hj⟩ (by rw [xu_s]; rfl) (fun j hj => absurd hj (Nat.not_lt_zero _))) (fun v m' q => ?_)
  rcases q with ⟨g, g1, g2, g3, g4, g5⟩ | q
  · exact Or.inl ⟨g, g1, g2, g3, fun j => (g4 j).trans (xu_o (fun z => absurd z.1 (by decide))), g5.trans (xu_o (by decide))⟩
  · exact Or.inr q
end VRF
