/-! What can be undone: the class's ring of rows, the reference's row of rows. -/
theorem R_c {s s' c c' : Nat → Int32} (R : R32 s c) (hs : ∀ j, j < 148 → s' j = s j) (hc : ∀ j, j < 114 → c' j = c j) : R32 s' c' := by
  obtain ⟨h1, h2, h4, h5, h6, h7⟩ := R
  have e : ∀ j, j < 148 → sI s' j = sI s j := fun j hj => congrArg Int32.toInt (hs j hj)
  refine ⟨fun j hj => ?_, fun t w ht hw => ?_, fun w k hw hk => ?_, fun w hw l => ?_, fun a d ha hd => ?_, fun a d ha hd => ?_⟩
  · rw [hc j (by omega), e j (by omega)]
    exact h1 j hj
  · rw [hc _ (by omega), e _ (by omega)]
    exact h2 t w ht hw
  · rw [hc _ (by omega), e _ (by omega)]
    exact h4 w k hw hk
  · rw [e 3 (by omega)] at l
    rw [hc _ (by omega), e _ (by omega)]
    exact h5 w hw l
  · rw [hc _ (by omega), e _ (by omega)]
    exact h6 a d ha hd
  · rw [hc _ (by omega), e _ (by omega)]
    exact h7 a d ha hd
theorem I_c {s s' : Nat → Int32} (I : vI s) (hs : ∀ j, j < 148 → s' j = s j) : vI s' := by
  have lt := I_nt I
  have lw := I_nw I
  refine ⟨?_, fun t ht => ?_, fun u hu => ?_, fun b hb => ?_, fun b f hb hf => ?_⟩
  · unfold vIa
    rw [hs 0 (by omega), hs 1 (by omega), hs 2 (by omega), hs 3 (by omega), hs 4 (by omega)]
    exact I.1
  · rw [hs 2 (by omega)] at ht
    rw [hs 0 (by omega), hs 4 (by omega), hs _ (by omega), hs _ (by omega), hs _ (by omega), hs _ (by omega)]
    exact I.2.1 t ht
  · rw [hs 3 (by omega)] at hu
    rw [hs 0 (by omega), hs _ (by omega), hs _ (by omega), hs _ (by omega)]
    exact I.2.2.1 u hu
  · rw [hs _ (by omega), hs _ (by omega)]
    exact I.2.2.2.1 b hb
  · rw [hs _ (by omega)]
    exact I.2.2.2.2 b f hb hf
theorem I9_c {s s' : Nat → Int32} (I : vI9 s) (hs : ∀ j, j < 148 → s' j = s j) : vI9 s' := ⟨I_c I.1 hs, by rw [hs 4 (by omega)]; exact I.2⟩
/-- what the reference keeps at place j -/
def hrow (s w : Nat → Int32) (j : Nat) : Nat → Int32 := fun k => if k < 124 then w (124 * j + k) else s k
/-- n: the class's next row, h: how many; s: said, w: wasSaid, r: the class's rows -/
def rHx (n h : Nat) (s w : Nat → Int32) (r : Nat → Nat → Int32) : Prop := ∀ j, j < h → R32 (hrow s w j) (r (16 + (n + 20 - h + j) % 20)) ∧ vI9 (hrow s w j)
/-- the class's row is kept -/
def kpc (m : xS) (n h : Nat) : xS := xu (xu (xcp m (16 + n) 10 114) 14 1 (Int32.ofNat ((n + 1) % 20))) 14 2 (Int32.ofNat (min 20 (h + 1)))
section PHI
variable {m m' : xS} {F n h : Nat} {s s' w w' : Nat → Int32} {r r' : Nat → Nat → Int32}
theorem c16_9 (hn : m.1 14 1 = Int32.ofNat n) (hh : m.1 14 2 = Int32.ofNat h) (n20 : n < 20) (h20 : h ≤ 20) : D16_14_9 F m = some ((), kpc m n h) := by
  have key : (List.range 20).all (fun n => (Int32.ofNat n + 1 - (Int32.ofNat n + 1) / 20 * 20) == Int32.ofNat ((n + 1) % 20)) = true := by decide +kernel
  have key2 : (List.range 21).all (fun h => (if Int32.ofNat h + 1 < 20 then Int32.ofNat h + 1 else 20) == Int32.ofNat (min 20 (h + 1))) = true := by decide +kernel
  have k1 := eq_of_beq (List.all_eq_true.mp key n (List.mem_range.mpr n20))
  have k2 := eq_of_beq (List.all_eq_true.mp key2 h (List.mem_range.mpr (by omega)))
  have en := nJ (n := n) (by omega)
  unfold D16_14_9 D68_9_S16_20
  rw [hn, gxn en, if_pos (gxb en n20)]
  refine ob rfl ?_
  dsimp only
  have e1 : (xcp m (16 + n) 10 114).1 14 1 = Int32.ofNat n := by rw [xcp_o (by omega)]; exact hn
  have e2 : (xcp m (16 + n) 10 114).1 14 2 = Int32.ofNat h := by rw [xcp_o (by omega)]; exact hh
  rw [e1, e2, k1, k2]
  rfl
theorem kpc_r {a : Nat} (h1 : a ≠ 14) (h2 : a ≠ 16 + n) : (kpc m n h).1 a = m.1 a := by
  funext b
  unfold kpc
  rw [xu_o (fun z => h1 z.1), xu_o (fun z => h1 z.1), xcp_o h2]
theorem kpc_k {j : Nat} (n20 : n < 20) (hj : j < 114) : (kpc m n h).1 (16 + n) j = m.1 10 j := by
  unfold kpc
  rw [xu_o (by omega), xu_o (by omega), xcp_s hj]
theorem kpc_1 : (kpc m n h).1 14 1 = Int32.ofNat ((n + 1) % 20) := by
  unfold kpc
  rw [xu_o (by omega), xu_s]
theorem kpc_2 : (kpc m n h).1 14 2 = Int32.ofNat (min 20 (h + 1)) := xu_s _ _ _ _
/-- what can be undone once a row more is kept on both sides -/
theorem rH_k (H : rHx n h s w r) (n20 : n < 20) (h20 : h ≤ 20) (R : R32 s (r' (16 + n))) (I : vI9 s) (hr : ∀ a, a ≠ 16 + n → r' a = r a) (hs : ∀ k, 124 ≤ k → k < 148 → s' k = s k) (hw : if h < 20 then (∀ j, j < 124 → w' (124 * h + j) = s j) ∧ (∀ j, j < 124 * h → w' j = w j) else (∀ j, j < 124 → w' (124 * 19 + j) = s j) ∧ (∀ j, j < 2356 → w' j = w (j + 124))) : rHx ((n + 1) % 20) (min 20 (h + 1)) s' w' r' := by
  intro j hj
  by_cases l : h < 20
  · rw [if_pos l] at hw
    rw [show min 20 (h + 1) = h + 1 by omega] at hj ⊢
    by_cases z : j = h
    · subst z
      have e : 16 + ((n + 1) % 20 + 20 - (j + 1) + j) % 20 = 16 + n := by omega
      rw [e]
      have q : ∀ k, k < 148 → hrow s' w' j k = s k := fun k hk => by
        unfold hrow
        split
        · next y => exact hw.1 k y
        · exact hs k (by omega) hk
      exact ⟨R_c R q (fun _ _ => rfl), I9_c I q⟩
    · have e : 16 + ((n + 1) % 20 + 20 - (h + 1) + j) % 20 = 16 + (n + 20 - h + j) % 20 := by omega
      rw [e, hr _ (by omega)]
      have q : ∀ k, k < 148 → hrow s' w' j k = hrow s w j k := fun k hk => by
        unfold hrow
        split
        · exact hw.2 _ (by omega)
        · exact hs k (by omega) hk
      obtain ⟨a, b⟩ := H j (by omega)
      exact ⟨R_c a q (fun _ _ => rfl), I9_c b q⟩
  · rw [if_neg l] at hw
    have e20 : h = 20 := by omega
    subst e20
    rw [show min 20 (20 + 1) = 20 by omega] at hj ⊢
    by_cases z : j = 19
    · subst z
      have e : 16 + ((n + 1) % 20 + 20 - 20 + 19) % 20 = 16 + n := by omega
      rw [e]
      have q : ∀ k, k < 148 → hrow s' w' 19 k = s k := fun k hk => by
        unfold hrow
        split
        · next y => exact hw.1 k y
        · exact hs k (by omega) hk
      exact ⟨R_c R q (fun _ _ => rfl), I9_c I q⟩
    · have e : 16 + ((n + 1) % 20 + 20 - 20 + j) % 20 = 16 + (n + 20 - 20 + (j + 1)) % 20 := by omega
      rw [e, hr _ (by omega)]
      have q : ∀ k, k < 148 → hrow s' w' j k = hrow s w (j + 1) k := fun k hk => by
        unfold hrow
        split
        · rw [hw.2 _ (by omega), show 124 * j + k + 124 = 124 * (j + 1) + k by omega]
        · exact hs k (by omega) hk
      obtain ⟨a, b⟩ := H (j + 1) (by omega)
      exact ⟨R_c a q (fun _ _ => rfl), I9_c b q⟩
/-- the reference's count of what it keeps -/
theorem n220_52 : ∀ (f : Nat) {v1 : Int32} {m : xS} {y : Unit × xS}, D220_52 F f v1 m = some y → y.2.1 70 25 = m.1 70 25 + 1
  | 0, _, _, _, h => by cases h
  | f + 1, v1, m, y, h => by
    unfold D220_52 at h
    split at h
    · cases h
      exact xu_s _ _ _ _
    · split at h
      · split at h
        · exact (n220_52 f h).trans (by rw [xu_o (by omega)])
        · cases h
      · cases h
theorem n220_12 : ∀ (f : Nat) {v1 : Int32} {m : xS} {y : Unit × xS}, D220_12 F f v1 m = some y → y.2.1 70 25 = m.1 70 25 - 1 + 1
  | 0, _, _, _, h => by cases h
  | f + 1, v1, m, y, h => by
    unfold D220_12 at h
    split at h
    · unfold D220_50 at h
      exact (n220_52 F h).trans (by rw [xu_s])
    · split at h
      · split at h
        · exact (n220_12 f h).trans (by rw [xu_o (by omega)])
        · cases h
      · cases h
/-- keepsAct, exactly -/
theorem r220 (hF : 3000 ≤ F) (hT : xT m) (hh : m.1 70 25 = Int32.ofNat h) (h20 : h ≤ 20) : xP (D220 F m) (fun _ m' => xT m' ∧ xfr xMA m m' ∧ m'.1 70 25 = Int32.ofNat (min 20 (h + 1)) ∧ (if h < 20 then (∀ j, j < 124 → m'.1 81 (124 * h + j) = m.1 80 j) ∧ (∀ j, j < 124 * h → m'.1 81 j = m.1 81 j) else (∀ j, j < 124 → m'.1 81 (124 * 19 + j) = m.1 80 j) ∧ (∀ j, j < 2356 → m'.1 81 j = m.1 81 (j + 124)))) := by
  have eh := nJ (n := h) (by omega)
  have hu : (m.1 70 25).toInt = (h : Int) := by rw [hh]; exact eh
  unfold D220
  refine xP_i (fun c => ?_) (fun c => ?_)
  · have c : (m.1 70 25).toInt ≠ 20 := zt c
    have l : h < 20 := by omega
    obtain ⟨y, hy, q1, q2, q3, q4⟩ := P220_52 (F := F) (u := h) l F (v1 := 0) (k := 0) hT rfl (by omega) (by omega) hu (fun j hj => absurd hj (Nat.not_lt_zero _))
    refine ⟨y, hy, q1, q2, ?_, ?_⟩
    · rw [n220_52 F hy, hh, show min 20 (h + 1) = h + 1 by omega]
      exact xadd (a := h) (b := 1) (by omega)
    · rw [if_pos l]
      exact ⟨q3, fun j hj => q4 j (by omega)⟩
  · have c : m.1 70 25 = 20 := zne c
    have c2 : (m.1 70 25).toInt = 20 := by rw [c]; rfl
    have l : ¬ h < 20 := by omega
    obtain ⟨y, hy, q1, q2, q3, q4⟩ := P220_12 (F := F) (by omega) (g := m.1 81) F (v1 := 124) (k := 124) hT rfl (by omega) (by omega) (by omega) c2 (fun j hj => absurd hj (by omega)) (fun j _ _ => rfl)
    refine ⟨y, hy, q1, q2, ?_, ?_⟩
    · rw [n220_12 F hy, c, show min 20 (h + 1) = 20 by omega]
      decide
    · rw [if_neg l]
      exact ⟨q3, q4⟩
/-- takeBack -/
theorem c17_9 (hn : m.1 14 1 = Int32.ofNat n) (hh : m.1 14 2 = Int32.ofNat h) (n20 : n < 20) (h20 : h ≤ 20) (h0 : 0 < h) : D17_14_9 F m = some ((), xcp (xu (xu m 14 1 (Int32.ofNat ((n + 19) % 20))) 14 2 (Int32.ofNat (h - 1))) 10 (16 + (n + 19) % 20) 114) := by
  have key : (List.range 20).all (fun n => (Int32.ofNat n + 20 - 1 - (Int32.ofNat n + 20 - 1) / 20 * 20) == Int32.ofNat ((n + 19) % 20)) = true := by decide +kernel
  have key2 : (List.range 21).all (fun h => Int32.ofNat h - 1 == Int32.ofNat (h - 1) || h == 0) = true := by decide +kernel
  have k1 := eq_of_beq (List.all_eq_true.mp key n (List.mem_range.mpr n20))
  have k2 : Int32.ofNat h - 1 = Int32.ofNat (h - 1) := by
    have := List.all_eq_true.mp key2 h (List.mem_range.mpr (by omega))
    rw [Bool.or_eq_true] at this
    rcases this with z | z
    · exact eq_of_beq z
    · have := eq_of_beq z
      omega
  have en := nJ (n := (n + 19) % 20) (by omega)
  have eh := nJ (n := h) (by omega)
  unfold D17_14_9 D69_9_S16_20
  rw [hn, hh, k1, k2, gxn en, if_pos (gxb en (by omega))]
  refine oi (p := false) (by rw [zcle]; exact decide_eq_false (by show ¬ _ ≤ (0 : Int); omega)) (fun z => by cases z) (fun _ => ob rfl rfl)
/-- undo of the reference: its loop -/
theorem r221_21 {u : Nat} (hu : u < 20) : ∀ (f : Nat) {v1 : Int32} {m : xS} {k : Nat}, v1.toInt = (k : Int) → k ≤ 124 → 124 < f + k → (m.1 70 25).toInt = (u : Int) → xP (D221_21 F f v1 m) (fun v m' => v = m.1 70 25 ∧ (∀ a, a ≠ 80 → m'.1 a = m.1 a) ∧ (∀ j, k ≤ j → j < 124 → m'.1 80 j = m.1 81 (124 * u + j)) ∧ ∀ j, (j < k ∨ 124 ≤ j) → m'.1 80 j = m.1 80 j)
  | 0, v1, m, k, hk, h1, h2, h3 => by omega
  | f + 1, v1, m, k, hk, h1, h2, h3 => by
    unfold D221_21
    refine xP_i (fun c => ?_) (fun c => ?_)
    · have c : (124 : Int) ≤ v1.toInt := zt c
      exact xP_r ⟨rfl, fun a _ => rfl, fun j hj hj2 => by omega, fun j _ => rfl⟩
    · have c : ¬ (124 : Int) ≤ v1.toInt := zf c
      have a1 : ((124 : Int32) * m.1 70 25).toInt = 124 * (m.1 70 25).toInt := xm1 (by show _ ≤ (124 : Int) * _; omega) (by show (124 : Int) * _ ≤ _; omega)
      have a2 : ((124 : Int32) * m.1 70 25 + v1).toInt = 124 * (u : Int) + (k : Int) := by
        rw [xa1 (by rw [a1]; omega) (by rw [a1]; omega), a1]
        omega
      have a3 : ((124 : Int32) * m.1 70 25 + v1).toNatClampNeg = 124 * u + k := by
        show Int.toNat _ = _
        rw [a2]
        omega
      have a4 : v1.toNatClampNeg = k := by
        show Int.toNat _ = _
        rw [hk]
        omega
      refine xP_g (xib_t (by omega) (by omega)) (xP_g (xib_t (by omega) (by omega)) ?_)
      rw [a3, a4]
      have e1 : (v1 + Int32.ofInt 1).toInt = v1.toInt + 1 := xa1 (by show _ ≤ _ + (1 : Int); omega) (by show _ + (1 : Int) ≤ _; omega)
      refine xP_m (r221_21 hu f (k := k + 1) (by omega) (by omega) (by omega) ((congrArg Int32.toInt (xu_o (by omega))).trans h3)) (fun v m' q => ?_)
      obtain ⟨q1, q2, q3, q4⟩ := q
      refine ⟨q1.trans (xu_o (by omega)), fun a ha => (q2 a ha).trans (funext fun b => xu_o (fun z => ha z.1)), fun j hj hj2 => ?_, fun j hj => (q4 j (by omega)).trans (xu_o (by omega))⟩
      by_cases z : j = k
      · subst z
        rw [q4 j (by omega), xu_s]
      · rw [q3 j (by omega) hj2, xu_o (by omega)]
theorem r221 (hF : 500 ≤ F) (hh : m.1 70 25 = Int32.ofNat h) (h20 : h ≤ 20) (h0 : 0 < h) : xP (D221 F m) (fun v m' => v = Int32.ofNat (h - 1) ∧ (∀ a, a ≠ 80 → m'.1 a = (xu m 70 25 (Int32.ofNat (h - 1))).1 a) ∧ (∀ j, j < 124 → m'.1 80 j = m.1 81 (124 * (h - 1) + j)) ∧ ∀ j, 124 ≤ j → m'.1 80 j = m.1 80 j) := by
  have eh := nJ (n := h) (by omega)
  have e1 : (Int32.ofNat h - 1) = Int32.ofNat (h - 1) := by
    apply Int32.toInt_inj.mp
    rw [nJ (n := h - 1) (by omega)]
    exact (xs1 (by show _ ≤ _ - (1 : Int); omega) (by show _ - (1 : Int) ≤ _; omega)).trans (by rw [eh]; show _ - (1 : Int) = _; omega)
  unfold D221
  rw [hh, e1]
  refine xP_i (fun c => ?_) (fun c => ?_)
  · refine xP_m (r221_21 (F := F) (u := h - 1) (by omega) F (v1 := 0) (k := 0) rfl (by omega) (by omega) (by rw [xu_s]; exact nJ (by omega))) (fun v m' q => ?_)
    obtain ⟨q1, q2, q3, q4⟩ := q
    refine ⟨q1.trans (xu_s _ _ _ _), q2, fun j hj => (q3 j (by omega) hj).trans (xu_o (by omega)), fun j hj => (q4 j (by omega)).trans (xu_o (by omega))⟩
  · have c : (Int32.ofNat h).toInt = 0 := Decidable.not_not.mp (zf c)
    omega
/-- what can be undone still, when the last is -/
theorem rH_u (H : rHx n h s w r) (n20 : n < 20) (h20 : h ≤ 20) (h0 : 0 < h) (hs : ∀ k, 124 ≤ k → k < 148 → s' k = s k) : rHx ((n + 19) % 20) (h - 1) s' w r := by
  intro j hj
  have e : 16 + ((n + 19) % 20 + 20 - (h - 1) + j) % 20 = 16 + (n + 20 - h + j) % 20 := by omega
  rw [e]
  have q : ∀ k, k < 148 → hrow s' w j k = hrow s w j k := fun k hk => by
    unfold hrow
    split
    · rfl
    · exact hs k (by omega) hk
  obtain ⟨a, b⟩ := H j (by omega)
  exact ⟨R_c a q (fun _ _ => rfl), I9_c b q⟩
end PHI
