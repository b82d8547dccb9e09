/-! done: on a trial of the class's; the reference lays its row back. -/
section PDON
variable {s : Nat → Int32} {m : xS} {F : Nat} {D : Int}
/-- a day on the class's trial, where the day stays at 999 -/
def pdc (s : Nat → Int32) : Nat → Int32 := cup (pous s 0 (s 2).toInt.toNat) 4 (if s 4 + 1 < 999 then s 4 + 1 else 999)
theorem a112j (R : R32 s (m.1 12)) (I : vJD D s) (hF : 500 ≤ F) : ∃ c', D112_11t F m = some ((), xr m 12 c') ∧ R32 (pdc s) c' := by
  have n := J_nt I
  exact a112cj (F := F) F (t := 0) R rfl rfl (by omega) n.2 (by omega)
theorem pdc_o (I : vJD D s) {j : Nat} (h : ∀ i : Nat, i < 6 → j ≠ 10 + 6 * i + 5) (h4 : j ≠ 4) : pdc s j = s j := (cup_o h4).trans (pous_o _ (fun i a b => h i (by have := J_nt I; omega)))
theorem pdc_5 (I : vJD D s) {t : Nat} (ht : (t : Int) < (s 2).toInt) : pdc s (10 + 6 * t + 5) = if phm s t = true then s (10 + 6 * t + 5) else s (10 + 6 * t + 5) + 1 := (cup_o (by omega)).trans (pous_s _ (by omega) (by omega))
theorem pdc_4 (I : vJD D s) : 0 ≤ (pdc s 4).toInt ∧ (pdc s 4).toInt ≤ 2000 := by
  have d := J_day I
  have e : pdc s 4 = if s 4 + 1 < 999 then s 4 + 1 else 999 := cup_s _ _ _
  have k : (s 4 + 1).toInt = (s 4).toInt + 1 := xa1 (by show _ ≤ _ + (1 : Int); omega) (by show _ + (1 : Int) ≤ _; omega)
  have l : (999 : Int32).toInt = 999 := rfl
  rw [e]
  by_cases c : s 4 + 1 < 999
  · rw [if_pos c, k]
    have c := Int32.lt_iff_toInt_lt.mp c
    omega
  · rw [if_neg c, l]
    omega
theorem J_dy (I : vJD D s) (hD : D ≤ 3000) : vJD (D + 1) (pdc s) := by
  have lt := J_nt I
  have l := J_nw I
  have dy := pdc_4 I
  have e0 : pdc s 0 = s 0 := pdc_o I (fun i _ => by omega) (by decide)
  have e1 : pdc s 1 = s 1 := pdc_o I (fun i _ => by omega) (by decide)
  have e2 : pdc s 2 = s 2 := pdc_o I (fun i _ => by omega) (by decide)
  have e3 : pdc s 3 = s 3 := pdc_o I (fun i _ => by omega) (by decide)
  refine ⟨?_, fun t ht => ?_, fun u hu => ?_, fun b hb => ?_, fun b f hb hf => ?_⟩
  · unfold vIa
    rw [e0, e1, e2, e3]
    exact ⟨I.1.1, I.1.2.1, I.1.2.2.1, I.1.2.2.2.1, dy⟩
  · rw [e2] at ht
    obtain ⟨i0, i3, i4, i5⟩ := I.2.1 t ht
    rw [e0, pdc_5 I ht, pdc_o I (fun i _ => by omega) (by omega), pdc_o I (fun i _ => by omega) (by omega), pdc_o I (fun i _ => by omega) (by omega)]
    refine ⟨i0, i3, fun z => ?_, ?_⟩
    · rw [if_pos (show phm s t = true by unfold phm; rw [z]; exact beq_self_eq_true _)]
      exact i4 z
    · split
      · exact ⟨i5.1, by omega⟩
      · have k : (s (10 + 6 * t + 5) + 1).toInt = (s (10 + 6 * t + 5)).toInt + 1 := xa1 (by show _ ≤ _ + (1 : Int); omega) (by show _ + (1 : Int) ≤ _; omega)
        omega
  · rw [e3] at hu
    rw [e0, pdc_o I (fun i _ => by omega) (by omega), pdc_o I (fun i _ => by omega) (by omega)]
    exact I.2.2.1 u hu
  · rw [pdc_o I (fun i _ => by omega) (by omega), pdc_o I (fun i _ => by omega) (by omega)]
    exact I.2.2.2.1 b hb
  · rw [pdc_o I (fun i _ => by omega) (by omega)]
    exact I.2.2.2.2 b f hb hf
theorem c110j_4 (R : R32 s (m.1 12)) (I : vJD D s) : ∀ (f : Nat) {w : Nat} {v : Int32}, (w : Int) ≤ (s 3).toInt → 6 - w < f → ∃ u, D110_11t_4 F f v (Int32.ofNat w) m = some (u, m) := by
  have nw := J_nw I
  intro f
  induction f with
  | zero => intro w v _ l; omega
  | succ f ih =>
    intro w v hw l
    have ew := nJ (n := w) (by omega)
    unfold D110_11t_4
    by_cases q : (s 3).toInt ≤ (w : Int)
    · exact ⟨v, ob (c80_11t R) (oT (zc.trans (decide_eq_true (by dsimp only; omega))) rfl)⟩
    · have g : zcmp .ge (Int32.ofNat w) (s 3) = false := zc.trans (decide_eq_false (by omega))
      have next : ∀ {v' : Int32}, ∃ u, D110_11t_26 F (D110_11t_4 F f) v' (Int32.ofNat w) m = some (u, m) := fun {v'} => by
        unfold D110_11t_26
        rw [show Int32.ofNat w + Int32.ofInt 1 = Int32.ofNat (w + 1) from xadd (a := w) (b := 1) (by omega)]
        exact ih (by omega) (by omega)
      by_cases c : pdn s w = true
      · obtain ⟨u, hu⟩ := next (v' := v ||| (1 <<< (Int32.ofNat w &&& 31)))
        exact ⟨u, ob (c80_11t R) (oF g (ob (c106_11tj R I rfl (by omega)) (oF (zeF c) hu)))⟩
      · obtain ⟨u, hu⟩ := next (v' := v)
        exact ⟨u, ob (c80_11t R) (oF g (ob (c106_11tj R I rfl (by omega)) (oT (zeT (by simpa using c)) hu)))⟩
theorem c111j (R : R32 s (m.1 12)) (I : vJD D s) (hF : 500 ≤ F) : ∃ u, D111_11t F m = some (u, m) := by
  have n3 := J_nw I
  obtain ⟨b, hb⟩ := c110j_4 (F := F) R I F (w := 0) (v := 0) (by omega) (by omega)
  have hb : D110_11t F m = some (b, m) := hb
  unfold D111_11t
  by_cases c : zcmp .ne b ((1 <<< (s 3 &&& 31)) - 1) = true
  · exact ⟨0, ob hb (ob (c80_11t R) (if_pos c))⟩
  · exact ⟨1, ob hb (ob (c80_11t R) (if_neg c))⟩
theorem c111_9 (R : R32 s (m.1 10)) (I : vI s) (hF : 500 ≤ F) : ∃ u, D111_9 F m = some (u, m) := by
  have n3 := I_nw I
  have hb := c110_4 (F := F) R I F (w := 0) (v := 0) (by omega) (by omega)
  have hb : D110_9 F m = some (_, m) := hb
  unfold D111_9
  by_cases c : zcmp .ne (pbt s 0 ((s 3).toInt.toNat - 0) 0) ((1 <<< (s 3 &&& 31)) - 1) = true
  · exact ⟨0, ob hb (ob (c80_9 R) (if_pos c))⟩
  · exact ⟨1, ob hb (ob (c80_9 R) (if_neg c))⟩
/-- the class's trial: at most 60 days -/
theorem c149_51 (hF : 500 ≤ F) {r0 nn : Nat} (h88 : 88 ≤ r0) (hn : nn ≤ 400) {xs : List Int} (hl : xs.length = nn) (G : ∀ w, cgd w xs []) {ru : Int32} : ∀ (f : Nat) {s : Nat → Int32} {D : Int} {m : xS} {i : Nat}, vJD D s → D + ((60 - i : Nat) : Int) ≤ 2500 → R32 s (m.1 12) → stp m r0 xs → i ≤ 60 → 60 - i < f → ∃ v m', D149_0_A_51 F ru true r0 nn f ru (Int32.ofNat i) m = some (v, m') ∧ kfj r0 m m' := by
  have l60 : (60 : Int32).toInt = 60 := rfl
  intro f
  induction f with
  | zero => intro s D m i _ _ _ _ _ l; omega
  | succ f ih =>
    intro s D m i I hD R S hi l
    have ei := nJ (n := i) (by omega)
    unfold D149_0_A_51
    by_cases q : 60 ≤ i
    · exact ⟨-2, m, oT (zc.trans (decide_eq_true (by omega))) rfl, kf_rj r0 m⟩
    · have n2 := J_nt I
      have n3 := J_nw I
      obtain ⟨m1, z1, z2, z3⟩ := c27j (F := F) hF h88 hn hl G I R S
      have J := lall_Ij (sm := smC xs) (s 2).toInt.toNat (t := 0) I (by omega)
      obtain ⟨c2, y1, y2⟩ := c109j (F := F) (m := m1) hF J z2
      have e3 : lall (smC xs) 0 (s 2).toInt.toNat s 3 = s 3 := lall_k _ (by decide)
      rw [e3] at y2
      have K := fwk_Ij (s 3).toInt.toNat (w := 0) J (by rw [e3]; omega)
      obtain ⟨u, hu⟩ := c111j (F := F) (m := xr m1 12 c2) (by rw [xr_s]; exact y2) K hF
      have k2 : kfj r0 m (xr m1 12 c2) := kf_tj z3 kf_xj
      have g1 : zcmp .ge (Int32.ofNat i) 60 = false := zc.trans (decide_eq_false (by omega))
      by_cases c : zcmp .eq u 0 = true
      · obtain ⟨c3, x1, x2⟩ := a112j (F := F) (m := xr m1 12 c2) (by rw [xr_s]; exact y2) K hF
        have k3 : kfj r0 m (xr (xr m1 12 c2) 12 c3) := kf_tj k2 kf_xj
        obtain ⟨v, m', w1, w2⟩ := ih (m := xr (xr m1 12 c2) 12 c3) (i := i + 1) (J_dy K (by omega)) (by omega) (by rw [xr_s]; exact x2) (stp_fj h88 k3 S) (by omega) (by omega)
        refine ⟨v, m', oF g1 (oT (by rw [beq_self_eq_true]; rfl) (ob z1 (ob y1 (ob hu (oT c (ob x1 ?_)))))), kf_tj k3 w2⟩
        rw [(o1 (n := i) (by omega)).2.2]
        exact w1
      · exact ⟨_, _, oF g1 (oT (by rw [beq_self_eq_true]; rfl) (ob z1 (ob y1 (ob hu ((if_neg c).trans (ob (c81_11t (by rw [xr_s]; exact y2)) rfl)))))), k2⟩
theorem c149 (hF : 500 ≤ F) {r0 nn : Nat} (h88 : 88 ≤ r0) (hn : nn ≤ 400) {xs : List Int} (hl : xs.length = nn) (G : ∀ w, cgd w xs []) (R : R32 s (m.1 10)) (I : vI9 s) (S : stp m r0 xs) {y1 : Int32} : ∃ v m', D149_0_A F y1 true r0 nn y1 m = some (v, m') ∧ kfj r0 m m' := by
  unfold D149_0_A
  by_cases a : 0 < (s 0).toInt
  · generalize hq : (decide (0 ≤ y1.toInt) && decide (y1.toInt < (m.1 0 8).toInt)) = b
    have h140 := c140 (F := F) (m := m) (y1 := y1) (r0 := r0) (nn := nn) (fun _ => rfl)
    rw [hq] at h140
    cases b with
    | false => exact ⟨_, _, ob (c76_9 R) (oF (zeF (decide_eq_true a)) (ob h140 (oF (znF rfl) rfl))), kf_rj r0 m⟩
    | true =>
      obtain ⟨u, hu⟩ := c111_9 (F := F) (m := m) R I.1 hF
      by_cases c : zcmp .eq u 0 = true
      · have k : kfj r0 m (xcp m 12 10 114) := ⟨fun i h => xcp_o h, fun _ _ _ => rfl⟩
        have d9 := I.2
        have d0 := I_day I.1
        obtain ⟨v, m', w1, w2⟩ := c149_51 (F := F) hF h88 hn hl G (ru := y1) F (s := s) (m := xcp m 12 10 114) (i := 0) (vJ_of I.1) (by omega) (R_c R (fun _ _ => rfl) (fun j hj => xcp_s hj)) (stp_fj h88 k S) (by omega) (by omega)
        exact ⟨v, m', ob (c76_9 R) (oF (zeF (decide_eq_true a)) (ob h140 (oT (znT rfl) (ob hu (oT c (ob (a := ()) (m := xcp m 12 10 114) rfl w1)))))), kf_tj k w2⟩
      · exact ⟨_, _, ob (c76_9 R) (oF (zeF (decide_eq_true a)) (ob h140 (oT (znT rfl) (ob hu ((if_neg c).trans (ob (c81_9 R) rfl)))))), kf_rj r0 m⟩
  · exact ⟨_, _, ob (c76_9 R) (oT (zeT (decide_eq_false a)) rfl), kf_rj r0 m⟩
theorem c149n {y1 : Int32} {rk : Bool} {r0 nn : Nat} (R : R32 s (m.1 10)) (n : ¬ (0 ≤ y1.toInt ∧ y1.toInt < (m.1 0 8).toInt)) : D149_0_A F y1 rk r0 nn y1 m = some (-1, m) := by
  unfold D149_0_A
  by_cases a : 0 < (s 0).toInt
  · refine ob (c76_9 R) (oF (zeF (decide_eq_true a)) (ob (c140 (fun z => absurd z n)) (oF (znF ?_) rfl)))
    by_cases z : 0 ≤ y1.toInt
    · rw [decide_eq_false (p := y1.toInt < (m.1 0 8).toInt) (fun q => n ⟨z, q⟩), Bool.and_false]
    · rw [decide_eq_false z, Bool.false_and]
  · exact ob (c76_9 R) (oT (zeT (decide_eq_false a)) rfl)
/-- the reference: lanes of cells that a day leaves alone -/
theorem ldt_h {t : Nat} {b : Int32} {j : Nat} (I : vI s) (ht : (t : Int) < (s 2).toInt) (hb : okb s t b) (hj : 124 ≤ j) : ldt s t b j = s j := by
  have n6 := I_n6 I
  have n2 := I_nt I
  unfold ldt
  split
  · rfl
  · rcases hb with e | ⟨k, e, k1, k2⟩
    · contradiction
    · have ek := nJ (n := k) (by omega)
      have h := (I.2.1 t ht).2.1
      rw [e, ek, Int.toNat_natCast, pld_o (by omega) (by omega), pth_o (by omega)]
theorem lall_h {sm : (Nat → Int32) → Nat → Nat → Int64} : ∀ (n : Nat) {s : Nat → Int32} {t j : Nat}, vI s → ((t + n : Nat) : Int) ≤ (s 2).toInt → 124 ≤ j → lall sm t n s j = s j
  | 0, _, _, _, _, _, _ => rfl
  | n + 1, s, t, j, I, ht, hj => by
    show lall sm (t + 1) n (lnd1 sm s t) j = s j
    have ok := lnd1_ok (sm := sm) (t := t) I
    have e2 : lnd1 sm s t 2 = s 2 := ldt_k (by decide)
    rw [lall_h n (s := lnd1 sm s t) (ldt_I I (by omega) ok) (by rw [e2]; omega) hj]
    exact ldt_h I (by omega) ok hj
theorem pwk_h {w j : Nat} (hw : w < 6) (hj : 124 ≤ j) : pwk s w j = s j := (cup_o (by omega)).trans (cup_o (by omega))
theorem fwk_h : ∀ (n : Nat) {s : Nat → Int32} {w j : Nat}, w + n ≤ 6 → 124 ≤ j → fwk w n s j = s j
  | 0, _, _, _, _, _ => rfl
  | n + 1, s, w, j, hw, hj => by
    show fwk (w + 1) n (if pcd s w = true then pwk s w else s) j = s j
    rw [fwk_h n (by omega) hj]
    split
    · exact pwk_h (by omega) hj
    · rfl
theorem day1_h {sm : (Nat → Int32) → Nat → Nat → Int64} (I : vI s) {j : Nat} (hj : 124 ≤ j) : day1 sm s j = s j := by
  have n2 := I_nt I
  have n3 := I_nw I
  have J := lall_I (sm := sm) (s 2).toInt.toNat (t := 0) I (by omega)
  have K := fwk_I (s 3).toInt.toNat (w := 0) J (by rw [lall_k _ (by decide)]; omega)
  unfold day1
  rw [pdy_o K (fun i _ => by omega) (by omega), fwk_h _ (by omega) hj, lall_h _ I (by omega) hj]
theorem r268_2 (I : vI (m.1 80)) : ∀ (f : Nat) {w : Nat}, (w : Int) ≤ (m.1 80 3).toInt → 7 - w < f → ∃ v, D268_2 F f (Int32.ofNat w) m = some (v, m) := by
  have n3 := I_nw I
  intro f
  induction f with
  | zero => intro w _ l; omega
  | succ f ih =>
    intro w hw l
    have ew := nJ (n := w) (by omega)
    unfold D268_2
    by_cases q : (m.1 80 3).toInt ≤ (w : Int)
    · exact ⟨1, oT (zc.trans (decide_eq_true (by omega))) rfl⟩
    · have g : zcmp .ge (Int32.ofNat w) (m.1 80 3) = false := zc.trans (decide_eq_false (by omega))
      by_cases c : pdn (m.1 80) w = true
      · obtain ⟨v, hv⟩ := ih (w := w + 1) (by omega) (by omega)
        refine ⟨v, oF g (ob (r215 rfl (by omega)) (oT (znT c) ?_))⟩
        rw [(o1 (n := w) (by omega)).2.2]
        exact hv
      · exact ⟨0, oF g (ob (r215 rfl (by omega)) (oF (znF (by simpa using c)) rfl))⟩
theorem r268 (I : vI (m.1 80)) (hF : 500 ≤ F) : ∃ v, D268 F m = some (v, m) := by
  have n3 := I_nw I
  exact r268_2 (F := F) I F (w := 0) (by omega) (by omega)
/-- what a trial over days leaves behind -/
def kdy (s0 : Nat → Int32) (m m' : xS) : Prop := kgd m m' ∧ ∃ s', m'.1 80 = s' ∧ ∀ j, 124 ≤ j → s' j = s0 j
theorem kdy_b (hF : 500 ≤ F) {c : Nat → Int32} {m3 : xS} (es : m.1 80 = s) (hc : ∀ j, j < 124 → c j = m.1 80 j) (k : kdy s (xr m 84 c) m3) : D260 F m3 = some ((), xr m3 80 s) ∧ kow m (xr m3 80 s) := by
  obtain ⟨k, s2, e2, h2⟩ := k
  have r84 : ∀ j, m3.1 84 j = c j := fun j => (k.1 84 j (by decide) (fun y => absurd y.1 (by decide))).trans (by rw [xr_s])
  refine ⟨r260 hF (fun j hj => by rw [r84, hc j hj, es]) (fun j hj => by rw [e2, h2 j hj]), fun i j e1 e2 e3 e4 => ?_, fun i j _ q2 q3 => by show m3.2 i j = _; rw [k.2 i j q2 q3]; rfl⟩
  by_cases z : i = 80
  · subst z
    rw [xr_s, es]
  · rw [xr_o z, k.1 i j z (fun y => e4 ⟨y.1, Or.inl y.2⟩), xr_o e3]
theorem P269_40 (hF : 500 ≤ F) {r : Nat} (hr : r < 6) {cs : cLs} {s0 : Nat → Int32} {m0 : xS} (K : ∀ {v1 v2 v3 : Int32} {m' : xS}, kdy s0 m0 m' → xP (D269_78 F v1 v2 v3 m') (fun _ m2 => kow m m2)) : ∀ (f : Nat) {s : Nat → Int32} {m1 : xS} {i : Nat} {v : Int32}, m1.1 80 = s → vI s → (s 4).toInt + ((60 - i : Nat) : Int) < 2000 → cAll m1 r cs → kdy s0 m0 m1 → i ≤ 60 → 60 - i < f → xP (D269_40 F f (Int32.ofNat r) v (Int32.ofNat i) m1) (fun _ m2 => kow m m2) := by
  have l60 : (60 : Int32).toInt = 60 := rfl
  intro f
  induction f with
  | zero => intro s m1 i v _ _ _ _ _ _ l; omega
  | succ f ih =>
    intro s m1 i v es I hd C k hi l
    have ei := nJ (n := i) (by omega)
    unfold D269_40
    refine xP_i (fun _ => K k) (fun cc => xP_i (fun _ => K k) (fun _ => ?_))
    have cc := of_decide_eq_false (zc.symm.trans cc)
    have i60 : i < 60 := by omega
    obtain ⟨m2, z1, z2, z3⟩ := r247 (F := F) hF hr es I (by omega) C
    have dd := day1_d (sm := smR cs) I (by omega)
    have J := day1_I (sm := smR cs) I (by omega)
    obtain ⟨u, hu⟩ := r268 (F := F) (m := m2) (by rw [z2]; exact J) hF
    have k2 : kdy s0 m0 m2 := by
      obtain ⟨a, s', e, h⟩ := k
      exact ⟨kgd_t a z3, _, z2, fun j hj => (day1_h I hj).trans ((congrFun (es.symm.trans e) j).trans (h j hj))⟩
    have nx : ∀ {v' : Int32}, xP (D269_72 F (D269_40 F f) (Int32.ofNat r) v' (Int32.ofNat i) m2) (fun _ m2 => kow m m2) := fun {v'} => by
      unfold D269_72
      rw [(o1 (n := i) (by omega)).2.2]
      exact ih z2 J (by rw [dd]; omega) (cAll_k z3 C) k2 (by omega) (by omega)
    refine xP_b (R := fun _ m' => m' = m2) ⟨_, z1, rfl⟩ (fun v5 m5 e5 => ?_)
    subst e5
    refine xP_b (R := fun _ m' => m' = m5) ⟨_, hu, rfl⟩ (fun v6 m6 e6 => ?_)
    subst e6
    exact xP_i (fun _ => nx) (fun _ => nx)
theorem P269 (hF : 500 ≤ F) (I : vI9 (m.1 80)) {y1 : Int32} (C : ∀ j : Nat, (j : Int) < (m.1 70 2).toInt → ∃ cs, cAll m j cs) (n6 : (m.1 70 2).toInt ≤ 6) : xP (D269 F y1 m) (fun _ m' => kow m m') := by
  unfold D269
  refine xP_b (R := fun _ m' => m' = m) ⟨_, r204, rfl⟩ (fun v5 m5 e5 => ?_)
  subst e5
  refine xP_i (fun _ => xP_r (kow_r _)) (fun _ => ?_)
  by_cases b : 0 ≤ y1.toInt ∧ y1.toInt < (m5.1 70 2).toInt
  · obtain ⟨j, hj⟩ : ∃ j : Nat, y1.toInt = (j : Int) := ⟨y1.toInt.toNat, by omega⟩
    have ey : y1 = Int32.ofNat j := ofn_i hj (by omega)
    obtain ⟨cs, hcs⟩ := C j (by omega)
    subst ey
    refine xP_b (R := fun _ m' => m' = m5) ⟨_, r199, rfl⟩ (fun v6 m6 e6 => ?_)
    subst e6
    obtain ⟨u, hu⟩ := r268 (F := F) (m := m6) I.1 hF
    obtain ⟨c, h259, hc⟩ := r259 (F := F) (m := m6) hF
    refine xP_i (fun _ => ?_) (fun _ => xP_r (kow_r _))
    refine xP_b (R := fun _ m' => m' = m6) ⟨_, hu, rfl⟩ (fun v7 m7 e7 => ?_)
    subst e7
    refine xP_i (fun _ => ?_) (fun _ => xP_r (kow_r _))
    refine xP_b (R := fun _ m' => m' = xr m7 84 c) ⟨_, h259, rfl⟩ (fun v8 m8 e8 => ?_)
    subst e8
    have d9 := I.2
    have d0 := I_day I.1
    exact P269_40 (F := F) hF (r := j) (by omega) (cs := cs) (s0 := m7.1 80) (m0 := xr m7 84 c) (fun {v1 v2 v3 m'} k => by
      obtain ⟨k1, k2⟩ := kdy_b (F := F) hF rfl hc k
      unfold D269_78
      exact ⟨_, ob k1 rfl, k2⟩) F (s := m7.1 80) (i := 0) (xr_o (by decide)) I.1 (by omega) (cAll_f (by rw [xr_o (by decide)]) (by rw [xr_o (by decide)]) (by rw [xr_o (by decide)]) hcs) ⟨kgd_g (kg_r _), _, xr_o (by decide), fun _ _ => rfl⟩ (by omega) (by omega)
  · refine xP_b (R := fun v m' => m' = m5 ∧ v = 0) ⟨_, r199, rfl, ?_⟩ (fun v6 m6 e6 => ?_)
    · show pB _ = 0
      by_cases z : 0 ≤ y1.toInt
      · rw [decide_eq_false (p := y1.toInt < _) (fun q => b ⟨z, q⟩), Bool.and_false]; rfl
      · rw [decide_eq_false z, Bool.false_and]; rfl
    · obtain ⟨e6, e7⟩ := e6
      subst e6 e7
      exact xP_i (fun z => by cases z) (fun _ => xP_r (kow_r _))
end PDON
theorem kfj_ruI {z : zHp} {m : xS} {j : Nat} (H : yH0 z) (k : kfj (88 + 3 * j) (xof z) m) (h : ruI z) : ruI (xW z m) := fun i hi => by
  rw [xof_f H (show xti 0 10 8 = true by decide), k.1 0 (by decide)] at hi
  obtain ⟨o, C, r⟩ := h i hi
  refine ⟨o, ruC_d (xW_2 (fun b => congrFun (k.1 13 (by decide)) b) (fun b => k.2 13 b (by omega))) (xW_2 (fun b => congrFun (k.1 _ (by omega)) b) (fun b => k.2 _ b (by omega))) rfl C, ruR_o (fun l _ _ => ?_) (fun l _ _ => ?_) ?_ r⟩
  · rw [xof_t H (k := 0) (n := 2400) (by decide), k.1 72 (by decide)]
  · rw [xof_t H (k := 0) (n := 288) (by decide), k.1 74 (by decide)]
  · rw [xof_t H (k := 0) (n := 6) (by decide), k.1 75 (by decide)]
theorem kfj_rMx {m m' : xS} {r0 : Nat} (k : kfj r0 m m') (M : rMx m) : rMx m' := rMx_c (k.1 80 (by decide)) (k.1 10 (by decide)) ⟨congrFun (k.1 14 (by decide)) 1, congrFun (k.1 14 (by decide)) 2⟩ (congrFun (k.1 70 (by decide)) 25) (k.1 81 (by decide)) (fun a h1 h2 => k.1 a (by omega)) (fun a h1 h2 => k.1 a (by omega)) (k.1 41 (by decide)) (k.1 42 (by decide)) (k.1 85 (by decide)) (k.1 86 (by decide)) (k.1 87 (by decide)) (congrFun (k.1 70 (by decide)) 23) (congrFun (k.1 43 (by decide)) 0) M
theorem nDone {y1 : Int32} : lP MR 149 269 [.int y1] false := fun hp hI => by
  obtain ⟨x1, x2, z1, z2, a1, a2, a3, a4, a5, a6, a7, -⟩ := e0_24 (y1 := y1) hp hI.1.1
  have a3 : zCan 20 149 [.ref 0, .int y1] hp (some (.int x1), z1) := a3
  have a5 : zCan 20 269 [.ref 70, .int y1] z1 (some (.int x2), z2) := a5
  obtain ⟨x3, w1, b1, b2, b3, -⟩ := eSp (yt1013 yXx.1) (c := 0) (na := 1) (bl := []) (by decide +kernel) hI.1.1.1 (ys := [y1]) rfl (fun s hs => by cases hs)
  have u := zCan_u a3 b1
  cases u
  have R := hI.1.2.1.1
  have I := hI.1.2.1.2
  have H := hI.1.1.1.1
  have hT := xT_of H
  have b8 : (0 : Int) ≤ ((xof hp).1 0 8).toInt ∧ ((xof hp).1 0 8).toInt ≤ 6 := hT 0 8 (0, 6) rfl
  have e2 : ((xof hp).1 70 2).toInt = ((xof hp).1 0 8).toInt := hI.1.1.2.2.1
  have e08 : (xof z1).1 0 8 = (xof hp).1 0 8 := eF b3 (ydj_ok (show ydj ys1013.2.2.2.2 [(0, 0, 8)] = true by decide) 0 8 rfl)
  have e702 : (xof z1).1 70 2 = (xof hp).1 70 2 := eF b3 (ydj_ok (show ydj ys1013.2.2.2.2 [(70, 70, 2)] = true by decide) 70 2 rfl)
  have W : rMx (xof z1) ∧ ruI z1 := by
    by_cases v : 0 ≤ y1.toInt ∧ y1.toInt < ((xof hp).1 0 8).toInt
    · obtain ⟨j, hj⟩ : ∃ j : Nat, y1.toInt = (j : Int) := ⟨y1.toInt.toNat, by omega⟩
      obtain ⟨o, C, CL, Q, q1, q2, q3, q4, q5⟩ := hI.2 j (by omega)
      have A := rlA_of H C (by omega) hj
      have G : ∀ w, cgd w o.reverse [] := fun w => by
        have z := cgd_out (w := w) (rest := []) q3 (by rw [← q4]; exact q5) trivial
        rw [List.append_nil, ← q4] at z
        exact z
      obtain ⟨x, m', d1, d2⟩ := c149 (F := 500) (m := xof hp) (Nat.le_refl _) (r0 := 88 + 3 * j) (by omega) C.2.2.2.1 List.length_reverse G R I (stp_of C) (y1 := y1)
      have u := Z149_0_A H (F := 500) (ru := y1) (rk := true) (r0 := 88 + 3 * j) (nn := o.length) (fun _ => A) d1 (d := 20) (by decide)
      rw [xW_of] at u
      have u := zCan_u a3 u
      cases u
      exact ⟨rMx_w (xrw_of H _) (kfj_rMx d2 hI.1.2), kfj_ruI H d2 hI.2⟩
    · have u := Z149_0_A H (F := 500) (ru := y1) (rk := false) (r0 := 0) (nn := 0) (fun z => by cases z) (c149n R v) (d := 20) (by decide)
      rw [xW_of] at u
      have u := zCan_u a3 u
      cases u
      exact ⟨hI.1.2, hI.2⟩
  obtain ⟨M1, U1⟩ := W
  obtain ⟨y, hy, hk⟩ := P269 (F := 500) (m := xof z1) (Nat.le_refl _) M1.1.2 (y1 := y1) (fun j hj => by
    rw [e702, e2, ← e08] at hj
    obtain ⟨o, C, CL, Q, q1, -⟩ := U1 j hj
    exact ⟨CL, q1⟩) (by rw [e702]; omega)
  have u := Z269 b2.1 hy (d := 20) (by decide)
  rw [xW_of] at u
  have u := zCan_u a5 u
  cases u
  exact ⟨_, _, _, _, a1, a2, a3, a4, a5, a6, ⟨⟨a7, rMx_w (xrw_of b2.1 _) (kow_rMx hk M1)⟩, kow_ruI b2.1 hk U1⟩, fun h => by cases h⟩
