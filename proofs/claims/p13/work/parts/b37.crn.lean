/-! The class's days by a rule. -/
/-- the house to which a tool is lent: the sums of the houses from h on -/
def lbh (s : Nat → Int32) (sm : Nat → Int64) (t : Nat) : Nat → Nat → Int32 × Int64 → Int32 × Int64
  | _, 0, a => a
  | h, n + 1, a => lbh s sm t (h + 1) n (if pcl s t h = true ∧ a.2.toInt < (sm h).toInt then (Int32.ofNat h, sm h) else a)
def ldt (s : Nat → Int32) (t : Nat) (b : Int32) : Nat → Int32 := if b = -1 then s else pld s t b.toInt.toNat
def lnd1 (sm : (Nat → Int32) → Nat → Nat → Int64) (s : Nat → Int32) (t : Nat) : Nat → Int32 := ldt s t (lbh s (sm s t) t 0 (s 0).toInt.toNat (-1, 0)).1
def lall (sm : (Nat → Int32) → Nat → Nat → Int64) : Nat → Nat → (Nat → Int32) → Nat → Int32
  | _, 0, s => s
  | t, n + 1, s => lall sm (t + 1) n (lnd1 sm s t)
def fwk : Nat → Nat → (Nat → Int32) → Nat → Int32
  | _, 0, s => s
  | w, n + 1, s => fwk (w + 1) n (if pcd s w = true then pwk s w else s)
def day1 (sm : (Nat → Int32) → Nat → Nat → Int64) (s : Nat → Int32) : Nat → Int32 := pdy (fwk 0 (s 3).toInt.toNat (lall sm 0 (s 2).toInt.toNat s))
def rdays (sm : (Nat → Int32) → Nat → Nat → Int64) : Nat → (Nat → Int32) → Nat → Int32
  | 0, s => s
  | n + 1, s => rdays sm n (day1 sm s)
section PDYS
variable {s : Nat → Int32} {sm : (Nat → Int32) → Nat → Nat → Int64}
/-- what a house that was found is -/
def okb (s : Nat → Int32) (t : Nat) (b : Int32) : Prop := b = -1 ∨ ∃ k : Nat, b = Int32.ofNat k ∧ (k : Int) < (s 0).toInt ∧ pcl s t k = true
theorem lbh_ok {f : Nat → Int64} {t : Nat} : ∀ (n h : Nat) {a : Int32 × Int64}, ((h + n : Nat) : Int) ≤ (s 0).toInt → okb s t a.1 → okb s t (lbh s f t h n a).1
  | 0, _, _, _, k => k
  | n + 1, h, a, l, k => by
    show okb s t (lbh s f t (h + 1) n (if pcl s t h = true ∧ a.2.toInt < (f h).toInt then (Int32.ofNat h, f h) else a)).1
    refine lbh_ok n (h + 1) (by omega) ?_
    split
    · next z => exact Or.inr ⟨h, rfl, by omega, z.1⟩
    · exact k
theorem ldt_k {t : Nat} {b : Int32} {j : Nat} (hj : j < 10) : ldt s t b j = s j := by
  unfold ldt
  split
  · rfl
  · rw [pld_o (by omega) (by omega), pth_o (by omega)]
theorem ldt_I (I : vI s) {t : Nat} {b : Int32} (ht : (t : Int) < (s 2).toInt) (h : okb s t b) : vI (ldt s t b) := by
  have n6 := I_n6 I
  unfold ldt
  rcases h with h | ⟨k, rfl, h1, h2⟩
  · rw [if_pos h]
    exact I
  · have ek := nJ (n := k) (by omega)
    rw [if_neg (fun z => by
      have z := congrArg Int32.toInt z
      rw [ek] at z
      have e1 : (-1 : Int32).toInt = -1 := rfl
      omega), ek, Int.toNat_natCast]
    exact I_ld I ht h1 h2
theorem lnd1_ok {t : Nat} (I : vI s) : okb s t (lbh s (sm s t) t 0 (s 0).toInt.toNat (-1, 0)).1 := lbh_ok _ 0 (by have := I_n0 I; omega) (Or.inl rfl)
theorem lall_k : ∀ (n : Nat) {s : Nat → Int32} {t j : Nat}, j < 10 → lall sm t n s j = s j
  | 0, _, _, _, _ => rfl
  | n + 1, s, t, j, hj => by
    show lall sm (t + 1) n (lnd1 sm s t) j = s j
    rw [lall_k n hj]
    exact ldt_k hj
theorem lall_I : ∀ (n : Nat) {s : Nat → Int32} {t : Nat}, vI s → ((t + n : Nat) : Int) ≤ (s 2).toInt → vI (lall sm t n s)
  | 0, _, _, I, _ => I
  | n + 1, s, t, I, l => by
    show vI (lall sm (t + 1) n (lnd1 sm s t))
    refine lall_I n (ldt_I I (by omega) (lnd1_ok I)) ?_
    show _ ≤ (ldt s t _ 2).toInt
    rw [ldt_k (by decide)]
    omega
theorem pwk_k {w j : Nat} (hj : j < 5) : pwk s w j = s j := by
  unfold pwk
  rw [cup_o (by omega), cup_o (by omega)]
theorem fwk_k : ∀ (n : Nat) {s : Nat → Int32} {w j : Nat}, j < 5 → fwk w n s j = s j
  | 0, _, _, _, _ => rfl
  | n + 1, s, w, j, hj => by
    show fwk (w + 1) n (if pcd s w = true then pwk s w else s) j = s j
    rw [fwk_k n hj]
    split
    · exact pwk_k hj
    · rfl
theorem fwk_I : ∀ (n : Nat) {s : Nat → Int32} {w : Nat}, vI s → ((w + n : Nat) : Int) ≤ (s 3).toInt → vI (fwk w n s)
  | 0, _, _, I, _ => I
  | n + 1, s, w, I, l => by
    show vI (fwk (w + 1) n (if pcd s w = true then pwk s w else s))
    by_cases z : pcd s w = true
    · rw [if_pos z]
      refine fwk_I n (I_wk I (by omega)) ?_
      rw [pwk_k (by decide)]
      omega
    · rw [if_neg z]
      exact fwk_I n I (by omega)
theorem day1_I (I : vI s) (d9 : (s 4).toInt < 2000) : vI (day1 sm s) := by
  have n2 := I_nt I
  have n3 := I_nw I
  have J := lall_I (sm := sm) (s 2).toInt.toNat (t := 0) I (by omega)
  have K := fwk_I (s 3).toInt.toNat (w := 0) J (by rw [lall_k _ (by decide)]; omega)
  exact I_dy K (by rw [fwk_k _ (by decide), lall_k _ (by decide)]; exact d9)
theorem day1_4 : day1 sm s 4 = s 4 + 1 := by
  unfold day1
  rw [pdy_4, fwk_k _ (by decide), lall_k _ (by decide)]
theorem day1_0 (I : vI s) : day1 sm s 0 = s 0 := by
  have n2 := I_nt I
  have n3 := I_nw I
  have J := lall_I (sm := sm) (s 2).toInt.toNat (t := 0) I (by omega)
  have K := fwk_I (s 3).toInt.toNat (w := 0) J (by rw [lall_k _ (by decide)]; omega)
  unfold day1
  rw [pdy_o K (fun i hi => by omega) (by decide), fwk_k _ (by decide), lall_k _ (by decide)]
theorem day1_d (I : vI s) (d9 : (s 4).toInt < 2000) : (day1 sm s 4).toInt = (s 4).toInt + 1 := by
  have d0 := I_day I
  rw [day1_4]
  exact (xa1 (by show _ ≤ _ + (1 : Int); omega) (by show _ + (1 : Int) ≤ _; omega)).trans rfl
end PDYS
/-- the class's row of cells and a stack alone have changed -/
def kf (r0 : Nat) (m m' : xS) : Prop := (∀ i, i ≠ 10 → m'.1 i = m.1 i) ∧ ∀ i j, i ≠ r0 + 2 → m'.2 i j = m.2 i j
theorem kf_r (r0 : Nat) (m : xS) : kf r0 m m := ⟨fun _ _ => rfl, fun _ _ _ => rfl⟩
theorem kf_t {r0 : Nat} {a b c : xS} (h1 : kf r0 a b) (h2 : kf r0 b c) : kf r0 a c := ⟨fun i h => (h2.1 i h).trans (h1.1 i h), fun i j h => (h2.2 i j h).trans (h1.2 i j h)⟩
theorem kf_x {r0 : Nat} {m : xS} {c : Nat → Int32} : kf r0 m (xr m 10 c) := ⟨fun _ h => xr_o h, fun _ _ _ => rfl⟩
/-- a rule's steps stand behind its object -/
def stp (m : xS) (r0 : Nat) (xs : List Int) : Prop := ∀ (j : Nat) (x : Int), xs[j]? = some x → (m.1 (r0 + 1) j).toInt = x
theorem stp_f {r0 : Nat} {m m' : xS} {xs : List Int} (h88 : 88 ≤ r0) (k : kf r0 m m') (h : stp m r0 xs) : stp m' r0 xs := fun j x hj => by
  rw [k.1 (r0 + 1) (by omega)]
  exact h j x hj
/-- the sums of the class -/
def smC (xs : List Int) : (Nat → Int32) → Nat → Nat → Int64 := fun s t h => csum (wrl s t h) xs []
section PCRN
variable {s : Nat → Int32} {m : xS} {F : Nat}
theorem c27_18 (hF : 500 ≤ F) {r0 nn : Nat} (h88 : 88 ≤ r0) (hn : nn ≤ 400) {xs : List Int} (hl : xs.length = nn) (G : ∀ w, cgd w xs []) (I : vI s) {t : Nat} (ht : (t : Int) < (s 2).toInt) {g2 : Int32 → xS → Option (Unit × xS)} : ∀ (f : Nat) {m : xS} {h : Nat} {a : Int32 × Int64}, R32 s (m.1 10) → stp m r0 xs → 0 ≤ a.2.toInt → (h : Int) ≤ (s 0).toInt → 7 - h < f → okb s t a.1 → ∃ m', D27_R_9_18 F r0 nn g2 f (Int32.ofNat t) a.1 a.2 (Int32.ofNat h) m = g2 (Int32.ofNat (t + 1)) m' ∧ R32 (ldt s t (lbh s (smC xs s t) t h ((s 0).toInt.toNat - h) a).1) (m'.1 10) ∧ kf r0 m m' := by
  have n6 := I_n6 I
  have t6 : t < 6 := by have := I_nt I; omega
  intro f
  induction f with
  | zero => intro m h a _ _ _ _ l; omega
  | succ f ih =>
    intro m h a R S a0 hh l ha
    have eh := nJ (n := h) (by omega)
    unfold D27_R_9_18
    by_cases q : (s 0).toInt ≤ (h : Int)
    · rw [show (s 0).toInt.toNat - h = 0 by omega]
      show ∃ m' : xS, _ ∧ R32 (ldt s t a.1) (m'.1 10) ∧ _
      have g : zcmp .ge (Int32.ofNat h) (s 0) = true := zc.trans (decide_eq_true (by omega))
      rcases ha with e | ⟨k, e, k1, k2⟩
      · refine ⟨m, ob (c77_9 R) (oT g (oT (zce.trans (beq_iff_eq.mpr e)) ?_)), ?_, kf_r r0 m⟩
        · unfold D27_R_9_83
          rw [(o1 (n := t) (by omega)).2.2]
        · unfold ldt
          rw [if_pos e]
          exact R
      · have ek := nJ (n := k) (by omega)
        have ne : ¬ a.1 = -1 := fun z => by
          have z := congrArg Int32.toInt (e.symm.trans z)
          rw [ek] at z
          have e1 : (-1 : Int32).toInt = -1 := rfl
          omega
        obtain ⟨c', z1, z2⟩ := a102_9 (F := F) R I (t := t) (h := k) (v1 := Int32.ofNat t) (v2 := a.1) rfl e ht (by omega)
        refine ⟨xr m 10 c', ob (c77_9 R) (oT g (oF (zce.trans (beq_eq_false_iff_ne.mpr ne)) (ob z1 ?_))), ?_, kf_x⟩
        · unfold D27_R_9_83
          rw [(o1 (n := t) (by omega)).2.2]
        · unfold ldt
          rw [if_neg ne, e, ek, Int.toNat_natCast, xr_s]
          exact z2
    · have h6 : h < 6 := by omega
      rw [show (s 0).toInt.toNat - h = ((s 0).toInt.toNat - (h + 1)) + 1 by omega]
      show ∃ m' : xS, _ ∧ R32 (ldt s t (lbh s (smC xs s t) t (h + 1) ((s 0).toInt.toNat - (h + 1)) (if pcl s t h = true ∧ a.2.toInt < (smC xs s t h).toInt then (Int32.ofNat h, smC xs s t h) else a)).1) (m'.1 10) ∧ _
      have g : zcmp .ge (Int32.ofNat h) (s 0) = false := zc.trans (decide_eq_false (by omega))
      have nx : ∀ {m1 : xS} {b : Int32 × Int64} {v7 : Int64}, kf r0 m m1 → R32 s (m1.1 10) → 0 ≤ b.2.toInt → okb s t b.1 → ∃ m', D27_R_9_66 F r0 nn g2 (D27_R_9_18 F r0 nn g2 f) (Int32.ofNat t) b.1 b.2 (Int32.ofNat h) v7 m1 = g2 (Int32.ofNat (t + 1)) m' ∧ R32 (ldt s t (lbh s (smC xs s t) t (h + 1) ((s 0).toInt.toNat - (h + 1)) b).1) (m'.1 10) ∧ kf r0 m m' := fun {m1 b v7} k R1 b0 hb => by
        obtain ⟨m', d1, d2, d3⟩ := ih (m := m1) (h := h + 1) (a := b) R1 (stp_f h88 k S) b0 (by omega) (by omega) hb
        refine ⟨m', ?_, d2, kf_t k d3⟩
        unfold D27_R_9_66
        rw [(o1 (n := h) (by omega)).2.2]
        exact d1
      have l0 : (0 : Int64).toInt = 0 := rfl
      by_cases c : pcl s t h = true
      · obtain ⟨M, z1, z2⟩ := c28 (F := F) hF (r0 := r0) hn R I ht h6 hl S (G _)
        have km : kf r0 m (m.1, M) := ⟨fun _ _ => rfl, z2⟩
        have g5 := (lgS (smC xs s t h) a.2).2.2.2.2
        by_cases d : a.2.toInt < (smC xs s t h).toInt
        · rw [if_pos ⟨c, d⟩]
          obtain ⟨m', d1, d2, d3⟩ := nx (m1 := (m.1, M)) (b := (Int32.ofNat h, smC xs s t h)) (v7 := smC xs s t h) km R (by show 0 ≤ (smC xs s t h).toInt; omega) (Or.inr ⟨h, rfl, by omega, c⟩)
          refine ⟨m', ob (c77_9 R) (oF g (ob (c101u R I rfl rfl ht h6) (oF (pB1.trans (by rw [c]; rfl)) (ob z1 ?_)))), d2, d3⟩
          unfold D27_R_9_49
          exact oF (g5.trans (decide_eq_false (by omega))) d1
        · rw [if_neg (fun z => d z.2)]
          obtain ⟨m', d1, d2, d3⟩ := nx (m1 := (m.1, M)) (b := a) (v7 := smC xs s t h) km R a0 ha
          refine ⟨m', ob (c77_9 R) (oF g (ob (c101u R I rfl rfl ht h6) (oF (pB1.trans (by rw [c]; rfl)) (ob z1 ?_)))), d2, d3⟩
          unfold D27_R_9_49
          exact oT (g5.trans (decide_eq_true (by omega))) d1
      · rw [if_neg (fun z => c z.1)]
        have c' : pcl s t h = false := by simpa using c
        have g5 := (lgS 0 a.2).2.2.2.2
        obtain ⟨m', d1, d2, d3⟩ := nx (m1 := m) (b := a) (v7 := 0) (kf_r r0 m) R a0 ha
        refine ⟨m', ob (c77_9 R) (oF g (ob (c101u R I rfl rfl ht h6) (oT (pB1.trans (by rw [c']; rfl)) ?_))), d2, d3⟩
        unfold D27_R_9_49
        exact oT (g5.trans (decide_eq_true (by rw [l0]; exact a0))) d1
theorem c27_2 (hF : 500 ≤ F) {r0 nn : Nat} (h88 : 88 ≤ r0) (hn : nn ≤ 400) {xs : List Int} (hl : xs.length = nn) (G : ∀ w, cgd w xs []) : ∀ (f : Nat) {s : Nat → Int32} {m : xS} {t : Nat}, vI s → R32 s (m.1 10) → stp m r0 xs → (t : Int) ≤ (s 2).toInt → 7 - t < f → ∃ m', D27_R_9_2 F r0 nn f (Int32.ofNat t) m = some ((), m') ∧ R32 (lall (smC xs) t ((s 2).toInt.toNat - t) s) (m'.1 10) ∧ kf r0 m m' := by
  intro f
  induction f with
  | zero => intro s m t _ _ _ _ l; omega
  | succ f ih =>
    intro s m t I R S ht l
    have n2 := I_nt I
    have n6 := I_n6 I
    have et := nJ (n := t) (by omega)
    unfold D27_R_9_2
    by_cases q : (s 2).toInt ≤ (t : Int)
    · rw [show (s 2).toInt.toNat - t = 0 by omega]
      have g : zcmp .ge (Int32.ofNat t) (s 2) = true := zc.trans (decide_eq_true (by omega))
      exact ⟨m, ob (c79_9 R) (oT g rfl), R, kf_r r0 m⟩
    · rw [show (s 2).toInt.toNat - t = ((s 2).toInt.toNat - (t + 1)) + 1 by omega]
      have n0 := I_n0 I
      obtain ⟨m1, z1, z2, z3⟩ := c27_18 (F := F) hF h88 hn hl G I (t := t) (by omega) (g2 := D27_R_9_2 F r0 nn f) F (m := m) (h := 0) (a := (-1, 0)) R S (Int.le_refl _) (by omega) (by omega) (Or.inl rfl)
      rw [Nat.sub_zero] at z2
      have J : vI (lnd1 (smC xs) s t) := ldt_I I (by omega) (lnd1_ok I)
      have e2 : lnd1 (smC xs) s t 2 = s 2 := ldt_k (by decide)
      obtain ⟨m', d1, d2, d3⟩ := ih (s := lnd1 (smC xs) s t) (m := m1) (t := t + 1) J z2 (stp_f h88 z3 S) (by rw [e2]; omega) (by omega)
      rw [e2] at d2
      have g : zcmp .ge (Int32.ofNat t) (s 2) = false := zc.trans (decide_eq_false (by omega))
      exact ⟨m', ob (c79_9 R) (oF g (z1.trans d1)), d2, kf_t z3 d3⟩
/-- lendAll -/
theorem c27 (hF : 500 ≤ F) {r0 nn : Nat} (h88 : 88 ≤ r0) (hn : nn ≤ 400) {xs : List Int} (hl : xs.length = nn) (G : ∀ w, cgd w xs []) (I : vI s) (R : R32 s (m.1 10)) (S : stp m r0 xs) : ∃ m', D27_R_9 F r0 nn m = some ((), m') ∧ R32 (lall (smC xs) 0 (s 2).toInt.toNat s) (m'.1 10) ∧ kf r0 m m' := by
  have n2 := I_nt I
  have z := c27_2 (F := F) hF h88 hn hl G F (s := s) (m := m) (t := 0) I R S (by omega) (by omega)
  rw [Nat.sub_zero] at z
  unfold D27_R_9
  exact z
/-- finishWorks -/
theorem c109_2 (hF : 500 ≤ F) : ∀ (f : Nat) {s : Nat → Int32} {m : xS} {w : Nat}, vI s → R32 s (m.1 10) → (w : Int) ≤ (s 3).toInt → 7 - w < f → ∃ c', D109_9_2 F f (Int32.ofNat w) m = some ((), xr m 10 c') ∧ R32 (fwk w ((s 3).toInt.toNat - w) s) c' := by
  intro f
  induction f with
  | zero => intro s m w _ _ _ l; omega
  | succ f ih =>
    intro s m w I R hw l
    have n3 := I_nw I
    have ew := nJ (n := w) (by omega)
    unfold D109_9_2
    by_cases q : (s 3).toInt ≤ (w : Int)
    · rw [show (s 3).toInt.toNat - w = 0 by omega]
      have g : zcmp .ge (Int32.ofNat w) (s 3) = true := zc.trans (decide_eq_true (by omega))
      exact ⟨m.1 10, ob (c80_9 R) (oT g (by rw [xr_id])), R⟩
    · rw [show (s 3).toInt.toNat - w = ((s 3).toInt.toNat - (w + 1)) + 1 by omega]
      have w3 : (w : Int) < (s 3).toInt := by omega
      have g : zcmp .ge (Int32.ofNat w) (s 3) = false := zc.trans (decide_eq_false (by omega))
      show ∃ c', _ ∧ R32 (fwk (w + 1) ((s 3).toInt.toNat - (w + 1)) (if pcd s w = true then pwk s w else s)) c'
      by_cases c : pcd s w = true
      · rw [if_pos c]
        obtain ⟨c1, z1, z2⟩ := a108_9 (F := F) R (w := w) (v1 := Int32.ofNat w) rfl (by omega)
        have e3 : pwk s w 3 = s 3 := pwk_k (by decide)
        obtain ⟨c', d1, d2⟩ := ih (s := pwk s w) (m := xr m 10 c1) (w := w + 1) (I_wk I w3) (by rw [xr_s]; exact z2) (by rw [e3]; omega) (by omega)
        rw [e3] at d2
        refine ⟨c', ob (c80_9 R) (oF g (ob (c107_9 hF R I rfl w3) (oF (pB1.trans (by rw [c]; rfl)) (ob z1 ?_)))), d2⟩
        unfold D109_9_24
        rw [(o1 (n := w) (by omega)).2.2, d1, xr_xr]
      · rw [if_neg c]
        have c0 : pcd s w = false := by simpa using c
        obtain ⟨c', d1, d2⟩ := ih (s := s) (m := m) (w := w + 1) I R (by omega) (by omega)
        refine ⟨c', ob (c80_9 R) (oF g (ob (c107_9 hF R I rfl w3) (oT (pB1.trans (by rw [c0]; rfl)) ?_))), d2⟩
        unfold D109_9_24
        rw [(o1 (n := w) (by omega)).2.2]
        exact d1
theorem c109 (hF : 500 ≤ F) (I : vI s) (R : R32 s (m.1 10)) : ∃ c', D109_9 F m = some ((), xr m 10 c') ∧ R32 (fwk 0 (s 3).toInt.toNat s) c' := by
  have n3 := I_nw I
  have z := c109_2 (F := F) hF F (s := s) (m := m) (w := 0) I R (by omega) (by omega)
  rw [Nat.sub_zero] at z
  unfold D109_9
  exact z
/-- run: its loop -/
theorem c139_57 (hF : 500 ≤ F) {r0 nn : Nat} (h88 : 88 ≤ r0) (hn : nn ≤ 400) {xs : List Int} (hl : xs.length = nn) (G : ∀ w, cgd w xs []) {ru v2 v3 : Int32} {n : Nat} (h2 : v2 = Int32.ofNat n) (n60 : n ≤ 60) : ∀ (f : Nat) {s : Nat → Int32} {m : xS} {i : Nat}, vI s → R32 s (m.1 10) → stp m r0 xs → (s 4).toInt + ((n - i : Nat) : Int) ≤ 999 → i ≤ n → n - i < f → ∃ m', D139_0_A_57 F ru true r0 nn f ru v2 v3 (Int32.ofNat i) m = some (rdays (smC xs) (n - i) s 5 - v3, xu m' 14 2 0) ∧ R32 (rdays (smC xs) (n - i) s) (m'.1 10) ∧ vI (rdays (smC xs) (n - i) s) ∧ (rdays (smC xs) (n - i) s 4).toInt = (s 4).toInt + ((n - i : Nat) : Int) ∧ kf r0 m m' := by
  subst h2
  have en := nJ (n := n) (by omega)
  intro f
  induction f with
  | zero => intro s m i _ _ _ _ _ l; omega
  | succ f ih =>
    intro s m i I R S hd hi l
    have ei := nJ (n := i) (by omega)
    unfold D139_0_A_57
    by_cases q : n ≤ i
    · rw [show n - i = 0 by omega]
      refine ⟨m, oT (zc.trans (decide_eq_true (by omega))) (ob (a := ()) (m := xu m 14 2 0) rfl (ob (c82_9 (s := s) ?_) rfl)), R, I, by show (s 4).toInt = _; omega, kf_r r0 m⟩
      rw [show (xu m 14 2 0).1 10 = m.1 10 from xu_row (by decide)]
      exact R
    · rw [show n - i = (n - (i + 1)) + 1 by omega]
      have d0 := I_day I
      have n2 := I_nt I
      have n3 := I_nw I
      obtain ⟨m1, z1, z2, z3⟩ := c27 (F := F) hF h88 hn hl G I R S
      have J := lall_I (sm := smC xs) (s 2).toInt.toNat (t := 0) I (by omega)
      have e3 : lall (smC xs) 0 (s 2).toInt.toNat s 3 = s 3 := lall_k _ (by decide)
      obtain ⟨c2, y1, y2⟩ := c109 (F := F) (m := m1) hF J z2
      rw [e3] at y2
      have K := fwk_I (s 3).toInt.toNat (w := 0) J (by rw [e3]; omega)
      have e4 : fwk 0 (s 3).toInt.toNat (lall (smC xs) 0 (s 2).toInt.toNat s) 4 = s 4 := by rw [fwk_k _ (by decide), lall_k _ (by decide)]
      obtain ⟨c3, x1, x2⟩ := a112_9 (F := F) (m := xr m1 10 c2) hF (by rw [xr_s]; exact y2) K (by rw [e4]; omega)
      have dd := day1_d (sm := smC xs) I (by omega)
      have k3 : kf r0 m (xr (xr m1 10 c2) 10 c3) := kf_t z3 (kf_t kf_x kf_x)
      obtain ⟨m', w1, w2, w3, w4, w5⟩ := ih (s := day1 (smC xs) s) (m := xr (xr m1 10 c2) 10 c3) (i := i + 1) (day1_I I (by omega)) (by rw [xr_s]; exact x2) (stp_f h88 k3 S) (by rw [dd]; omega) (by omega) (by omega)
      refine ⟨m', oF (zc.trans (decide_eq_false (by omega))) (oT (by rw [beq_self_eq_true]; rfl) (ob z1 (ob y1 (ob x1 ?_)))), w2, w3, ?_, kf_t k3 w5⟩
      · rw [(o1 (n := i) (by omega)).2.2]
        exact w1
      · show (rdays (smC xs) (n - (i + 1)) (day1 (smC xs) s) 4).toInt = _
        rw [w4, dd]
        omega
end PCRN
