/-! Acts of the class. -/
section CA_9
variable {s : Nat → Int32} {m : xS} {F : Nat}
theorem a88_9 {t w : Nat} {v1 v2 v3 : Int32} (h1 : v1 = Int32.ofNat t) (h2 : v2 = Int32.ofNat w) (ht : t < 6) (hw : w < 6) : D88_9 F v1 v2 v3 m = some ((), xr m 10 (cup (m.1 10) (6 + 6 * w + t) v3)) := by
  subst h1
  subst h2
  have i := ix6 (A := 6) (B := 6) (a := w) (d := t) rfl (by decide) (by omega) (by omega)
  unfold D88_9
  rw [gxn i, if_pos (gxb i (by omega)), xu_xr]
theorem a75_9 {a d : Nat} {v1 v2 v3 : Int32} (h1 : v1 = Int32.ofNat a) (h2 : v2 = Int32.ofNat d) (ha : a < 6) (hd : d < 6) : D75_9 F v1 v2 v3 m = some ((), xr m 10 (cup (m.1 10) (78 + 6 * a + d) v3)) := by
  subst h1
  subst h2
  have i := ix6 (A := 78) (B := 78) (a := a) (d := d) rfl (by decide) (by omega) (by omega)
  unfold D75_9
  rw [gxn i, if_pos (gxb i (by omega)), xu_xr]
theorem a104_9 {t : Nat} {v1 v2 : Int32} (h1 : v1 = Int32.ofNat t) (ht : t < 6) : D104_9 F v1 v2 m = some ((), xr m 10 (cup (cup (cup (cup (m.1 10) (6 + 6 * 0 + t) v2) (6 + 6 * 3 + t) v2) (6 + 6 * 4 + t) 0) (6 + 6 * 5 + t) 0)) := by
  unfold D104_9
  refine ob (a88_9 h1 (w := 0) rfl ht (by decide)) (ob (a88_9 h1 (w := 3) rfl ht (by decide)) (ob (a88_9 h1 (w := 4) rfl ht (by decide)) (ob (a88_9 h1 (w := 5) rfl ht (by decide)) ?_)))
  simp only [xr_s, xr_xr]
theorem a103_9 (R : R32 s (m.1 10)) {t : Nat} {v1 : Int32} (h1 : v1 = Int32.ofNat t) (ht : t < 6) : ∃ c', D103_9 F v1 m = some ((), xr m 10 c') ∧ R32 (pgv s t (s (10 + 6 * t))) c' := by
  refine ⟨_, ?_, R_gv R ht⟩
  unfold D103_9
  exact ob (c87_9 R h1 (w := 0) rfl ht (by decide)) (ob (a104_9 h1 ht) rfl)
theorem a102_9 (R : R32 s (m.1 10)) (I : vI s) {t h : Nat} {v1 v2 : Int32} (h1 : v1 = Int32.ofNat t) (h2 : v2 = Int32.ofNat h) (ht : (t : Int) < (s 2).toInt) (hh : h < 6) : ∃ c', D102_9 F v1 v2 m = some ((), xr m 10 c') ∧ R32 (pld s t h) c' := by
  have t6 : t < 6 := by have := I_nt I; omega
  have it := I.2.1 t ht
  have n6 := I_n6 I
  obtain ⟨hol, eh⟩ : ∃ n : Nat, n = (s (10 + 6 * t + 3)).toInt.toNat := ⟨_, rfl⟩
  have eh2 : s (10 + 6 * t + 3) = Int32.ofNat hol := i32n (by omega)
  have R1 := R_th R I hh (d := hol) (by omega)
  have e4 : pth s (82 + 6 * h + hol) (10 + 6 * t + 4) = s (10 + 6 * t + 4) := pth_o (by omega)
  have R2 := R_ut (v := s (10 + 6 * t + 4) + 1) R1 t6 (w := 4) (by decide)
  have R3 := R_ut (v := v2) R2 t6 (w := 3) (by decide)
  refine ⟨_, ?_, (by unfold pld; rw [← eh, ← h2]; exact R3)⟩
  unfold D102_9
  refine ob (c87_9 R h1 (w := 3) rfl t6 (by decide)) (ob (c94_9 R h2 eh2 hh (by omega)) (ob (a75_9 h2 eh2 hh (by omega)) (ob (c87_9 (s := pth s (82 + 6 * h + hol)) (by rw [xr_s]; exact R1) h1 (w := 4) rfl t6 (by decide)) (ob (a88_9 h1 (w := 4) rfl t6 (by decide)) (ob (a88_9 h1 (w := 3) rfl t6 (by decide)) ?_)))))
  simp only [xr_s, xr_xr, e4]
theorem a108_9 (R : R32 s (m.1 10)) {w : Nat} {v1 : Int32} (h1 : v1 = Int32.ofNat w) (hw : w < 6) : ∃ c', D108_9 F v1 m = some (s (124 + 4 * w + 3), xr m 10 c') ∧ R32 (pwk s w) c' := by
  have R1 := R_ud (v := s 4) R hw
  have e5 : cup s (118 + w) (s 4) 5 = s 5 := cup_o (by omega)
  have R2 := R_uj (v := s 5 + s (124 + 4 * w + 3)) R1 (j := 5) (by decide) (by decide)
  refine ⟨_, ?_, R2⟩
  unfold D108_9
  refine ob (c89_9 R h1 (k := 3) rfl hw (by decide)) (ob (c81_9 R) ?_)
  have i := ix6 (A := 42) (B := 42) (a := 4) (d := w) rfl (by decide) (by omega) (by omega)
  have i : ((42 : Int32) + 6 * 4 + Int32.ofNat w).toInt = ((66 + w : Nat) : Int) := i
  subst h1
  unfold D90_9
  rw [gxn i, if_pos (gxb i (by omega))]
  refine ob rfl ?_
  have e : (cup (m.1 10) (66 + w) (s 4)) 5 = s 5 := by rw [cup_o (by omega), R_j R (by decide)]
  simp only [xu_xr, xr_s, xr_xr, e]
theorem a105_9 (hT : xT m) (R : R32 s (m.1 10)) {a d : Nat} {v1 v2 : Int32} (h1 : v1 = Int32.ofNat a) (h2 : v2 = Int32.ofNat d) (ha : a < 6) (hd : d < 6) (ne : a ≠ d) : ∃ c', D105_9 F v1 v2 m = some ((), xr m 10 c') ∧ R32 (pqu s a d) c' := by
  have b1 := b63 hT (r := 10) rfl (by decide) ha
  have b2 := b63 hT (r := 10) rfl (by decide) hd
  subst h1
  subst h2
  have R1 := R_uq (v := m.1 10 (72 + a) &&& (((1 : Int32) <<< (Int32.ofNat d &&& 31)) ^^^ (-1))) R ha hd (by rw [tb_nand b1.1 b1.2 hd hd, decide_eq_true rfl]; exact Bool.and_false _) (fun i hi z => by rw [tb_nand b1.1 b1.2 hd hi, decide_eq_false z]; exact Bool.and_true _)
  have e : cup (m.1 10) (72 + a) (m.1 10 (72 + a) &&& (((1 : Int32) <<< (Int32.ofNat d &&& 31)) ^^^ (-1))) (72 + d) = m.1 10 (72 + d) := cup_o (by omega)
  have R2 := R_uq (v := m.1 10 (72 + d) &&& (((1 : Int32) <<< (Int32.ofNat a &&& 31)) ^^^ (-1))) R1 hd ha (by rw [tb_nand b2.1 b2.2 ha ha, decide_eq_true rfl]; exact Bool.and_false _) (fun i hi z => by rw [tb_nand b2.1 b2.2 ha hi, decide_eq_false z, e]; exact Bool.and_true _)
  refine ⟨_, ?_, R2⟩
  have i := ix1 (A := 72) (B := 72) (d := a) rfl (by decide) (by omega)
  have j := ix1 (A := 72) (B := 72) (d := d) rfl (by decide) (by omega)
  unfold D105_9
  rw [gxn i, gxn j, if_pos (gxb i (by omega)), if_pos (gxb i (by omega)), if_pos (gxb j (by omega)), if_pos (gxb j (by omega))]
  simp only [xu_xr, xr_s, xr_xr, e]
theorem a112_2_9 (hd : 0 ≤ (s 4).toInt) (d9 : (s 4).toInt < 999) : ∀ (f : Nat) {t : Nat} {s' : Nat → Int32} {m : xS}, R32 s' (m.1 10) → s' 2 = s 2 → s' 4 = s 4 → (t : Int) ≤ (s 2).toInt → (s 2).toInt ≤ 6 → 6 - t < f → ∃ c', D112_9_2 F f (Int32.ofNat t) m = some ((), xr m 10 c') ∧ R32 (cup (pous s' t ((s 2).toInt.toNat - t)) 4 (s 4 + 1)) c' := by
  intro f
  induction f with
  | zero => intro t s' m _ _ _ _ _ l; omega
  | succ f ih =>
    intro t s' m R e2 e4 ht n6 l
    have et := nJ (n := t) (by omega)
    unfold D112_9_2
    by_cases h : (s 2).toInt ≤ (t : Int)
    · rw [show (s 2).toInt.toNat - t = 0 by omega]
      have R1 := R_uj (v := s 4 + 1) R (j := 4) (by decide) (by decide)
      refine ⟨_, ob (c79_9 R) (oi (p := true) (by rw [zc]; exact decide_eq_true (by dsimp only; rw [e2]; omega)) (fun _ => ob (c81_9 R) ?_) (fun z => by cases z)), R1⟩
      have e : (if s' 4 + 1 < 999 then s' 4 + 1 else 999) = s 4 + 1 := by
        rw [e4]
        have e1 : (s 4 + 1).toInt = (s 4).toInt + 1 := xa1 (by show _ ≤ _ + (1 : Int); omega) (by show _ + (1 : Int) ≤ _; omega)
        by_cases z : s 4 + 1 < 999
        · rw [if_pos z]
        · rw [if_neg z]
          apply Int32.toInt_inj.mp
          have z : ¬ (s 4 + 1).toInt < (999 : Int) := fun y => z (Int32.lt_iff_toInt_lt.mpr y)
          show (999 : Int) = _
          omega
      dsimp only
      rw [e, xu_xr]
    · have t6 : t < 6 := by omega
      rw [show (s 2).toInt.toNat - t = ((s 2).toInt.toNat - (t + 1)) + 1 by omega]
      show ∃ c', _ ∧ R32 (cup (pous (pou s' t) (t + 1) ((s 2).toInt.toNat - (t + 1))) 4 (s 4 + 1)) c'
      have next : ∀ {m' : xS}, R32 (pou s' t) (m'.1 10) → ∃ c', D112_9_32 F (D112_9_2 F f) (Int32.ofNat t) m' = some ((), xr m' 10 c') ∧ R32 (cup (pous (pou s' t) (t + 1) ((s 2).toInt.toNat - (t + 1))) 4 (s 4 + 1)) c' := fun {m'} R' => by
        unfold D112_9_32
        rw [show Int32.ofNat t + Int32.ofInt 1 = Int32.ofNat (t + 1) from xadd (a := t) (b := 1) (by omega)]
        exact ih R' (by rw [pou_o (by omega)]; exact e2) (by rw [pou_o (by omega)]; exact e4) (by omega) n6 (by omega)
      have R1 := pou_R R t6
      by_cases hm : phm s' t = true
      · rw [if_pos hm] at R1
        obtain ⟨c', k1, k2⟩ := next R1
        refine ⟨c', ob (c79_9 R) (oi (p := false) (by rw [zc]; exact decide_eq_false (by dsimp only; rw [e2]; omega)) (fun z => by cases z) (fun _ => ob (c97_9 R rfl t6) (oi (p := true) (by rw [pB2]; exact hm) (fun _ => k1) (fun z => by cases z)))), k2⟩
      · rw [if_neg hm] at R1
        obtain ⟨c', k1, k2⟩ := next (m' := xr m 10 (cup (m.1 10) (6 + 6 * 5 + t) (s' (10 + 6 * t + 5) + 1))) (by rw [xr_s]; exact R1)
        rw [xr_xr] at k1
        refine ⟨c', ob (c79_9 R) (oi (p := false) (by rw [zc]; exact decide_eq_false (by dsimp only; rw [e2]; omega)) (fun z => by cases z) (fun _ => ob (c97_9 R rfl t6) (oi (p := false) (by rw [pB2]; simpa using hm) (fun z => by cases z) (fun _ => ob (c87_9 R rfl (w := 5) rfl t6 (by decide)) (ob (a88_9 rfl (w := 5) rfl t6 (by decide)) k1))))), k2⟩
/-- passDay -/
theorem a112_9 (hF : 500 ≤ F) (R : R32 s (m.1 10)) (I : vI s) (d9 : (s 4).toInt < 999) : ∃ c', D112_9 F m = some ((), xr m 10 c') ∧ R32 (pdy s) c' := by
  have n := I_nt I
  have z := a112_2_9 (F := F) (I_day I).1 d9 F (t := 0) R rfl rfl (by omega) n.2 (by omega)
  exact z
end CA_9
section CA_11t
variable {s : Nat → Int32} {m : xS} {F : Nat}
theorem a88_11t {t w : Nat} {v1 v2 v3 : Int32} (h1 : v1 = Int32.ofNat t) (h2 : v2 = Int32.ofNat w) (ht : t < 6) (hw : w < 6) : D88_11t F v1 v2 v3 m = some ((), xr m 12 (cup (m.1 12) (6 + 6 * w + t) v3)) := by
  subst h1
  subst h2
  have i := ix6 (A := 6) (B := 6) (a := w) (d := t) rfl (by decide) (by omega) (by omega)
  unfold D88_11t
  rw [gxn i, if_pos (gxb i (by omega)), xu_xr]
theorem a75_11t {a d : Nat} {v1 v2 v3 : Int32} (h1 : v1 = Int32.ofNat a) (h2 : v2 = Int32.ofNat d) (ha : a < 6) (hd : d < 6) : D75_11t F v1 v2 v3 m = some ((), xr m 12 (cup (m.1 12) (78 + 6 * a + d) v3)) := by
  subst h1
  subst h2
  have i := ix6 (A := 78) (B := 78) (a := a) (d := d) rfl (by decide) (by omega) (by omega)
  unfold D75_11t
  rw [gxn i, if_pos (gxb i (by omega)), xu_xr]
theorem a104_11t {t : Nat} {v1 v2 : Int32} (h1 : v1 = Int32.ofNat t) (ht : t < 6) : D104_11t F v1 v2 m = some ((), xr m 12 (cup (cup (cup (cup (m.1 12) (6 + 6 * 0 + t) v2) (6 + 6 * 3 + t) v2) (6 + 6 * 4 + t) 0) (6 + 6 * 5 + t) 0)) := by
  unfold D104_11t
  refine ob (a88_11t h1 (w := 0) rfl ht (by decide)) (ob (a88_11t h1 (w := 3) rfl ht (by decide)) (ob (a88_11t h1 (w := 4) rfl ht (by decide)) (ob (a88_11t h1 (w := 5) rfl ht (by decide)) ?_)))
  simp only [xr_s, xr_xr]
theorem a103_11t (R : R32 s (m.1 12)) {t : Nat} {v1 : Int32} (h1 : v1 = Int32.ofNat t) (ht : t < 6) : ∃ c', D103_11t F v1 m = some ((), xr m 12 c') ∧ R32 (pgv s t (s (10 + 6 * t))) c' := by
  refine ⟨_, ?_, R_gv R ht⟩
  unfold D103_11t
  exact ob (c87_11t R h1 (w := 0) rfl ht (by decide)) (ob (a104_11t h1 ht) rfl)
theorem a102_11t (R : R32 s (m.1 12)) (I : vI s) {t h : Nat} {v1 v2 : Int32} (h1 : v1 = Int32.ofNat t) (h2 : v2 = Int32.ofNat h) (ht : (t : Int) < (s 2).toInt) (hh : h < 6) : ∃ c', D102_11t F v1 v2 m = some ((), xr m 12 c') ∧ R32 (pld s t h) c' := by
  have t6 : t < 6 := by have := I_nt I; omega
  have it := I.2.1 t ht
  have n6 := I_n6 I
  obtain ⟨hol, eh⟩ : ∃ n : Nat, n = (s (10 + 6 * t + 3)).toInt.toNat := ⟨_, rfl⟩
  have eh2 : s (10 + 6 * t + 3) = Int32.ofNat hol := i32n (by omega)
  have R1 := R_th R I hh (d := hol) (by omega)
  have e4 : pth s (82 + 6 * h + hol) (10 + 6 * t + 4) = s (10 + 6 * t + 4) := pth_o (by omega)
  have R2 := R_ut (v := s (10 + 6 * t + 4) + 1) R1 t6 (w := 4) (by decide)
  have R3 := R_ut (v := v2) R2 t6 (w := 3) (by decide)
  refine ⟨_, ?_, (by unfold pld; rw [← eh, ← h2]; exact R3)⟩
  unfold D102_11t
  refine ob (c87_11t R h1 (w := 3) rfl t6 (by decide)) (ob (c94_11t R h2 eh2 hh (by omega)) (ob (a75_11t h2 eh2 hh (by omega)) (ob (c87_11t (s := pth s (82 + 6 * h + hol)) (by rw [xr_s]; exact R1) h1 (w := 4) rfl t6 (by decide)) (ob (a88_11t h1 (w := 4) rfl t6 (by decide)) (ob (a88_11t h1 (w := 3) rfl t6 (by decide)) ?_)))))
  simp only [xr_s, xr_xr, e4]
theorem a108_11t (R : R32 s (m.1 12)) {w : Nat} {v1 : Int32} (h1 : v1 = Int32.ofNat w) (hw : w < 6) : ∃ c', D108_11t F v1 m = some (s (124 + 4 * w + 3), xr m 12 c') ∧ R32 (pwk s w) c' := by
  have R1 := R_ud (v := s 4) R hw
  have e5 : cup s (118 + w) (s 4) 5 = s 5 := cup_o (by omega)
  have R2 := R_uj (v := s 5 + s (124 + 4 * w + 3)) R1 (j := 5) (by decide) (by decide)
  refine ⟨_, ?_, R2⟩
  unfold D108_11t
  refine ob (c89_11t R h1 (k := 3) rfl hw (by decide)) (ob (c81_11t R) ?_)
  have i := ix6 (A := 42) (B := 42) (a := 4) (d := w) rfl (by decide) (by omega) (by omega)
  have i : ((42 : Int32) + 6 * 4 + Int32.ofNat w).toInt = ((66 + w : Nat) : Int) := i
  subst h1
  unfold D90_11t
  rw [gxn i, if_pos (gxb i (by omega))]
  refine ob rfl ?_
  have e : (cup (m.1 12) (66 + w) (s 4)) 5 = s 5 := by rw [cup_o (by omega), R_j R (by decide)]
  simp only [xu_xr, xr_s, xr_xr, e]
theorem a112_2_11t (hd : 0 ≤ (s 4).toInt) (d9 : (s 4).toInt < 999) : ∀ (f : Nat) {t : Nat} {s' : Nat → Int32} {m : xS}, R32 s' (m.1 12) → s' 2 = s 2 → s' 4 = s 4 → (t : Int) ≤ (s 2).toInt → (s 2).toInt ≤ 6 → 6 - t < f → ∃ c', D112_11t_2 F f (Int32.ofNat t) m = some ((), xr m 12 c') ∧ R32 (cup (pous s' t ((s 2).toInt.toNat - t)) 4 (s 4 + 1)) c' := by
  intro f
  induction f with
  | zero => intro t s' m _ _ _ _ _ l; omega
  | succ f ih =>
    intro t s' m R e2 e4 ht n6 l
    have et := nJ (n := t) (by omega)
    unfold D112_11t_2
    by_cases h : (s 2).toInt ≤ (t : Int)
    · rw [show (s 2).toInt.toNat - t = 0 by omega]
      have R1 := R_uj (v := s 4 + 1) R (j := 4) (by decide) (by decide)
      refine ⟨_, ob (c79_11t R) (oi (p := true) (by rw [zc]; exact decide_eq_true (by dsimp only; rw [e2]; omega)) (fun _ => ob (c81_11t R) ?_) (fun z => by cases z)), R1⟩
      have e : (if s' 4 + 1 < 999 then s' 4 + 1 else 999) = s 4 + 1 := by
        rw [e4]
        have e1 : (s 4 + 1).toInt = (s 4).toInt + 1 := xa1 (by show _ ≤ _ + (1 : Int); omega) (by show _ + (1 : Int) ≤ _; omega)
        by_cases z : s 4 + 1 < 999
        · rw [if_pos z]
        · rw [if_neg z]
          apply Int32.toInt_inj.mp
          have z : ¬ (s 4 + 1).toInt < (999 : Int) := fun y => z (Int32.lt_iff_toInt_lt.mpr y)
          show (999 : Int) = _
          omega
      dsimp only
      rw [e, xu_xr]
    · have t6 : t < 6 := by omega
      rw [show (s 2).toInt.toNat - t = ((s 2).toInt.toNat - (t + 1)) + 1 by omega]
      show ∃ c', _ ∧ R32 (cup (pous (pou s' t) (t + 1) ((s 2).toInt.toNat - (t + 1))) 4 (s 4 + 1)) c'
      have next : ∀ {m' : xS}, R32 (pou s' t) (m'.1 12) → ∃ c', D112_11t_32 F (D112_11t_2 F f) (Int32.ofNat t) m' = some ((), xr m' 12 c') ∧ R32 (cup (pous (pou s' t) (t + 1) ((s 2).toInt.toNat - (t + 1))) 4 (s 4 + 1)) c' := fun {m'} R' => by
        unfold D112_11t_32
        rw [show Int32.ofNat t + Int32.ofInt 1 = Int32.ofNat (t + 1) from xadd (a := t) (b := 1) (by omega)]
        exact ih R' (by rw [pou_o (by omega)]; exact e2) (by rw [pou_o (by omega)]; exact e4) (by omega) n6 (by omega)
      have R1 := pou_R R t6
      by_cases hm : phm s' t = true
      · rw [if_pos hm] at R1
        obtain ⟨c', k1, k2⟩ := next R1
        refine ⟨c', ob (c79_11t R) (oi (p := false) (by rw [zc]; exact decide_eq_false (by dsimp only; rw [e2]; omega)) (fun z => by cases z) (fun _ => ob (c97_11t R rfl t6) (oi (p := true) (by rw [pB2]; exact hm) (fun _ => k1) (fun z => by cases z)))), k2⟩
      · rw [if_neg hm] at R1
        obtain ⟨c', k1, k2⟩ := next (m' := xr m 12 (cup (m.1 12) (6 + 6 * 5 + t) (s' (10 + 6 * t + 5) + 1))) (by rw [xr_s]; exact R1)
        rw [xr_xr] at k1
        refine ⟨c', ob (c79_11t R) (oi (p := false) (by rw [zc]; exact decide_eq_false (by dsimp only; rw [e2]; omega)) (fun z => by cases z) (fun _ => ob (c97_11t R rfl t6) (oi (p := false) (by rw [pB2]; simpa using hm) (fun z => by cases z) (fun _ => ob (c87_11t R rfl (w := 5) rfl t6 (by decide)) (ob (a88_11t rfl (w := 5) rfl t6 (by decide)) k1))))), k2⟩
/-- passDay -/
theorem a112_11t (hF : 500 ≤ F) (R : R32 s (m.1 12)) (I : vI s) (d9 : (s 4).toInt < 999) : ∃ c', D112_11t F m = some ((), xr m 12 c') ∧ R32 (pdy s) c' := by
  have n := I_nt I
  have z := a112_2_11t (F := F) (I_day I).1 d9 F (t := 0) R rfl rfl (by omega) n.2 (by omega)
  exact z
end CA_11t
