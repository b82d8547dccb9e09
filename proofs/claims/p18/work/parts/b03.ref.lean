/-! The reference looks. -/
section RG
variable {m : xS} {F : Nat}
theorem r205 {v : Int32} : D205 F v m = some (pB (pin (m.1 80) 0 v), m) := by
  unfold D205 D205_18
  refine oi (p := decide (v.toInt < 0)) zcl (fun h => ?_) (fun h => oi (p := decide ((m.1 80 0).toInt ≤ v.toInt)) zc (fun h2 => ?_) (fun h2 => ?_))
  · have h := of_decide_eq_true h
    rw [show pin (m.1 80) 0 v = false by unfold pin; rw [decide_eq_false (by omega), Bool.false_and]]
    rfl
  · have h2 := of_decide_eq_true h2
    rw [show pin (m.1 80) 0 v = false by unfold pin; rw [decide_eq_false (p := v.toInt < (m.1 80 0).toInt) (by omega), Bool.and_false]]
    rfl
  · have h := of_decide_eq_false h
    have h2 := of_decide_eq_false h2
    rw [pin_iff.mpr (by omega)]
    rfl
theorem r206 {v : Int32} : D206 F v m = some (pB (pin (m.1 80) 2 v), m) := by
  unfold D206 D206_18
  refine oi (p := decide (v.toInt < 0)) zcl (fun h => ?_) (fun h => oi (p := decide ((m.1 80 2).toInt ≤ v.toInt)) zc (fun h2 => ?_) (fun h2 => ?_))
  · have h := of_decide_eq_true h
    rw [show pin (m.1 80) 2 v = false by unfold pin; rw [decide_eq_false (by omega), Bool.false_and]]
    rfl
  · have h2 := of_decide_eq_true h2
    rw [show pin (m.1 80) 2 v = false by unfold pin; rw [decide_eq_false (p := v.toInt < (m.1 80 2).toInt) (by omega), Bool.and_false]]
    rfl
  · have h := of_decide_eq_false h
    have h2 := of_decide_eq_false h2
    rw [pin_iff.mpr (by omega)]
    rfl
theorem r207 {v : Int32} : D207 F v m = some (pB (pin (m.1 80) 3 v), m) := by
  unfold D207 D207_18
  refine oi (p := decide (v.toInt < 0)) zcl (fun h => ?_) (fun h => oi (p := decide ((m.1 80 3).toInt ≤ v.toInt)) zc (fun h2 => ?_) (fun h2 => ?_))
  · have h := of_decide_eq_true h
    rw [show pin (m.1 80) 3 v = false by unfold pin; rw [decide_eq_false (by omega), Bool.false_and]]
    rfl
  · have h2 := of_decide_eq_true h2
    rw [show pin (m.1 80) 3 v = false by unfold pin; rw [decide_eq_false (p := v.toInt < (m.1 80 3).toInt) (by omega), Bool.and_false]]
    rfl
  · have h := of_decide_eq_false h
    have h2 := of_decide_eq_false h2
    rw [pin_iff.mpr (by omega)]
    rfl
theorem r208 {t w : Nat} {v1 v2 : Int32} (h1 : v1 = Int32.ofNat t) (h2 : v2 = Int32.ofNat w) (ht : t < 6) (hw : w < 6) : D208 F v1 v2 m = some (m.1 80 (10 + 6 * t + w), m) := by
  subst h1
  subst h2
  have i := ix6 (A := 10) (B := 10) (a := t) (d := w) rfl (by decide) (by omega) (by omega)
  unfold D208
  rw [gxn i, if_pos (gxb i (by omega))]
theorem r209 {w k : Nat} {v1 v2 : Int32} (h1 : v1 = Int32.ofNat w) (h2 : v2 = Int32.ofNat k) (hw : w < 6) (hk : k < 4) : D209 F v1 v2 m = some (m.1 80 (124 + 4 * w + k), m) := by
  subst h1
  subst h2
  have i := ix4 (a := w) (d := k) (by omega) (by omega)
  unfold D209
  rw [gxn i, if_pos (gxb i (by omega))]
theorem r210 {a d : Nat} {v1 v2 : Int32} (h1 : v1 = Int32.ofNat a) (h2 : v2 = Int32.ofNat d) (ha : a < 6) (hd : d < 6) : D210 F v1 v2 m = some (pB (ptr (m.1 80) a d), m) := by
  subst h1
  subst h2
  have i := ix6 (A := 46) (B := 46) (a := a) (d := d) rfl (by decide) (by omega) (by omega)
  unfold D210
  rw [gxn i, if_pos (gxb i (by omega))]
  refine oi (p := !(m.1 80 (46 + 6 * a + d) == 1)) zcn (fun h => ?_) (fun h => ?_)
  · rw [show ptr (m.1 80) a d = false by unfold ptr; simpa using h]
    rfl
  · rw [show ptr (m.1 80) a d = true by unfold ptr; simpa using h]
    rfl
theorem r211 {a d : Nat} {v1 v2 : Int32} (h1 : v1 = Int32.ofNat a) (h2 : v2 = Int32.ofNat d) (ha : a < 6) (hd : d < 6) : D211 F v1 v2 m = some (m.1 80 (82 + 6 * a + d), m) := by
  subst h1
  subst h2
  have i := ix6 (A := 82) (B := 82) (a := a) (d := d) rfl (by decide) (by omega) (by omega)
  unfold D211
  rw [gxn i, if_pos (gxb i (by omega))]
theorem r212 {t : Nat} {v1 : Int32} (h1 : v1 = Int32.ofNat t) (ht : t < 6) : D212 F v1 m = some (pB (phm (m.1 80) t), m) := by
  unfold D212
  refine ob (r208 h1 (w := 0) rfl ht (by decide)) (ob (r208 h1 (w := 3) rfl ht (by decide)) (oi (p := !phm (m.1 80) t) ?_ (fun h => ?_) (fun h => ?_)))
  · rw [zcn]
    unfold phm
    exact congrArg not (by rw [Bool.eq_iff_iff, beq_iff_eq, beq_iff_eq]; exact ⟨fun z => z.symm, fun z => z.symm⟩)
  · rw [show phm (m.1 80) t = false by simpa using h]
    rfl
  · rw [show phm (m.1 80) t = true by simpa using h]
    rfl
theorem r213 {t : Nat} {v1 : Int32} (h1 : v1 = Int32.ofNat t) (ht : t < 6) : D213 F v1 m = some (prs (m.1 80) t, m) := by
  unfold D213 D213_26 prs
  refine ob (r208 h1 (w := 5) rfl ht (by decide)) (ob (r212 h1 ht) (oi (p := phm (m.1 80) t) pB2 (fun h => ?_) (fun h => ?_)))
  · rw [if_pos (Or.inl h)]
  · dsimp only
    refine oi (p := decide (0 ≤ (m.1 80 (10 + 6 * t + 5) - m.1 80 1).toInt)) zc (fun h2 => ?_) (fun h2 => ?_)
    · have h2 := of_decide_eq_true h2
      rw [if_neg (fun z => Or.elim z (fun q => by rw [h] at q; cases q) (fun q => by omega))]
    · have h2 := of_decide_eq_false h2
      rw [if_pos (Or.inr (by omega))]
theorem r214_14 {t : Nat} {v1 v2 : Int32} (h1 : v1 = Int32.ofNat t) (ht : t < 6) : D214_14 F v1 v2 m = some (psh0 (m.1 80) t v2, m) := by
  unfold D214_14 psh0
  refine ob (r208 h1 (w := 2) rfl ht (by decide)) (ob (r208 h1 (w := 4) rfl ht (by decide)) (ob (r213 h1 ht) ?_))
  dsimp only
  refine oi (p := decide (0 ≤ (m.1 80 (10 + 6 * t + 2) + m.1 80 (10 + 6 * t + 4) + v2 - prs (m.1 80) t).toInt)) zc (fun h2 => ?_) (fun h2 => ?_)
  · have h2 := of_decide_eq_true h2
    rw [if_neg (by omega)]
  · have h2 := of_decide_eq_false h2
    rw [if_pos (by omega)]
theorem r214 {t : Nat} {v1 v2 : Int32} (h1 : v1 = Int32.ofNat t) (ht : t < 6) : D214 F v1 v2 m = some (psh (m.1 80) t v2, m) := by
  unfold D214 psh
  refine oi (p := !(v2 == 0)) zcn (fun h => ?_) (fun h => ?_)
  · have h : ¬ v2 = 0 := by simpa using h
    rw [if_neg (fun z => h z.1)]
    exact r214_14 h1 ht
  · have h : v2 = 0 := by simpa using h
    refine ob (r212 h1 ht) (oi (p := !phm (m.1 80) t) pB1 (fun h2 => ?_) (fun h2 => ?_))
    · have h2 : phm (m.1 80) t = false := by simpa using h2
      rw [if_neg (fun z => by rw [h2] at z; cases z.2)]
      exact r214_14 h1 ht
    · have h2 : phm (m.1 80) t = true := by simpa using h2
      rw [if_pos ⟨h, h2⟩]
theorem r215 {w : Nat} {v1 : Int32} (h1 : v1 = Int32.ofNat w) (hw : w < 6) : D215 F v1 m = some (pB (pdn (m.1 80) w), m) := by
  subst h1
  have i := ix1 (A := 118) (B := 118) (d := w) rfl (by decide) (by omega)
  unfold D215
  rw [gxn i, if_pos (gxb i (by omega))]
  refine oi (p := decide ((m.1 80 (118 + w)).toInt < 0)) zcl (fun h => ?_) (fun h => ?_)
  · have h := of_decide_eq_true h
    rw [show pdn (m.1 80) w = false by unfold pdn; exact decide_eq_false (by omega)]
    rfl
  · have h := of_decide_eq_false h
    rw [show pdn (m.1 80) w = true by unfold pdn; exact decide_eq_true (by omega)]
    rfl
theorem r216_12 (n6 : 0 ≤ (m.1 80 2).toInt ∧ (m.1 80 2).toInt ≤ 6) {w : Nat} {v1 : Int32} (h1 : v1 = Int32.ofNat w) (w6 : w < 6) : ∀ (f : Nat) {t : Nat}, (t : Int) ≤ (m.1 80 2).toInt → 6 - t < f → D216_12 F f v1 (Int32.ofNat t) m = some (pB ((List.range' t ((m.1 80 2).toInt.toNat - t)).any (pfit (m.1 80) w)), m) := by
  intro f
  induction f with
  | zero => intro t _ l; omega
  | succ f ih =>
    intro t ht l
    have et := nJ (n := t) (by omega)
    unfold D216_12
    refine oi (p := decide ((m.1 80 2).toInt ≤ (Int32.ofNat t).toInt)) zc (fun h => ?_) (fun h => ?_)
    · have h := of_decide_eq_true h
      rw [show (m.1 80 2).toInt.toNat - t = 0 by omega]
      rfl
    · have h := of_decide_eq_false h
      have t2 : (t : Int) < (m.1 80 2).toInt := by omega
      have next : D216_69 F (D216_12 F f) v1 (Int32.ofNat t) m = some (pB ((List.range' (t + 1) ((m.1 80 2).toInt.toNat - (t + 1))).any (pfit (m.1 80) w)), m) := by
        unfold D216_69
        rw [show Int32.ofNat t + Int32.ofInt 1 = Int32.ofNat (t + 1) from xadd (a := t) (b := 1) (by omega)]
        exact ih (by omega) (by omega)
      rw [show (m.1 80 2).toInt.toNat - t = ((m.1 80 2).toInt.toNat - (t + 1)) + 1 by omega, List.range'_succ, List.any_cons]
      refine ob (r208 (t := t) (w := 1) rfl rfl (by omega) (by decide)) (ob (r209 h1 (k := 1) rfl w6 (by decide)) (oi (p := !(m.1 80 (10 + 6 * t + 1) == m.1 80 (124 + 4 * w + 1))) zcn (fun a => ?_) (fun a => ?_)))
      · rw [show pfit (m.1 80) w t = false by unfold pfit; rw [show (m.1 80 (10 + 6 * t + 1) == m.1 80 (124 + 4 * w + 1)) = false by simpa using a, Bool.false_and], Bool.false_or]
        exact next
      have a : (m.1 80 (10 + 6 * t + 1) == m.1 80 (124 + 4 * w + 1)) = true := by simpa using a
      refine ob (r208 (t := t) (w := 3) rfl rfl (by omega) (by decide)) (ob (r209 h1 (k := 0) rfl w6 (by decide)) (oi (p := !(m.1 80 (10 + 6 * t + 3) == m.1 80 (124 + 4 * w))) zcn (fun b => ?_) (fun b => ?_)))
      · rw [show pfit (m.1 80) w t = false by unfold pfit; rw [show (m.1 80 (10 + 6 * t + 3) == m.1 80 (124 + 4 * w)) = false by simpa using b, Bool.false_and, Bool.and_false], Bool.false_or]
        exact next
      have b : (m.1 80 (10 + 6 * t + 3) == m.1 80 (124 + 4 * w)) = true := by simpa using b
      refine ob (r214 (t := t) (v2 := 0) rfl (by omega)) (ob (r209 h1 (k := 2) rfl w6 (by decide)) (oi (p := decide ((psh (m.1 80) t 0).toInt < (m.1 80 (124 + 4 * w + 2)).toInt)) zcl (fun g => ?_) (fun g => ?_)))
      · have g := of_decide_eq_true g
        rw [show pfit (m.1 80) w t = false by unfold pfit; rw [a, b, decide_eq_false (by omega)]; rfl, Bool.false_or]
        exact next
      · have g := of_decide_eq_false g
        rw [show pfit (m.1 80) w t = true by unfold pfit; rw [a, b, decide_eq_true (by omega)]; rfl, Bool.true_or]
        rfl
theorem r216 (hF : 500 ≤ F) (n6 : 0 ≤ (m.1 80 2).toInt ∧ (m.1 80 2).toInt ≤ 6) {w : Nat} {v1 : Int32} (h1 : v1 = Int32.ofNat w) (w6 : w < 6) : D216 F v1 m = some (pB (pcd (m.1 80) w), m) := by
  unfold D216 pcd
  refine ob (r215 h1 w6) (oi (p := !pdn (m.1 80) w) pB1 (fun h => ?_) (fun h => ?_))
  · have z := r216_12 (F := F) n6 h1 w6 F (t := 0) (by omega) (by omega)
    rw [Nat.sub_zero, ← List.range_eq_range'] at z
    rw [h, Bool.true_and]
    exact z
  · rw [h, Bool.false_and]
    rfl
theorem r222 (I : vI (m.1 80)) {t h : Nat} {v1 v2 : Int32} (h1 : v1 = Int32.ofNat t) (h2 : v2 = Int32.ofNat h) (ht : (t : Int) < (m.1 80 2).toInt) (hh : h < 6) : D222 F v1 v2 m = some (pB (pcl (m.1 80) t h), m) := by
  have t6 : t < 6 := by have := I_nt I; omega
  have it := I.2.1 t ht
  have n6 := I_n6 I
  have eh : m.1 80 (10 + 6 * t + 3) = Int32.ofNat (m.1 80 (10 + 6 * t + 3)).toInt.toNat := i32n (by omega)
  subst h2
  unfold D222 D222_35
  refine ob (r208 h1 (w := 3) rfl t6 (by decide)) (oi (p := m.1 80 (10 + 6 * t + 3) == Int32.ofNat h) zce (fun a => ?_) (fun a => ?_))
  · rw [show pcl (m.1 80) t h = false by unfold pcl; rw [a]; rfl]
    rfl
  refine ob (r208 h1 (w := 0) rfl t6 (by decide)) (oi (p := m.1 80 (10 + 6 * t) == Int32.ofNat h) zce (fun b => ?_) (fun b => ?_))
  · rw [show pcl (m.1 80) t h = false by unfold pcl; rw [b]; simp]
    rfl
  refine ob (r210 (a := (m.1 80 (10 + 6 * t + 3)).toInt.toNat) eh rfl (by omega) hh) (oi (p := !ptr (m.1 80) (m.1 80 (10 + 6 * t + 3)).toInt.toNat h) pB1 (fun g => ?_) (fun g => ?_))
  · have g : ptr (m.1 80) (m.1 80 (10 + 6 * t + 3)).toInt.toNat h = false := by simpa using g
    rw [show pcl (m.1 80) t h = false by unfold pcl; rw [g]; simp]
    rfl
  · have g : ptr (m.1 80) (m.1 80 (10 + 6 * t + 3)).toInt.toNat h = true := by simpa using g
    rw [show pcl (m.1 80) t h = true by unfold pcl; rw [g, a, b]; rfl]
    rfl
/-- in, of ints -/
theorem r158 {v : Int32} {l h : Int64} {x y : Int} (hl : l.toInt = x) (hh : h.toInt = y) : D158 F v.toInt64 l h m = some (pB (decide (x ≤ v.toInt) && decide (v.toInt ≤ y)), m) := by
  have k1 := ylcmp v.toInt64 l
  have k2 := ylcmp v.toInt64 h
  rw [Int32.toInt_toInt64] at k1 k2
  unfold D158 D158_17
  refine oi (p := decide ((lg_cmp v.toInt64 l).toInt < 0)) zcl (fun a => ?_) (fun a => oi (p := decide (0 < (lg_cmp v.toInt64 h).toInt)) zcgt (fun b => ?_) (fun b => ?_))
  · have a := of_decide_eq_true a
    rw [decide_eq_false (p := x ≤ v.toInt) (by omega)]
    rfl
  · have b := of_decide_eq_true b
    rw [decide_eq_false (p := v.toInt ≤ y) (by omega), Bool.and_false]
    rfl
  · have a := of_decide_eq_false a
    have b := of_decide_eq_false b
    rw [decide_eq_true (p := x ≤ v.toInt) (by omega), decide_eq_true (p := v.toInt ≤ y) (by omega)]
    rfl
end RG
